theorem dX9_reading_0 : decode cX9_reading 0 = .ok (.iload_n 1, 1) := by decide +kernel
theorem dX9_reading_1 : decode cX9_reading 1 = .ok (.ifCond .lt 15, 3) := by decide +kernel
theorem dX9_reading_4 : decode cX9_reading 4 = .ok (.iload_n 2, 1) := by decide +kernel
theorem dX9_reading_5 : decode cX9_reading 5 = .ok (.i2l, 1) := by decide +kernel
theorem dX9_reading_6 : decode cX9_reading 6 = .ok (.lconst 0, 1) := by decide +kernel
theorem dX9_reading_7 : decode cX9_reading 7 = .ok (.ldc2_w 121, 3) := by decide +kernel
theorem dX9_reading_10 : decode cX9_reading 10 = .ok (.invokestatic 117, 3) := by decide +kernel
theorem dX9_reading_13 : decode cX9_reading 13 = .ok (.ifCond .ne 5, 3) := by decide +kernel
theorem dX9_reading_16 : decode cX9_reading 16 = .ok (.iconst (-1), 1) := by decide +kernel
theorem dX9_reading_17 : decode cX9_reading 17 = .ok (.ireturn, 1) := by decide +kernel
theorem dX9_reading_18 : decode cX9_reading 18 = .ok (.aload_n 0, 1) := by decide +kernel
theorem dX9_reading_19 : decode cX9_reading 19 = .ok (.getfield 226, 3) := by decide +kernel
theorem dX9_reading_22 : decode cX9_reading 22 = .ok (.ifCond .eq 11, 3) := by decide +kernel
theorem dX9_reading_25 : decode cX9_reading 25 = .ok (.iload_n 1, 1) := by decide +kernel
theorem dX9_reading_26 : decode cX9_reading 26 = .ok (.aload_n 0, 1) := by decide +kernel
theorem dX9_reading_27 : decode cX9_reading 27 = .ok (.getfield 219, 3) := by decide +kernel
theorem dX9_reading_30 : decode cX9_reading 30 = .ok (.if_icmp .lt 6, 3) := by decide +kernel
theorem dX9_reading_33 : decode cX9_reading 33 = .ok (.bipush (-4), 2) := by decide +kernel
theorem dX9_reading_35 : decode cX9_reading 35 = .ok (.ireturn, 1) := by decide +kernel
theorem dX9_reading_36 : decode cX9_reading 36 = .ok (.iload_n 2, 1) := by decide +kernel
theorem dX9_reading_37 : decode cX9_reading 37 = .ok (.ifCond .ne 12, 3) := by decide +kernel
theorem dX9_reading_40 : decode cX9_reading 40 = .ok (.aload_n 0, 1) := by decide +kernel
theorem dX9_reading_41 : decode cX9_reading 41 = .ok (.getfield 58, 3) := by decide +kernel
theorem dX9_reading_44 : decode cX9_reading 44 = .ok (.iload_n 1, 1) := by decide +kernel
theorem dX9_reading_45 : decode cX9_reading 45 = .ok (.iaload, 1) := by decide +kernel
theorem dX9_reading_46 : decode cX9_reading 46 = .ok (.goto 49, 3) := by decide +kernel
theorem dX9_reading_49 : decode cX9_reading 49 = .ok (.iload_n 2, 1) := by decide +kernel
theorem dX9_reading_50 : decode cX9_reading 50 = .ok (.iconst 4, 1) := by decide +kernel
theorem dX9_reading_51 : decode cX9_reading 51 = .ok (.if_icmp .ne 12, 3) := by decide +kernel
theorem dX9_reading_54 : decode cX9_reading 54 = .ok (.aload_n 0, 1) := by decide +kernel
theorem dX9_reading_55 : decode cX9_reading 55 = .ok (.getfield 64, 3) := by decide +kernel
theorem dX9_reading_58 : decode cX9_reading 58 = .ok (.iload_n 1, 1) := by decide +kernel
theorem dX9_reading_59 : decode cX9_reading 59 = .ok (.iaload, 1) := by decide +kernel
theorem dX9_reading_60 : decode cX9_reading 60 = .ok (.goto 35, 3) := by decide +kernel
theorem dX9_reading_63 : decode cX9_reading 63 = .ok (.aload_n 0, 1) := by decide +kernel
theorem dX9_reading_64 : decode cX9_reading 64 = .ok (.getfield 61, 3) := by decide +kernel
theorem dX9_reading_67 : decode cX9_reading 67 = .ok (.iconst 3, 1) := by decide +kernel
theorem dX9_reading_68 : decode cX9_reading 68 = .ok (.iload_n 1, 1) := by decide +kernel
theorem dX9_reading_69 : decode cX9_reading 69 = .ok (.imul, 1) := by decide +kernel
theorem dX9_reading_70 : decode cX9_reading 70 = .ok (.iload_n 2, 1) := by decide +kernel
theorem dX9_reading_71 : decode cX9_reading 71 = .ok (.iadd, 1) := by decide +kernel
theorem dX9_reading_72 : decode cX9_reading 72 = .ok (.iconst 1, 1) := by decide +kernel
theorem dX9_reading_73 : decode cX9_reading 73 = .ok (.isub, 1) := by decide +kernel
theorem dX9_reading_74 : decode cX9_reading 74 = .ok (.iaload, 1) := by decide +kernel
theorem dX9_reading_75 : decode cX9_reading 75 = .ok (.ifCond .ge 8, 3) := by decide +kernel
theorem dX9_reading_78 : decode cX9_reading 78 = .ok (.bipush (-4), 2) := by decide +kernel
theorem dX9_reading_80 : decode cX9_reading 80 = .ok (.goto 15, 3) := by decide +kernel
theorem dX9_reading_83 : decode cX9_reading 83 = .ok (.aload_n 0, 1) := by decide +kernel
theorem dX9_reading_84 : decode cX9_reading 84 = .ok (.getfield 61, 3) := by decide +kernel
theorem dX9_reading_87 : decode cX9_reading 87 = .ok (.iconst 3, 1) := by decide +kernel
theorem dX9_reading_88 : decode cX9_reading 88 = .ok (.iload_n 1, 1) := by decide +kernel
theorem dX9_reading_89 : decode cX9_reading 89 = .ok (.imul, 1) := by decide +kernel
theorem dX9_reading_90 : decode cX9_reading 90 = .ok (.iload_n 2, 1) := by decide +kernel
theorem dX9_reading_91 : decode cX9_reading 91 = .ok (.iadd, 1) := by decide +kernel
theorem dX9_reading_92 : decode cX9_reading 92 = .ok (.iconst 1, 1) := by decide +kernel
theorem dX9_reading_93 : decode cX9_reading 93 = .ok (.isub, 1) := by decide +kernel
theorem dX9_reading_94 : decode cX9_reading 94 = .ok (.iaload, 1) := by decide +kernel
theorem dX9_reading_95 : decode cX9_reading 95 = .ok (.ireturn, 1) := by decide +kernel
theorem dX9_outcome_0 : decode cX9_outcome 0 = .ok (.iconst 0, 1) := by decide +kernel
theorem dX9_outcome_1 : decode cX9_outcome 1 = .ok (.istore_n 2, 1) := by decide +kernel
theorem dX9_outcome_2 : decode cX9_outcome 2 = .ok (.iconst 0, 1) := by decide +kernel
theorem dX9_outcome_3 : decode cX9_outcome 3 = .ok (.istore_n 3, 1) := by decide +kernel
theorem dX9_outcome_4 : decode cX9_outcome 4 = .ok (.iload_n 3, 1) := by decide +kernel
theorem dX9_outcome_5 : decode cX9_outcome 5 = .ok (.aload_n 0, 1) := by decide +kernel
theorem dX9_outcome_6 : decode cX9_outcome 6 = .ok (.getfield 113, 3) := by decide +kernel
theorem dX9_outcome_9 : decode cX9_outcome 9 = .ok (.if_icmp .ge 51, 3) := by decide +kernel
theorem dX9_outcome_12 : decode cX9_outcome 12 = .ok (.iload_n 2, 1) := by decide +kernel
theorem dX9_outcome_13 : decode cX9_outcome 13 = .ok (.aload_n 0, 1) := by decide +kernel
theorem dX9_outcome_14 : decode cX9_outcome 14 = .ok (.getfield 64, 3) := by decide +kernel
theorem dX9_outcome_17 : decode cX9_outcome 17 = .ok (.iload_n 1, 1) := by decide +kernel
theorem dX9_outcome_18 : decode cX9_outcome 18 = .ok (.iaload, 1) := by decide +kernel
theorem dX9_outcome_19 : decode cX9_outcome 19 = .ok (.iload_n 3, 1) := by decide +kernel
theorem dX9_outcome_20 : decode cX9_outcome 20 = .ok (.invokestatic 208, 3) := by decide +kernel
theorem dX9_outcome_23 : decode cX9_outcome 23 = .ok (.ifCond .eq 19, 3) := by decide +kernel
theorem dX9_outcome_26 : decode cX9_outcome 26 = .ok (.aload_n 0, 1) := by decide +kernel
theorem dX9_outcome_27 : decode cX9_outcome 27 = .ok (.getfield 37, 3) := by decide +kernel
theorem dX9_outcome_30 : decode cX9_outcome 30 = .ok (.aload_n 0, 1) := by decide +kernel
theorem dX9_outcome_31 : decode cX9_outcome 31 = .ok (.getfield 61, 3) := by decide +kernel
theorem dX9_outcome_34 : decode cX9_outcome 34 = .ok (.iconst 3, 1) := by decide +kernel
theorem dX9_outcome_35 : decode cX9_outcome 35 = .ok (.iload_n 1, 1) := by decide +kernel
theorem dX9_outcome_36 : decode cX9_outcome 36 = .ok (.imul, 1) := by decide +kernel
theorem dX9_outcome_37 : decode cX9_outcome 37 = .ok (.iaload, 1) := by decide +kernel
theorem dX9_outcome_38 : decode cX9_outcome 38 = .ok (.iaload, 1) := by decide +kernel
theorem dX9_outcome_39 : decode cX9_outcome 39 = .ok (.goto 9, 3) := by decide +kernel
theorem dX9_outcome_42 : decode cX9_outcome 42 = .ok (.aload_n 0, 1) := by decide +kernel
theorem dX9_outcome_43 : decode cX9_outcome 43 = .ok (.getfield 22, 3) := by decide +kernel
theorem dX9_outcome_46 : decode cX9_outcome 46 = .ok (.iload_n 3, 1) := by decide +kernel
theorem dX9_outcome_47 : decode cX9_outcome 47 = .ok (.iaload, 1) := by decide +kernel
theorem dX9_outcome_48 : decode cX9_outcome 48 = .ok (.iconst 2, 1) := by decide +kernel
theorem dX9_outcome_49 : decode cX9_outcome 49 = .ok (.iload_n 3, 1) := by decide +kernel
theorem dX9_outcome_50 : decode cX9_outcome 50 = .ok (.imul, 1) := by decide +kernel
theorem dX9_outcome_51 : decode cX9_outcome 51 = .ok (.ishl, 1) := by decide +kernel
theorem dX9_outcome_52 : decode cX9_outcome 52 = .ok (.ior, 1) := by decide +kernel
theorem dX9_outcome_53 : decode cX9_outcome 53 = .ok (.istore_n 2, 1) := by decide +kernel
theorem dX9_outcome_54 : decode cX9_outcome 54 = .ok (.iinc 3 1, 3) := by decide +kernel
theorem dX9_outcome_57 : decode cX9_outcome 57 = .ok (.goto (-53), 3) := by decide +kernel
theorem dX9_outcome_60 : decode cX9_outcome 60 = .ok (.iload_n 2, 1) := by decide +kernel
theorem dX9_outcome_61 : decode cX9_outcome 61 = .ok (.ireturn, 1) := by decide +kernel
theorem dX9_unlikeMany_0 : decode cX9_unlikeMany 0 = .ok (.iconst 0, 1) := by decide +kernel
theorem dX9_unlikeMany_1 : decode cX9_unlikeMany 1 = .ok (.istore_n 1, 1) := by decide +kernel
theorem dX9_unlikeMany_2 : decode cX9_unlikeMany 2 = .ok (.iconst 0, 1) := by decide +kernel
theorem dX9_unlikeMany_3 : decode cX9_unlikeMany 3 = .ok (.istore_n 2, 1) := by decide +kernel
theorem dX9_unlikeMany_4 : decode cX9_unlikeMany 4 = .ok (.iload_n 2, 1) := by decide +kernel
theorem dX9_unlikeMany_5 : decode cX9_unlikeMany 5 = .ok (.aload_n 0, 1) := by decide +kernel
theorem dX9_unlikeMany_6 : decode cX9_unlikeMany 6 = .ok (.getfield 219, 3) := by decide +kernel
theorem dX9_unlikeMany_9 : decode cX9_unlikeMany 9 = .ok (.if_icmp .ge 77, 3) := by decide +kernel
theorem dX9_unlikeMany_12 : decode cX9_unlikeMany 12 = .ok (.aload_n 0, 1) := by decide +kernel
theorem dX9_unlikeMany_13 : decode cX9_unlikeMany 13 = .ok (.getfield 67, 3) := by decide +kernel
theorem dX9_unlikeMany_16 : decode cX9_unlikeMany 16 = .ok (.iload_n 2, 1) := by decide +kernel
theorem dX9_unlikeMany_17 : decode cX9_unlikeMany 17 = .ok (.baload, 1) := by decide +kernel
theorem dX9_unlikeMany_18 : decode cX9_unlikeMany 18 = .ok (.istore_n 3, 1) := by decide +kernel
theorem dX9_unlikeMany_19 : decode cX9_unlikeMany 19 = .ok (.iconst 0, 1) := by decide +kernel
theorem dX9_unlikeMany_20 : decode cX9_unlikeMany 20 = .ok (.istore 4, 2) := by decide +kernel
theorem dX9_unlikeMany_22 : decode cX9_unlikeMany 22 = .ok (.iload 4, 2) := by decide +kernel
theorem dX9_unlikeMany_24 : decode cX9_unlikeMany 24 = .ok (.iload_n 2, 1) := by decide +kernel
theorem dX9_unlikeMany_25 : decode cX9_unlikeMany 25 = .ok (.if_icmp .ge 43, 3) := by decide +kernel
theorem dX9_unlikeMany_28 : decode cX9_unlikeMany 28 = .ok (.iload_n 3, 1) := by decide +kernel
theorem dX9_unlikeMany_29 : decode cX9_unlikeMany 29 = .ok (.ifCond .eq 31, 3) := by decide +kernel
theorem dX9_unlikeMany_32 : decode cX9_unlikeMany 32 = .ok (.aload_n 0, 1) := by decide +kernel
theorem dX9_unlikeMany_33 : decode cX9_unlikeMany 33 = .ok (.getfield 67, 3) := by decide +kernel
theorem dX9_unlikeMany_36 : decode cX9_unlikeMany 36 = .ok (.iload 4, 2) := by decide +kernel
theorem dX9_unlikeMany_38 : decode cX9_unlikeMany 38 = .ok (.baload, 1) := by decide +kernel
theorem dX9_unlikeMany_39 : decode cX9_unlikeMany 39 = .ok (.ifCond .eq 17, 3) := by decide +kernel
theorem dX9_unlikeMany_42 : decode cX9_unlikeMany 42 = .ok (.aload_n 0, 1) := by decide +kernel
theorem dX9_unlikeMany_43 : decode cX9_unlikeMany 43 = .ok (.iload 4, 2) := by decide +kernel
theorem dX9_unlikeMany_45 : decode cX9_unlikeMany 45 = .ok (.invokevirtual 239, 3) := by decide +kernel
theorem dX9_unlikeMany_48 : decode cX9_unlikeMany 48 = .ok (.aload_n 0, 1) := by decide +kernel
theorem dX9_unlikeMany_49 : decode cX9_unlikeMany 49 = .ok (.iload_n 2, 1) := by decide +kernel
theorem dX9_unlikeMany_50 : decode cX9_unlikeMany 50 = .ok (.invokevirtual 239, 3) := by decide +kernel
theorem dX9_unlikeMany_53 : decode cX9_unlikeMany 53 = .ok (.if_icmp .eq 7, 3) := by decide +kernel
theorem dX9_unlikeMany_56 : decode cX9_unlikeMany 56 = .ok (.iconst 1, 1) := by decide +kernel
theorem dX9_unlikeMany_57 : decode cX9_unlikeMany 57 = .ok (.goto 4, 3) := by decide +kernel
theorem dX9_unlikeMany_60 : decode cX9_unlikeMany 60 = .ok (.iconst 0, 1) := by decide +kernel
theorem dX9_unlikeMany_61 : decode cX9_unlikeMany 61 = .ok (.istore_n 3, 1) := by decide +kernel
theorem dX9_unlikeMany_62 : decode cX9_unlikeMany 62 = .ok (.iinc 4 1, 3) := by decide +kernel
theorem dX9_unlikeMany_65 : decode cX9_unlikeMany 65 = .ok (.goto (-43), 3) := by decide +kernel
theorem dX9_unlikeMany_68 : decode cX9_unlikeMany 68 = .ok (.iload_n 1, 1) := by decide +kernel
theorem dX9_unlikeMany_69 : decode cX9_unlikeMany 69 = .ok (.iload_n 3, 1) := by decide +kernel
theorem dX9_unlikeMany_70 : decode cX9_unlikeMany 70 = .ok (.ifCond .eq 7, 3) := by decide +kernel
theorem dX9_unlikeMany_73 : decode cX9_unlikeMany 73 = .ok (.iconst 1, 1) := by decide +kernel
theorem dX9_unlikeMany_74 : decode cX9_unlikeMany 74 = .ok (.goto 4, 3) := by decide +kernel
theorem dX9_unlikeMany_77 : decode cX9_unlikeMany 77 = .ok (.iconst 0, 1) := by decide +kernel
theorem dX9_unlikeMany_78 : decode cX9_unlikeMany 78 = .ok (.iadd, 1) := by decide +kernel
theorem dX9_unlikeMany_79 : decode cX9_unlikeMany 79 = .ok (.istore_n 1, 1) := by decide +kernel
theorem dX9_unlikeMany_80 : decode cX9_unlikeMany 80 = .ok (.iinc 2 1, 3) := by decide +kernel
theorem dX9_unlikeMany_83 : decode cX9_unlikeMany 83 = .ok (.goto (-79), 3) := by decide +kernel
theorem dX9_unlikeMany_86 : decode cX9_unlikeMany 86 = .ok (.iload_n 1, 1) := by decide +kernel
theorem dX9_unlikeMany_87 : decode cX9_unlikeMany 87 = .ok (.ireturn, 1) := by decide +kernel
theorem dX9_open_0 : decode cX9_open 0 = .ok (.aload_n 0, 1) := by decide +kernel
theorem dX9_open_1 : decode cX9_open 1 = .ok (.getfield 226, 3) := by decide +kernel
theorem dX9_open_4 : decode cX9_open 4 = .ok (.ifCond .eq 10, 3) := by decide +kernel
theorem dX9_open_7 : decode cX9_open 7 = .ok (.aload_n 0, 1) := by decide +kernel
theorem dX9_open_8 : decode cX9_open 8 = .ok (.invokevirtual 242, 3) := by decide +kernel
theorem dX9_open_11 : decode cX9_open 11 = .ok (.goto 5, 3) := by decide +kernel
theorem dX9_open_14 : decode cX9_open 14 = .ok (.bipush (-2), 2) := by decide +kernel
theorem dX9_open_16 : decode cX9_open 16 = .ok (.ireturn, 1) := by decide +kernel
theorem dX9_ask_0 : decode cX9_ask 0 = .ok (.aload_n 0, 1) := by decide +kernel
theorem dX9_ask_1 : decode cX9_ask 1 = .ok (.getfield 226, 3) := by decide +kernel
theorem dX9_ask_4 : decode cX9_ask 4 = .ok (.ifCond .ne 6, 3) := by decide +kernel
theorem dX9_ask_7 : decode cX9_ask 7 = .ok (.bipush (-2), 2) := by decide +kernel
theorem dX9_ask_9 : decode cX9_ask 9 = .ok (.ireturn, 1) := by decide +kernel
theorem dX9_ask_10 : decode cX9_ask 10 = .ok (.aload_n 0, 1) := by decide +kernel
theorem dX9_ask_11 : decode cX9_ask 11 = .ok (.invokevirtual 242, 3) := by decide +kernel
theorem dX9_ask_14 : decode cX9_ask 14 = .ok (.iconst 2, 1) := by decide +kernel
theorem dX9_ask_15 : decode cX9_ask 15 = .ok (.if_icmp .ge 6, 3) := by decide +kernel
theorem dX9_ask_18 : decode cX9_ask 18 = .ok (.bipush (-4), 2) := by decide +kernel
theorem dX9_ask_20 : decode cX9_ask 20 = .ok (.ireturn, 1) := by decide +kernel
theorem dX9_ask_21 : decode cX9_ask 21 = .ok (.bipush (-4), 2) := by decide +kernel
theorem dX9_ask_23 : decode cX9_ask 23 = .ok (.istore_n 1, 1) := by decide +kernel
theorem dX9_ask_24 : decode cX9_ask 24 = .ok (.iconst 0, 1) := by decide +kernel
theorem dX9_ask_25 : decode cX9_ask 25 = .ok (.istore_n 2, 1) := by decide +kernel
theorem dX9_ask_26 : decode cX9_ask 26 = .ok (.iconst 0, 1) := by decide +kernel
theorem dX9_ask_27 : decode cX9_ask 27 = .ok (.istore_n 3, 1) := by decide +kernel
theorem dX9_ask_28 : decode cX9_ask 28 = .ok (.iload_n 3, 1) := by decide +kernel
theorem dX9_ask_29 : decode cX9_ask 29 = .ok (.iconst 3, 1) := by decide +kernel
theorem dX9_ask_30 : decode cX9_ask 30 = .ok (.if_icmp .ge 139, 3) := by decide +kernel
theorem dX9_ask_33 : decode cX9_ask 33 = .ok (.iconst 0, 1) := by decide +kernel
theorem dX9_ask_34 : decode cX9_ask 34 = .ok (.istore 4, 2) := by decide +kernel
theorem dX9_ask_36 : decode cX9_ask 36 = .ok (.iconst 0, 1) := by decide +kernel
theorem dX9_ask_37 : decode cX9_ask 37 = .ok (.istore 5, 2) := by decide +kernel
theorem dX9_ask_39 : decode cX9_ask 39 = .ok (.iload 5, 2) := by decide +kernel
theorem dX9_ask_41 : decode cX9_ask 41 = .ok (.aload_n 0, 1) := by decide +kernel
theorem dX9_ask_42 : decode cX9_ask 42 = .ok (.getfield 219, 3) := by decide +kernel
theorem dX9_ask_45 : decode cX9_ask 45 = .ok (.if_icmp .ge 101, 3) := by decide +kernel
theorem dX9_ask_48 : decode cX9_ask 48 = .ok (.iconst 0, 1) := by decide +kernel
theorem dX9_ask_49 : decode cX9_ask 49 = .ok (.istore 6, 2) := by decide +kernel
theorem dX9_ask_51 : decode cX9_ask 51 = .ok (.iconst 0, 1) := by decide +kernel
theorem dX9_ask_52 : decode cX9_ask 52 = .ok (.istore 7, 2) := by decide +kernel
theorem dX9_ask_54 : decode cX9_ask 54 = .ok (.iload 7, 2) := by decide +kernel
theorem dX9_ask_56 : decode cX9_ask 56 = .ok (.aload_n 0, 1) := by decide +kernel
theorem dX9_ask_57 : decode cX9_ask 57 = .ok (.getfield 219, 3) := by decide +kernel
theorem dX9_ask_60 : decode cX9_ask 60 = .ok (.if_icmp .ge 64, 3) := by decide +kernel
theorem dX9_ask_63 : decode cX9_ask 63 = .ok (.iload 6, 2) := by decide +kernel
theorem dX9_ask_65 : decode cX9_ask 65 = .ok (.aload_n 0, 1) := by decide +kernel
theorem dX9_ask_66 : decode cX9_ask 66 = .ok (.getfield 67, 3) := by decide +kernel
theorem dX9_ask_69 : decode cX9_ask 69 = .ok (.iload 5, 2) := by decide +kernel
theorem dX9_ask_71 : decode cX9_ask 71 = .ok (.baload, 1) := by decide +kernel
theorem dX9_ask_72 : decode cX9_ask 72 = .ok (.ifCond .eq 42, 3) := by decide +kernel
theorem dX9_ask_75 : decode cX9_ask 75 = .ok (.aload_n 0, 1) := by decide +kernel
theorem dX9_ask_76 : decode cX9_ask 76 = .ok (.getfield 67, 3) := by decide +kernel
theorem dX9_ask_79 : decode cX9_ask 79 = .ok (.iload 7, 2) := by decide +kernel
theorem dX9_ask_81 : decode cX9_ask 81 = .ok (.baload, 1) := by decide +kernel
theorem dX9_ask_82 : decode cX9_ask 82 = .ok (.ifCond .eq 32, 3) := by decide +kernel
theorem dX9_ask_85 : decode cX9_ask 85 = .ok (.aload_n 0, 1) := by decide +kernel
theorem dX9_ask_86 : decode cX9_ask 86 = .ok (.getfield 61, 3) := by decide +kernel
theorem dX9_ask_89 : decode cX9_ask 89 = .ok (.iconst 3, 1) := by decide +kernel
theorem dX9_ask_90 : decode cX9_ask 90 = .ok (.iload 5, 2) := by decide +kernel
theorem dX9_ask_92 : decode cX9_ask 92 = .ok (.imul, 1) := by decide +kernel
theorem dX9_ask_93 : decode cX9_ask 93 = .ok (.iload_n 3, 1) := by decide +kernel
theorem dX9_ask_94 : decode cX9_ask 94 = .ok (.iadd, 1) := by decide +kernel
theorem dX9_ask_95 : decode cX9_ask 95 = .ok (.iaload, 1) := by decide +kernel
theorem dX9_ask_96 : decode cX9_ask 96 = .ok (.aload_n 0, 1) := by decide +kernel
theorem dX9_ask_97 : decode cX9_ask 97 = .ok (.getfield 61, 3) := by decide +kernel
theorem dX9_ask_100 : decode cX9_ask 100 = .ok (.iconst 3, 1) := by decide +kernel
theorem dX9_ask_101 : decode cX9_ask 101 = .ok (.iload 7, 2) := by decide +kernel
theorem dX9_ask_103 : decode cX9_ask 103 = .ok (.imul, 1) := by decide +kernel
theorem dX9_ask_104 : decode cX9_ask 104 = .ok (.iload_n 3, 1) := by decide +kernel
theorem dX9_ask_105 : decode cX9_ask 105 = .ok (.iadd, 1) := by decide +kernel
theorem dX9_ask_106 : decode cX9_ask 106 = .ok (.iaload, 1) := by decide +kernel
theorem dX9_ask_107 : decode cX9_ask 107 = .ok (.if_icmp .ne 7, 3) := by decide +kernel
theorem dX9_ask_110 : decode cX9_ask 110 = .ok (.iconst 1, 1) := by decide +kernel
theorem dX9_ask_111 : decode cX9_ask 111 = .ok (.goto 4, 3) := by decide +kernel
theorem dX9_ask_114 : decode cX9_ask 114 = .ok (.iconst 0, 1) := by decide +kernel
theorem dX9_ask_115 : decode cX9_ask 115 = .ok (.iadd, 1) := by decide +kernel
theorem dX9_ask_116 : decode cX9_ask 116 = .ok (.istore 6, 2) := by decide +kernel
theorem dX9_ask_118 : decode cX9_ask 118 = .ok (.iinc 7 1, 3) := by decide +kernel
theorem dX9_ask_121 : decode cX9_ask 121 = .ok (.goto (-67), 3) := by decide +kernel
theorem dX9_ask_124 : decode cX9_ask 124 = .ok (.iload 6, 2) := by decide +kernel
theorem dX9_ask_126 : decode cX9_ask 126 = .ok (.iload 4, 2) := by decide +kernel
theorem dX9_ask_128 : decode cX9_ask 128 = .ok (.if_icmp .le 8, 3) := by decide +kernel
theorem dX9_ask_131 : decode cX9_ask 131 = .ok (.iload 6, 2) := by decide +kernel
theorem dX9_ask_133 : decode cX9_ask 133 = .ok (.goto 5, 3) := by decide +kernel
theorem dX9_ask_136 : decode cX9_ask 136 = .ok (.iload 4, 2) := by decide +kernel
theorem dX9_ask_138 : decode cX9_ask 138 = .ok (.istore 4, 2) := by decide +kernel
theorem dX9_ask_140 : decode cX9_ask 140 = .ok (.iinc 5 1, 3) := by decide +kernel
theorem dX9_ask_143 : decode cX9_ask 143 = .ok (.goto (-104), 3) := by decide +kernel
theorem dX9_ask_146 : decode cX9_ask 146 = .ok (.iload_n 1, 1) := by decide +kernel
theorem dX9_ask_147 : decode cX9_ask 147 = .ok (.bipush (-4), 2) := by decide +kernel
theorem dX9_ask_149 : decode cX9_ask 149 = .ok (.if_icmp .eq 9, 3) := by decide +kernel
theorem dX9_ask_152 : decode cX9_ask 152 = .ok (.iload 4, 2) := by decide +kernel
theorem dX9_ask_154 : decode cX9_ask 154 = .ok (.iload_n 2, 1) := by decide +kernel
theorem dX9_ask_155 : decode cX9_ask 155 = .ok (.if_icmp .ge 8, 3) := by decide +kernel
theorem dX9_ask_158 : decode cX9_ask 158 = .ok (.iload_n 3, 1) := by decide +kernel
theorem dX9_ask_159 : decode cX9_ask 159 = .ok (.istore_n 1, 1) := by decide +kernel
theorem dX9_ask_160 : decode cX9_ask 160 = .ok (.iload 4, 2) := by decide +kernel
theorem dX9_ask_162 : decode cX9_ask 162 = .ok (.istore_n 2, 1) := by decide +kernel
theorem dX9_ask_163 : decode cX9_ask 163 = .ok (.iinc 3 1, 3) := by decide +kernel
theorem dX9_ask_166 : decode cX9_ask 166 = .ok (.goto (-138), 3) := by decide +kernel
theorem dX9_ask_169 : decode cX9_ask 169 = .ok (.iload_n 1, 1) := by decide +kernel
theorem dX9_ask_170 : decode cX9_ask 170 = .ok (.ireturn, 1) := by decide +kernel
theorem dX9_answer_0 : decode cX9_answer 0 = .ok (.iload_n 1, 1) := by decide +kernel
theorem dX9_answer_1 : decode cX9_answer 1 = .ok (.i2l, 1) := by decide +kernel
theorem dX9_answer_2 : decode cX9_answer 2 = .ok (.lconst 0, 1) := by decide +kernel
theorem dX9_answer_3 : decode cX9_answer 3 = .ok (.ldc2_w 142, 3) := by decide +kernel
theorem dX9_answer_6 : decode cX9_answer 6 = .ok (.invokestatic 117, 3) := by decide +kernel
theorem dX9_answer_9 : decode cX9_answer 9 = .ok (.ifCond .eq 30, 3) := by decide +kernel
theorem dX9_answer_12 : decode cX9_answer 12 = .ok (.iload_n 2, 1) := by decide +kernel
theorem dX9_answer_13 : decode cX9_answer 13 = .ok (.i2l, 1) := by decide +kernel
theorem dX9_answer_14 : decode cX9_answer 14 = .ok (.iload_n 1, 1) := by decide +kernel
theorem dX9_answer_15 : decode cX9_answer 15 = .ok (.iconst 2, 1) := by decide +kernel
theorem dX9_answer_16 : decode cX9_answer 16 = .ok (.if_icmp .ne 9, 3) := by decide +kernel
theorem dX9_answer_19 : decode cX9_answer 19 = .ok (.ldc2_w 129, 3) := by decide +kernel
theorem dX9_answer_22 : decode cX9_answer 22 = .ok (.goto 4, 3) := by decide +kernel
theorem dX9_answer_25 : decode cX9_answer 25 = .ok (.lconst 0, 1) := by decide +kernel
theorem dX9_answer_26 : decode cX9_answer 26 = .ok (.aload_n 0, 1) := by decide +kernel
theorem dX9_answer_27 : decode cX9_answer 27 = .ok (.getfield 139, 3) := by decide +kernel
theorem dX9_answer_30 : decode cX9_answer 30 = .ok (.iconst 1, 1) := by decide +kernel
theorem dX9_answer_31 : decode cX9_answer 31 = .ok (.isub, 1) := by decide +kernel
theorem dX9_answer_32 : decode cX9_answer 32 = .ok (.i2l, 1) := by decide +kernel
theorem dX9_answer_33 : decode cX9_answer 33 = .ok (.invokestatic 117, 3) := by decide +kernel
theorem dX9_answer_36 : decode cX9_answer 36 = .ok (.ifCond .ne 5, 3) := by decide +kernel
theorem dX9_answer_39 : decode cX9_answer 39 = .ok (.iconst (-1), 1) := by decide +kernel
theorem dX9_answer_40 : decode cX9_answer 40 = .ok (.ireturn, 1) := by decide +kernel
theorem dX9_answer_41 : decode cX9_answer 41 = .ok (.iload_n 2, 1) := by decide +kernel
theorem dX9_answer_42 : decode cX9_answer 42 = .ok (.ifCond .ge 8, 3) := by decide +kernel
theorem dX9_answer_45 : decode cX9_answer 45 = .ok (.bipush (-4), 2) := by decide +kernel
theorem dX9_answer_47 : decode cX9_answer 47 = .ok (.goto 4, 3) := by decide +kernel
theorem dX9_answer_50 : decode cX9_answer 50 = .ok (.iload_n 2, 1) := by decide +kernel
theorem dX9_answer_51 : decode cX9_answer 51 = .ok (.istore_n 3, 1) := by decide +kernel
theorem dX9_answer_52 : decode cX9_answer 52 = .ok (.iconst 0, 1) := by decide +kernel
theorem dX9_answer_53 : decode cX9_answer 53 = .ok (.istore 4, 2) := by decide +kernel
theorem dX9_answer_55 : decode cX9_answer 55 = .ok (.iconst 0, 1) := by decide +kernel
theorem dX9_answer_56 : decode cX9_answer 56 = .ok (.istore 5, 2) := by decide +kernel
theorem dX9_answer_58 : decode cX9_answer 58 = .ok (.iload 5, 2) := by decide +kernel
theorem dX9_answer_60 : decode cX9_answer 60 = .ok (.aload_n 0, 1) := by decide +kernel
theorem dX9_answer_61 : decode cX9_answer 61 = .ok (.getfield 219, 3) := by decide +kernel
theorem dX9_answer_64 : decode cX9_answer 64 = .ok (.if_icmp .ge 51, 3) := by decide +kernel
theorem dX9_answer_67 : decode cX9_answer 67 = .ok (.aload_n 0, 1) := by decide +kernel
theorem dX9_answer_68 : decode cX9_answer 68 = .ok (.getfield 226, 3) := by decide +kernel
theorem dX9_answer_71 : decode cX9_answer 71 = .ok (.ifCond .eq 44, 3) := by decide +kernel
theorem dX9_answer_74 : decode cX9_answer 74 = .ok (.iload 4, 2) := by decide +kernel
theorem dX9_answer_76 : decode cX9_answer 76 = .ok (.aload_n 0, 1) := by decide +kernel
theorem dX9_answer_77 : decode cX9_answer 77 = .ok (.getfield 67, 3) := by decide +kernel
theorem dX9_answer_80 : decode cX9_answer 80 = .ok (.iload 5, 2) := by decide +kernel
theorem dX9_answer_82 : decode cX9_answer 82 = .ok (.baload, 1) := by decide +kernel
theorem dX9_answer_83 : decode cX9_answer 83 = .ok (.ifCond .eq 22, 3) := by decide +kernel
theorem dX9_answer_86 : decode cX9_answer 86 = .ok (.aload_n 0, 1) := by decide +kernel
theorem dX9_answer_87 : decode cX9_answer 87 = .ok (.getfield 61, 3) := by decide +kernel
theorem dX9_answer_90 : decode cX9_answer 90 = .ok (.iconst 3, 1) := by decide +kernel
theorem dX9_answer_91 : decode cX9_answer 91 = .ok (.iload 5, 2) := by decide +kernel
theorem dX9_answer_93 : decode cX9_answer 93 = .ok (.imul, 1) := by decide +kernel
theorem dX9_answer_94 : decode cX9_answer 94 = .ok (.iload_n 1, 1) := by decide +kernel
theorem dX9_answer_95 : decode cX9_answer 95 = .ok (.iadd, 1) := by decide +kernel
theorem dX9_answer_96 : decode cX9_answer 96 = .ok (.iaload, 1) := by decide +kernel
theorem dX9_answer_97 : decode cX9_answer 97 = .ok (.iload_n 3, 1) := by decide +kernel
theorem dX9_answer_98 : decode cX9_answer 98 = .ok (.if_icmp .ne 7, 3) := by decide +kernel
theorem dX9_answer_101 : decode cX9_answer 101 = .ok (.iconst 1, 1) := by decide +kernel
theorem dX9_answer_102 : decode cX9_answer 102 = .ok (.goto 4, 3) := by decide +kernel
theorem dX9_answer_105 : decode cX9_answer 105 = .ok (.iconst 0, 1) := by decide +kernel
theorem dX9_answer_106 : decode cX9_answer 106 = .ok (.iadd, 1) := by decide +kernel
theorem dX9_answer_107 : decode cX9_answer 107 = .ok (.istore 4, 2) := by decide +kernel
theorem dX9_answer_109 : decode cX9_answer 109 = .ok (.iinc 5 1, 3) := by decide +kernel
theorem dX9_answer_112 : decode cX9_answer 112 = .ok (.goto (-54), 3) := by decide +kernel
theorem dX9_answer_115 : decode cX9_answer 115 = .ok (.iload 4, 2) := by decide +kernel
theorem dX9_answer_117 : decode cX9_answer 117 = .ok (.ifCond .ne 6, 3) := by decide +kernel
theorem dX9_answer_120 : decode cX9_answer 120 = .ok (.bipush (-2), 2) := by decide +kernel
theorem dX9_answer_122 : decode cX9_answer 122 = .ok (.ireturn, 1) := by decide +kernel
theorem dX9_answer_123 : decode cX9_answer 123 = .ok (.iconst 0, 1) := by decide +kernel
theorem dX9_answer_124 : decode cX9_answer 124 = .ok (.istore 5, 2) := by decide +kernel
theorem dX9_answer_126 : decode cX9_answer 126 = .ok (.iload 5, 2) := by decide +kernel
theorem dX9_answer_128 : decode cX9_answer 128 = .ok (.aload_n 0, 1) := by decide +kernel
theorem dX9_answer_129 : decode cX9_answer 129 = .ok (.getfield 219, 3) := by decide +kernel
theorem dX9_answer_132 : decode cX9_answer 132 = .ok (.if_icmp .ge 46, 3) := by decide +kernel
theorem dX9_answer_135 : decode cX9_answer 135 = .ok (.aload_n 0, 1) := by decide +kernel
theorem dX9_answer_136 : decode cX9_answer 136 = .ok (.getfield 67, 3) := by decide +kernel
theorem dX9_answer_139 : decode cX9_answer 139 = .ok (.iload 5, 2) := by decide +kernel
theorem dX9_answer_141 : decode cX9_answer 141 = .ok (.aload_n 0, 1) := by decide +kernel
theorem dX9_answer_142 : decode cX9_answer 142 = .ok (.getfield 67, 3) := by decide +kernel
theorem dX9_answer_145 : decode cX9_answer 145 = .ok (.iload 5, 2) := by decide +kernel
theorem dX9_answer_147 : decode cX9_answer 147 = .ok (.baload, 1) := by decide +kernel
theorem dX9_answer_148 : decode cX9_answer 148 = .ok (.ifCond .eq 22, 3) := by decide +kernel
theorem dX9_answer_151 : decode cX9_answer 151 = .ok (.aload_n 0, 1) := by decide +kernel
theorem dX9_answer_152 : decode cX9_answer 152 = .ok (.getfield 61, 3) := by decide +kernel
theorem dX9_answer_155 : decode cX9_answer 155 = .ok (.iconst 3, 1) := by decide +kernel
theorem dX9_answer_156 : decode cX9_answer 156 = .ok (.iload 5, 2) := by decide +kernel
theorem dX9_answer_158 : decode cX9_answer 158 = .ok (.imul, 1) := by decide +kernel
theorem dX9_answer_159 : decode cX9_answer 159 = .ok (.iload_n 1, 1) := by decide +kernel
theorem dX9_answer_160 : decode cX9_answer 160 = .ok (.iadd, 1) := by decide +kernel
theorem dX9_answer_161 : decode cX9_answer 161 = .ok (.iaload, 1) := by decide +kernel
theorem dX9_answer_162 : decode cX9_answer 162 = .ok (.iload_n 3, 1) := by decide +kernel
theorem dX9_answer_163 : decode cX9_answer 163 = .ok (.if_icmp .ne 7, 3) := by decide +kernel
theorem dX9_answer_166 : decode cX9_answer 166 = .ok (.iconst 1, 1) := by decide +kernel
theorem dX9_answer_167 : decode cX9_answer 167 = .ok (.goto 4, 3) := by decide +kernel
theorem dX9_answer_170 : decode cX9_answer 170 = .ok (.iconst 0, 1) := by decide +kernel
theorem dX9_answer_171 : decode cX9_answer 171 = .ok (.bastore, 1) := by decide +kernel
theorem dX9_answer_172 : decode cX9_answer 172 = .ok (.iinc 5 1, 3) := by decide +kernel
theorem dX9_answer_175 : decode cX9_answer 175 = .ok (.goto (-49), 3) := by decide +kernel
theorem dX9_answer_178 : decode cX9_answer 178 = .ok (.iload 4, 2) := by decide +kernel
theorem dX9_answer_180 : decode cX9_answer 180 = .ok (.ireturn, 1) := by decide +kernel
theorem dX9_wakeBy_0 : decode cX9_wakeBy 0 = .ok (.iconst 0, 1) := by decide +kernel
theorem dX9_wakeBy_1 : decode cX9_wakeBy 1 = .ok (.istore_n 2, 1) := by decide +kernel
theorem dX9_wakeBy_2 : decode cX9_wakeBy 2 = .ok (.iload_n 2, 1) := by decide +kernel
theorem dX9_wakeBy_3 : decode cX9_wakeBy 3 = .ok (.aload_n 0, 1) := by decide +kernel
theorem dX9_wakeBy_4 : decode cX9_wakeBy 4 = .ok (.getfield 245, 3) := by decide +kernel
theorem dX9_wakeBy_7 : decode cX9_wakeBy 7 = .ok (.if_icmp .ge 84, 3) := by decide +kernel
theorem dX9_wakeBy_10 : decode cX9_wakeBy 10 = .ok (.aload_n 0, 1) := by decide +kernel
theorem dX9_wakeBy_11 : decode cX9_wakeBy 11 = .ok (.getfield 80, 3) := by decide +kernel
theorem dX9_wakeBy_14 : decode cX9_wakeBy 14 = .ok (.iconst 5, 1) := by decide +kernel
theorem dX9_wakeBy_15 : decode cX9_wakeBy 15 = .ok (.iload_n 2, 1) := by decide +kernel
theorem dX9_wakeBy_16 : decode cX9_wakeBy 16 = .ok (.imul, 1) := by decide +kernel
theorem dX9_wakeBy_17 : decode cX9_wakeBy 17 = .ok (.iaload, 1) := by decide +kernel
theorem dX9_wakeBy_18 : decode cX9_wakeBy 18 = .ok (.iconst 1, 1) := by decide +kernel
theorem dX9_wakeBy_19 : decode cX9_wakeBy 19 = .ok (.if_icmp .ne 66, 3) := by decide +kernel
theorem dX9_wakeBy_22 : decode cX9_wakeBy 22 = .ok (.aload_n 0, 1) := by decide +kernel
theorem dX9_wakeBy_23 : decode cX9_wakeBy 23 = .ok (.getfield 80, 3) := by decide +kernel
theorem dX9_wakeBy_26 : decode cX9_wakeBy 26 = .ok (.iconst 5, 1) := by decide +kernel
theorem dX9_wakeBy_27 : decode cX9_wakeBy 27 = .ok (.iload_n 2, 1) := by decide +kernel
theorem dX9_wakeBy_28 : decode cX9_wakeBy 28 = .ok (.imul, 1) := by decide +kernel
theorem dX9_wakeBy_29 : decode cX9_wakeBy 29 = .ok (.iconst 1, 1) := by decide +kernel
theorem dX9_wakeBy_30 : decode cX9_wakeBy 30 = .ok (.iadd, 1) := by decide +kernel
theorem dX9_wakeBy_31 : decode cX9_wakeBy 31 = .ok (.iaload, 1) := by decide +kernel
theorem dX9_wakeBy_32 : decode cX9_wakeBy 32 = .ok (.iload_n 1, 1) := by decide +kernel
theorem dX9_wakeBy_33 : decode cX9_wakeBy 33 = .ok (.if_icmp .ne 52, 3) := by decide +kernel
theorem dX9_wakeBy_36 : decode cX9_wakeBy 36 = .ok (.aload_n 0, 1) := by decide +kernel
theorem dX9_wakeBy_37 : decode cX9_wakeBy 37 = .ok (.getfield 80, 3) := by decide +kernel
theorem dX9_wakeBy_40 : decode cX9_wakeBy 40 = .ok (.iconst 5, 1) := by decide +kernel
theorem dX9_wakeBy_41 : decode cX9_wakeBy 41 = .ok (.iload_n 2, 1) := by decide +kernel
theorem dX9_wakeBy_42 : decode cX9_wakeBy 42 = .ok (.imul, 1) := by decide +kernel
theorem dX9_wakeBy_43 : decode cX9_wakeBy 43 = .ok (.iconst 2, 1) := by decide +kernel
theorem dX9_wakeBy_44 : decode cX9_wakeBy 44 = .ok (.iadd, 1) := by decide +kernel
theorem dX9_wakeBy_45 : decode cX9_wakeBy 45 = .ok (.iaload, 1) := by decide +kernel
theorem dX9_wakeBy_46 : decode cX9_wakeBy 46 = .ok (.aload_n 0, 1) := by decide +kernel
theorem dX9_wakeBy_47 : decode cX9_wakeBy 47 = .ok (.getfield 22, 3) := by decide +kernel
theorem dX9_wakeBy_50 : decode cX9_wakeBy 50 = .ok (.iload_n 1, 1) := by decide +kernel
theorem dX9_wakeBy_51 : decode cX9_wakeBy 51 = .ok (.iaload, 1) := by decide +kernel
theorem dX9_wakeBy_52 : decode cX9_wakeBy 52 = .ok (.if_icmp .ne 33, 3) := by decide +kernel
theorem dX9_wakeBy_55 : decode cX9_wakeBy 55 = .ok (.aload_n 0, 1) := by decide +kernel
theorem dX9_wakeBy_56 : decode cX9_wakeBy 56 = .ok (.getfield 248, 3) := by decide +kernel
theorem dX9_wakeBy_59 : decode cX9_wakeBy 59 = .ok (.sipush 400, 3) := by decide +kernel
theorem dX9_wakeBy_62 : decode cX9_wakeBy 62 = .ok (.if_icmp .ge 23, 3) := by decide +kernel
theorem dX9_wakeBy_65 : decode cX9_wakeBy 65 = .ok (.aload_n 0, 1) := by decide +kernel
theorem dX9_wakeBy_66 : decode cX9_wakeBy 66 = .ok (.getfield 101, 3) := by decide +kernel
theorem dX9_wakeBy_69 : decode cX9_wakeBy 69 = .ok (.aload_n 0, 1) := by decide +kernel
theorem dX9_wakeBy_70 : decode cX9_wakeBy 70 = .ok (.getfield 248, 3) := by decide +kernel
theorem dX9_wakeBy_73 : decode cX9_wakeBy 73 = .ok (.iload_n 2, 1) := by decide +kernel
theorem dX9_wakeBy_74 : decode cX9_wakeBy 74 = .ok (.iastore, 1) := by decide +kernel
theorem dX9_wakeBy_75 : decode cX9_wakeBy 75 = .ok (.aload_n 0, 1) := by decide +kernel
theorem dX9_wakeBy_76 : decode cX9_wakeBy 76 = .ok (.dup, 1) := by decide +kernel
theorem dX9_wakeBy_77 : decode cX9_wakeBy 77 = .ok (.getfield 248, 3) := by decide +kernel
theorem dX9_wakeBy_80 : decode cX9_wakeBy 80 = .ok (.iconst 1, 1) := by decide +kernel
theorem dX9_wakeBy_81 : decode cX9_wakeBy 81 = .ok (.iadd, 1) := by decide +kernel
theorem dX9_wakeBy_82 : decode cX9_wakeBy 82 = .ok (.putfield 248, 3) := by decide +kernel
theorem dX9_wakeBy_85 : decode cX9_wakeBy 85 = .ok (.iinc 2 1, 3) := by decide +kernel
theorem dX9_wakeBy_88 : decode cX9_wakeBy 88 = .ok (.goto (-86), 3) := by decide +kernel
theorem dX9_wakeBy_91 : decode cX9_wakeBy 91 = .ok (.return_, 1) := by decide +kernel
theorem dX9_fire_0 : decode cX9_fire 0 = .ok (.iload_n 1, 1) := by decide +kernel
theorem dX9_fire_1 : decode cX9_fire 1 = .ok (.istore_n 2, 1) := by decide +kernel
theorem dX9_fire_2 : decode cX9_fire 2 = .ok (.iconst 0, 1) := by decide +kernel
theorem dX9_fire_3 : decode cX9_fire 3 = .ok (.istore_n 3, 1) := by decide +kernel
theorem dX9_fire_4 : decode cX9_fire 4 = .ok (.iload_n 3, 1) := by decide +kernel
theorem dX9_fire_5 : decode cX9_fire 5 = .ok (.aload_n 0, 1) := by decide +kernel
theorem dX9_fire_6 : decode cX9_fire 6 = .ok (.getfield 248, 3) := by decide +kernel
theorem dX9_fire_9 : decode cX9_fire 9 = .ok (.if_icmp .ge 129, 3) := by decide +kernel
theorem dX9_fire_12 : decode cX9_fire 12 = .ok (.iload_n 2, 1) := by decide +kernel
theorem dX9_fire_13 : decode cX9_fire 13 = .ok (.bipush 30, 2) := by decide +kernel
theorem dX9_fire_15 : decode cX9_fire 15 = .ok (.if_icmp .ge 123, 3) := by decide +kernel
theorem dX9_fire_18 : decode cX9_fire 18 = .ok (.aload_n 0, 1) := by decide +kernel
theorem dX9_fire_19 : decode cX9_fire 19 = .ok (.getfield 101, 3) := by decide +kernel
theorem dX9_fire_22 : decode cX9_fire 22 = .ok (.iload_n 3, 1) := by decide +kernel
theorem dX9_fire_23 : decode cX9_fire 23 = .ok (.iaload, 1) := by decide +kernel
theorem dX9_fire_24 : decode cX9_fire 24 = .ok (.istore 4, 2) := by decide +kernel
theorem dX9_fire_26 : decode cX9_fire 26 = .ok (.aload_n 0, 1) := by decide +kernel
theorem dX9_fire_27 : decode cX9_fire 27 = .ok (.getfield 80, 3) := by decide +kernel
theorem dX9_fire_30 : decode cX9_fire 30 = .ok (.iconst 5, 1) := by decide +kernel
theorem dX9_fire_31 : decode cX9_fire 31 = .ok (.iload 4, 2) := by decide +kernel
theorem dX9_fire_33 : decode cX9_fire 33 = .ok (.imul, 1) := by decide +kernel
theorem dX9_fire_34 : decode cX9_fire 34 = .ok (.iconst 3, 1) := by decide +kernel
theorem dX9_fire_35 : decode cX9_fire 35 = .ok (.iadd, 1) := by decide +kernel
theorem dX9_fire_36 : decode cX9_fire 36 = .ok (.iaload, 1) := by decide +kernel
theorem dX9_fire_37 : decode cX9_fire 37 = .ok (.istore 5, 2) := by decide +kernel
theorem dX9_fire_39 : decode cX9_fire 39 = .ok (.aload_n 0, 1) := by decide +kernel
theorem dX9_fire_40 : decode cX9_fire 40 = .ok (.getfield 80, 3) := by decide +kernel
theorem dX9_fire_43 : decode cX9_fire 43 = .ok (.iconst 5, 1) := by decide +kernel
theorem dX9_fire_44 : decode cX9_fire 44 = .ok (.iload 4, 2) := by decide +kernel
theorem dX9_fire_46 : decode cX9_fire 46 = .ok (.imul, 1) := by decide +kernel
theorem dX9_fire_47 : decode cX9_fire 47 = .ok (.iconst 4, 1) := by decide +kernel
theorem dX9_fire_48 : decode cX9_fire 48 = .ok (.iadd, 1) := by decide +kernel
theorem dX9_fire_49 : decode cX9_fire 49 = .ok (.iaload, 1) := by decide +kernel
theorem dX9_fire_50 : decode cX9_fire 50 = .ok (.istore 6, 2) := by decide +kernel
theorem dX9_fire_52 : decode cX9_fire 52 = .ok (.aload_n 0, 1) := by decide +kernel
theorem dX9_fire_53 : decode cX9_fire 53 = .ok (.getfield 22, 3) := by decide +kernel
theorem dX9_fire_56 : decode cX9_fire 56 = .ok (.iload 5, 2) := by decide +kernel
theorem dX9_fire_58 : decode cX9_fire 58 = .ok (.iaload, 1) := by decide +kernel
theorem dX9_fire_59 : decode cX9_fire 59 = .ok (.istore 7, 2) := by decide +kernel
theorem dX9_fire_61 : decode cX9_fire 61 = .ok (.iload 7, 2) := by decide +kernel
theorem dX9_fire_63 : decode cX9_fire 63 = .ok (.iload 6, 2) := by decide +kernel
theorem dX9_fire_65 : decode cX9_fire 65 = .ok (.if_icmp .eq 67, 3) := by decide +kernel
theorem dX9_fire_68 : decode cX9_fire 68 = .ok (.aload_n 0, 1) := by decide +kernel
theorem dX9_fire_69 : decode cX9_fire 69 = .ok (.invokevirtual 251, 3) := by decide +kernel
theorem dX9_fire_72 : decode cX9_fire 72 = .ok (.aload_n 0, 1) := by decide +kernel
theorem dX9_fire_73 : decode cX9_fire 73 = .ok (.getfield 22, 3) := by decide +kernel
theorem dX9_fire_76 : decode cX9_fire 76 = .ok (.iload 5, 2) := by decide +kernel
theorem dX9_fire_78 : decode cX9_fire 78 = .ok (.iload 6, 2) := by decide +kernel
theorem dX9_fire_80 : decode cX9_fire 80 = .ok (.iastore, 1) := by decide +kernel
theorem dX9_fire_81 : decode cX9_fire 81 = .ok (.aload_n 0, 1) := by decide +kernel
theorem dX9_fire_82 : decode cX9_fire 82 = .ok (.invokevirtual 254, 3) := by decide +kernel
theorem dX9_fire_85 : decode cX9_fire 85 = .ok (.ifCond .eq 25, 3) := by decide +kernel
theorem dX9_fire_88 : decode cX9_fire 88 = .ok (.aload_n 0, 1) := by decide +kernel
theorem dX9_fire_89 : decode cX9_fire 89 = .ok (.getfield 22, 3) := by decide +kernel
theorem dX9_fire_92 : decode cX9_fire 92 = .ok (.iload 5, 2) := by decide +kernel
theorem dX9_fire_94 : decode cX9_fire 94 = .ok (.iload 7, 2) := by decide +kernel
theorem dX9_fire_96 : decode cX9_fire 96 = .ok (.iastore, 1) := by decide +kernel
theorem dX9_fire_97 : decode cX9_fire 97 = .ok (.aload_n 0, 1) := by decide +kernel
theorem dX9_fire_98 : decode cX9_fire 98 = .ok (.dup, 1) := by decide +kernel
theorem dX9_fire_99 : decode cX9_fire 99 = .ok (.getfield 257, 3) := by decide +kernel
theorem dX9_fire_102 : decode cX9_fire 102 = .ok (.iconst 1, 1) := by decide +kernel
theorem dX9_fire_103 : decode cX9_fire 103 = .ok (.iadd, 1) := by decide +kernel
theorem dX9_fire_104 : decode cX9_fire 104 = .ok (.putfield 257, 3) := by decide +kernel
theorem dX9_fire_107 : decode cX9_fire 107 = .ok (.goto 25, 3) := by decide +kernel
theorem dX9_fire_110 : decode cX9_fire 110 = .ok (.aload_n 0, 1) := by decide +kernel
theorem dX9_fire_111 : decode cX9_fire 111 = .ok (.getfield 25, 3) := by decide +kernel
theorem dX9_fire_114 : decode cX9_fire 114 = .ok (.iload 5, 2) := by decide +kernel
theorem dX9_fire_116 : decode cX9_fire 116 = .ok (.sipush 2000, 3) := by decide +kernel
theorem dX9_fire_119 : decode cX9_fire 119 = .ok (.iload 4, 2) := by decide +kernel
theorem dX9_fire_121 : decode cX9_fire 121 = .ok (.iadd, 1) := by decide +kernel
theorem dX9_fire_122 : decode cX9_fire 122 = .ok (.iastore, 1) := by decide +kernel
theorem dX9_fire_123 : decode cX9_fire 123 = .ok (.iinc 2 1, 3) := by decide +kernel
theorem dX9_fire_126 : decode cX9_fire 126 = .ok (.aload_n 0, 1) := by decide +kernel
theorem dX9_fire_127 : decode cX9_fire 127 = .ok (.iload 5, 2) := by decide +kernel
theorem dX9_fire_129 : decode cX9_fire 129 = .ok (.invokevirtual 260, 3) := by decide +kernel
theorem dX9_fire_132 : decode cX9_fire 132 = .ok (.iinc 3 1, 3) := by decide +kernel
theorem dX9_fire_135 : decode cX9_fire 135 = .ok (.goto (-131), 3) := by decide +kernel
theorem dX9_fire_138 : decode cX9_fire 138 = .ok (.aload_n 0, 1) := by decide +kernel
theorem dX9_fire_139 : decode cX9_fire 139 = .ok (.iconst 0, 1) := by decide +kernel
theorem dX9_fire_140 : decode cX9_fire 140 = .ok (.putfield 248, 3) := by decide +kernel
theorem dX9_fire_143 : decode cX9_fire 143 = .ok (.return_, 1) := by decide +kernel
theorem dX9_log_0 : decode cX9_log 0 = .ok (.aload_n 0, 1) := by decide +kernel
theorem dX9_log_1 : decode cX9_log 1 = .ok (.getfield 263, 3) := by decide +kernel
theorem dX9_log_4 : decode cX9_log 4 = .ok (.bipush 60, 2) := by decide +kernel
theorem dX9_log_6 : decode cX9_log 6 = .ok (.if_icmp .ne 38, 3) := by decide +kernel
theorem dX9_log_9 : decode cX9_log 9 = .ok (.iconst 0, 1) := by decide +kernel
theorem dX9_log_10 : decode cX9_log 10 = .ok (.istore_n 3, 1) := by decide +kernel
theorem dX9_log_11 : decode cX9_log 11 = .ok (.iload_n 3, 1) := by decide +kernel
theorem dX9_log_12 : decode cX9_log 12 = .ok (.sipush 295, 3) := by decide +kernel
theorem dX9_log_15 : decode cX9_log 15 = .ok (.if_icmp .ge 23, 3) := by decide +kernel
theorem dX9_log_18 : decode cX9_log 18 = .ok (.aload_n 0, 1) := by decide +kernel
theorem dX9_log_19 : decode cX9_log 19 = .ok (.getfield 83, 3) := by decide +kernel
theorem dX9_log_22 : decode cX9_log 22 = .ok (.iload_n 3, 1) := by decide +kernel
theorem dX9_log_23 : decode cX9_log 23 = .ok (.aload_n 0, 1) := by decide +kernel
theorem dX9_log_24 : decode cX9_log 24 = .ok (.getfield 83, 3) := by decide +kernel
theorem dX9_log_27 : decode cX9_log 27 = .ok (.iload_n 3, 1) := by decide +kernel
theorem dX9_log_28 : decode cX9_log 28 = .ok (.iconst 5, 1) := by decide +kernel
theorem dX9_log_29 : decode cX9_log 29 = .ok (.iadd, 1) := by decide +kernel
theorem dX9_log_30 : decode cX9_log 30 = .ok (.iaload, 1) := by decide +kernel
theorem dX9_log_31 : decode cX9_log 31 = .ok (.iastore, 1) := by decide +kernel
theorem dX9_log_32 : decode cX9_log 32 = .ok (.iinc 3 1, 3) := by decide +kernel
theorem dX9_log_35 : decode cX9_log 35 = .ok (.goto (-24), 3) := by decide +kernel
theorem dX9_log_38 : decode cX9_log 38 = .ok (.aload_n 0, 1) := by decide +kernel
theorem dX9_log_39 : decode cX9_log 39 = .ok (.bipush 59, 2) := by decide +kernel
theorem dX9_log_41 : decode cX9_log 41 = .ok (.putfield 263, 3) := by decide +kernel
theorem dX9_log_44 : decode cX9_log 44 = .ok (.iconst 5, 1) := by decide +kernel
theorem dX9_log_45 : decode cX9_log 45 = .ok (.aload_n 0, 1) := by decide +kernel
theorem dX9_log_46 : decode cX9_log 46 = .ok (.getfield 263, 3) := by decide +kernel
theorem dX9_log_49 : decode cX9_log 49 = .ok (.imul, 1) := by decide +kernel
theorem dX9_log_50 : decode cX9_log 50 = .ok (.istore_n 3, 1) := by decide +kernel
theorem dX9_log_51 : decode cX9_log 51 = .ok (.aload_n 0, 1) := by decide +kernel
theorem dX9_log_52 : decode cX9_log 52 = .ok (.getfield 83, 3) := by decide +kernel
theorem dX9_log_55 : decode cX9_log 55 = .ok (.iload_n 3, 1) := by decide +kernel
theorem dX9_log_56 : decode cX9_log 56 = .ok (.aload_n 0, 1) := by decide +kernel
theorem dX9_log_57 : decode cX9_log 57 = .ok (.getfield 202, 3) := by decide +kernel
theorem dX9_log_60 : decode cX9_log 60 = .ok (.iastore, 1) := by decide +kernel
theorem dX9_log_61 : decode cX9_log 61 = .ok (.aload_n 0, 1) := by decide +kernel
theorem dX9_log_62 : decode cX9_log 62 = .ok (.getfield 83, 3) := by decide +kernel
theorem dX9_log_65 : decode cX9_log 65 = .ok (.iload_n 3, 1) := by decide +kernel
theorem dX9_log_66 : decode cX9_log 66 = .ok (.iconst 1, 1) := by decide +kernel
theorem dX9_log_67 : decode cX9_log 67 = .ok (.iadd, 1) := by decide +kernel
theorem dX9_log_68 : decode cX9_log 68 = .ok (.aload_n 0, 1) := by decide +kernel
theorem dX9_log_69 : decode cX9_log 69 = .ok (.getfield 266, 3) := by decide +kernel
theorem dX9_log_72 : decode cX9_log 72 = .ok (.bipush 24, 2) := by decide +kernel
theorem dX9_log_74 : decode cX9_log 74 = .ok (.idiv, 1) := by decide +kernel
theorem dX9_log_75 : decode cX9_log 75 = .ok (.iastore, 1) := by decide +kernel
theorem dX9_log_76 : decode cX9_log 76 = .ok (.aload_n 0, 1) := by decide +kernel
theorem dX9_log_77 : decode cX9_log 77 = .ok (.getfield 83, 3) := by decide +kernel
theorem dX9_log_80 : decode cX9_log 80 = .ok (.iload_n 3, 1) := by decide +kernel
theorem dX9_log_81 : decode cX9_log 81 = .ok (.iconst 2, 1) := by decide +kernel
theorem dX9_log_82 : decode cX9_log 82 = .ok (.iadd, 1) := by decide +kernel
theorem dX9_log_83 : decode cX9_log 83 = .ok (.aload_n 0, 1) := by decide +kernel
theorem dX9_log_84 : decode cX9_log 84 = .ok (.getfield 266, 3) := by decide +kernel
theorem dX9_log_87 : decode cX9_log 87 = .ok (.bipush 24, 2) := by decide +kernel
theorem dX9_log_89 : decode cX9_log 89 = .ok (.irem, 1) := by decide +kernel
theorem dX9_log_90 : decode cX9_log 90 = .ok (.iastore, 1) := by decide +kernel
theorem dX9_log_91 : decode cX9_log 91 = .ok (.aload_n 0, 1) := by decide +kernel
theorem dX9_log_92 : decode cX9_log 92 = .ok (.getfield 83, 3) := by decide +kernel
theorem dX9_log_95 : decode cX9_log 95 = .ok (.iload_n 3, 1) := by decide +kernel
theorem dX9_log_96 : decode cX9_log 96 = .ok (.iconst 3, 1) := by decide +kernel
theorem dX9_log_97 : decode cX9_log 97 = .ok (.iadd, 1) := by decide +kernel
theorem dX9_log_98 : decode cX9_log 98 = .ok (.iload_n 1, 1) := by decide +kernel
theorem dX9_log_99 : decode cX9_log 99 = .ok (.iastore, 1) := by decide +kernel
theorem dX9_log_100 : decode cX9_log 100 = .ok (.aload_n 0, 1) := by decide +kernel
theorem dX9_log_101 : decode cX9_log 101 = .ok (.getfield 83, 3) := by decide +kernel
theorem dX9_log_104 : decode cX9_log 104 = .ok (.iload_n 3, 1) := by decide +kernel
theorem dX9_log_105 : decode cX9_log 105 = .ok (.iconst 4, 1) := by decide +kernel
theorem dX9_log_106 : decode cX9_log 106 = .ok (.iadd, 1) := by decide +kernel
theorem dX9_log_107 : decode cX9_log 107 = .ok (.iload_n 2, 1) := by decide +kernel
theorem dX9_log_108 : decode cX9_log 108 = .ok (.iastore, 1) := by decide +kernel
theorem dX9_log_109 : decode cX9_log 109 = .ok (.aload_n 0, 1) := by decide +kernel
theorem dX9_log_110 : decode cX9_log 110 = .ok (.dup, 1) := by decide +kernel
theorem dX9_log_111 : decode cX9_log 111 = .ok (.getfield 263, 3) := by decide +kernel
theorem dX9_log_114 : decode cX9_log 114 = .ok (.iconst 1, 1) := by decide +kernel
theorem dX9_log_115 : decode cX9_log 115 = .ok (.iadd, 1) := by decide +kernel
theorem dX9_log_116 : decode cX9_log 116 = .ok (.putfield 263, 3) := by decide +kernel
theorem dX9_log_119 : decode cX9_log 119 = .ok (.return_, 1) := by decide +kernel
theorem dX9_done_0 : decode cX9_done 0 = .ok (.aload_n 0, 1) := by decide +kernel
theorem dX9_done_1 : decode cX9_done 1 = .ok (.getfield 226, 3) := by decide +kernel
theorem dX9_done_4 : decode cX9_done 4 = .ok (.ifCond .eq 11, 3) := by decide +kernel
theorem dX9_done_7 : decode cX9_done 7 = .ok (.aload_n 0, 1) := by decide +kernel
theorem dX9_done_8 : decode cX9_done 8 = .ok (.invokevirtual 242, 3) := by decide +kernel
theorem dX9_done_11 : decode cX9_done 11 = .ok (.iconst 1, 1) := by decide +kernel
theorem dX9_done_12 : decode cX9_done 12 = .ok (.if_icmp .eq 6, 3) := by decide +kernel
theorem dX9_done_15 : decode cX9_done 15 = .ok (.bipush (-2), 2) := by decide +kernel
theorem dX9_done_17 : decode cX9_done 17 = .ok (.ireturn, 1) := by decide +kernel
theorem dX9_done_18 : decode cX9_done 18 = .ok (.iconst 0, 1) := by decide +kernel
theorem dX9_done_19 : decode cX9_done 19 = .ok (.istore_n 1, 1) := by decide +kernel
theorem dX9_done_20 : decode cX9_done 20 = .ok (.aload_n 0, 1) := by decide +kernel
theorem dX9_done_21 : decode cX9_done 21 = .ok (.getfield 67, 3) := by decide +kernel
theorem dX9_done_24 : decode cX9_done 24 = .ok (.iload_n 1, 1) := by decide +kernel
theorem dX9_done_25 : decode cX9_done 25 = .ok (.baload, 1) := by decide +kernel
theorem dX9_done_26 : decode cX9_done 26 = .ok (.ifCond .ne 9, 3) := by decide +kernel
theorem dX9_done_29 : decode cX9_done 29 = .ok (.iinc 1 1, 3) := by decide +kernel
theorem dX9_done_32 : decode cX9_done 32 = .ok (.goto (-12), 3) := by decide +kernel
theorem dX9_done_35 : decode cX9_done 35 = .ok (.aload_n 0, 1) := by decide +kernel
theorem dX9_done_36 : decode cX9_done 36 = .ok (.getfield 230, 3) := by decide +kernel
theorem dX9_done_39 : decode cX9_done 39 = .ok (.ifCond .eq 8, 3) := by decide +kernel
theorem dX9_done_42 : decode cX9_done 42 = .ok (.bipush 6, 2) := by decide +kernel
theorem dX9_done_44 : decode cX9_done 44 = .ok (.goto 7, 3) := by decide +kernel
theorem dX9_done_47 : decode cX9_done 47 = .ok (.aload_n 0, 1) := by decide +kernel
theorem dX9_done_48 : decode cX9_done 48 = .ok (.getfield 202, 3) := by decide +kernel
theorem dX9_done_51 : decode cX9_done 51 = .ok (.istore_n 2, 1) := by decide +kernel
theorem dX9_done_52 : decode cX9_done 52 = .ok (.iconst 0, 1) := by decide +kernel
theorem dX9_done_53 : decode cX9_done 53 = .ok (.istore_n 3, 1) := by decide +kernel
theorem dX9_done_54 : decode cX9_done 54 = .ok (.iload_n 3, 1) := by decide +kernel
theorem dX9_done_55 : decode cX9_done 55 = .ok (.aload_n 0, 1) := by decide +kernel
theorem dX9_done_56 : decode cX9_done 56 = .ok (.getfield 113, 3) := by decide +kernel
theorem dX9_done_59 : decode cX9_done 59 = .ok (.if_icmp .ge 41, 3) := by decide +kernel
theorem dX9_done_62 : decode cX9_done 62 = .ok (.aload_n 0, 1) := by decide +kernel
theorem dX9_done_63 : decode cX9_done 63 = .ok (.getfield 64, 3) := by decide +kernel
theorem dX9_done_66 : decode cX9_done 66 = .ok (.iload_n 1, 1) := by decide +kernel
theorem dX9_done_67 : decode cX9_done 67 = .ok (.iaload, 1) := by decide +kernel
theorem dX9_done_68 : decode cX9_done 68 = .ok (.iload_n 3, 1) := by decide +kernel
theorem dX9_done_69 : decode cX9_done 69 = .ok (.invokestatic 208, 3) := by decide +kernel
theorem dX9_done_72 : decode cX9_done 72 = .ok (.ifCond .eq 22, 3) := by decide +kernel
theorem dX9_done_75 : decode cX9_done 75 = .ok (.aload_n 0, 1) := by decide +kernel
theorem dX9_done_76 : decode cX9_done 76 = .ok (.iload_n 2, 1) := by decide +kernel
theorem dX9_done_77 : decode cX9_done 77 = .ok (.iload_n 3, 1) := by decide +kernel
theorem dX9_done_78 : decode cX9_done 78 = .ok (.aload_n 0, 1) := by decide +kernel
theorem dX9_done_79 : decode cX9_done 79 = .ok (.getfield 266, 3) := by decide +kernel
theorem dX9_done_82 : decode cX9_done 82 = .ok (.bipush 24, 2) := by decide +kernel
theorem dX9_done_84 : decode cX9_done 84 = .ok (.irem, 1) := by decide +kernel
theorem dX9_done_85 : decode cX9_done 85 = .ok (.invokevirtual 177, 3) := by decide +kernel
theorem dX9_done_88 : decode cX9_done 88 = .ok (.ifCond .ne 6, 3) := by decide +kernel
theorem dX9_done_91 : decode cX9_done 91 = .ok (.bipush (-2), 2) := by decide +kernel
theorem dX9_done_93 : decode cX9_done 93 = .ok (.ireturn, 1) := by decide +kernel
theorem dX9_done_94 : decode cX9_done 94 = .ok (.iinc 3 1, 3) := by decide +kernel
theorem dX9_done_97 : decode cX9_done 97 = .ok (.goto (-43), 3) := by decide +kernel
theorem dX9_done_100 : decode cX9_done 100 = .ok (.aload_n 0, 1) := by decide +kernel
theorem dX9_done_101 : decode cX9_done 101 = .ok (.getfield 269, 3) := by decide +kernel
theorem dX9_done_104 : decode cX9_done 104 = .ok (.sipush 200, 3) := by decide +kernel
theorem dX9_done_107 : decode cX9_done 107 = .ok (.if_icmp .ne 6, 3) := by decide +kernel
theorem dX9_done_110 : decode cX9_done 110 = .ok (.bipush (-3), 2) := by decide +kernel
theorem dX9_done_112 : decode cX9_done 112 = .ok (.ireturn, 1) := by decide +kernel
theorem dX9_done_113 : decode cX9_done 113 = .ok (.aload_n 0, 1) := by decide +kernel
theorem dX9_done_114 : decode cX9_done 114 = .ok (.getfield 37, 3) := by decide +kernel
theorem dX9_done_117 : decode cX9_done 117 = .ok (.aload_n 0, 1) := by decide +kernel
theorem dX9_done_118 : decode cX9_done 118 = .ok (.getfield 61, 3) := by decide +kernel
theorem dX9_done_121 : decode cX9_done 121 = .ok (.iconst 3, 1) := by decide +kernel
theorem dX9_done_122 : decode cX9_done 122 = .ok (.iload_n 1, 1) := by decide +kernel
theorem dX9_done_123 : decode cX9_done 123 = .ok (.imul, 1) := by decide +kernel
theorem dX9_done_124 : decode cX9_done 124 = .ok (.iaload, 1) := by decide +kernel
theorem dX9_done_125 : decode cX9_done 125 = .ok (.iaload, 1) := by decide +kernel
theorem dX9_done_126 : decode cX9_done 126 = .ok (.istore_n 3, 1) := by decide +kernel
theorem dX9_done_127 : decode cX9_done 127 = .ok (.iconst 0, 1) := by decide +kernel
theorem dX9_done_128 : decode cX9_done 128 = .ok (.istore 4, 2) := by decide +kernel
theorem dX9_done_130 : decode cX9_done 130 = .ok (.iconst 0, 1) := by decide +kernel
theorem dX9_done_131 : decode cX9_done 131 = .ok (.istore 5, 2) := by decide +kernel
theorem dX9_done_133 : decode cX9_done 133 = .ok (.aload_n 0, 1) := by decide +kernel
theorem dX9_done_134 : decode cX9_done 134 = .ok (.invokevirtual 251, 3) := by decide +kernel
theorem dX9_done_137 : decode cX9_done 137 = .ok (.iconst 0, 1) := by decide +kernel
theorem dX9_done_138 : decode cX9_done 138 = .ok (.istore 6, 2) := by decide +kernel
theorem dX9_done_140 : decode cX9_done 140 = .ok (.iload 6, 2) := by decide +kernel
theorem dX9_done_142 : decode cX9_done 142 = .ok (.aload_n 0, 1) := by decide +kernel
theorem dX9_done_143 : decode cX9_done 143 = .ok (.getfield 113, 3) := by decide +kernel
theorem dX9_done_146 : decode cX9_done 146 = .ok (.if_icmp .ge 68, 3) := by decide +kernel
theorem dX9_done_149 : decode cX9_done 149 = .ok (.iload 4, 2) := by decide +kernel
theorem dX9_done_151 : decode cX9_done 151 = .ok (.aload_n 0, 1) := by decide +kernel
theorem dX9_done_152 : decode cX9_done 152 = .ok (.getfield 22, 3) := by decide +kernel
theorem dX9_done_155 : decode cX9_done 155 = .ok (.iload 6, 2) := by decide +kernel
theorem dX9_done_157 : decode cX9_done 157 = .ok (.iaload, 1) := by decide +kernel
theorem dX9_done_158 : decode cX9_done 158 = .ok (.iconst 2, 1) := by decide +kernel
theorem dX9_done_159 : decode cX9_done 159 = .ok (.iload 6, 2) := by decide +kernel
theorem dX9_done_161 : decode cX9_done 161 = .ok (.imul, 1) := by decide +kernel
theorem dX9_done_162 : decode cX9_done 162 = .ok (.ishl, 1) := by decide +kernel
theorem dX9_done_163 : decode cX9_done 163 = .ok (.ior, 1) := by decide +kernel
theorem dX9_done_164 : decode cX9_done 164 = .ok (.istore 4, 2) := by decide +kernel
theorem dX9_done_166 : decode cX9_done 166 = .ok (.aload_n 0, 1) := by decide +kernel
theorem dX9_done_167 : decode cX9_done 167 = .ok (.getfield 64, 3) := by decide +kernel
theorem dX9_done_170 : decode cX9_done 170 = .ok (.iload_n 1, 1) := by decide +kernel
theorem dX9_done_171 : decode cX9_done 171 = .ok (.iaload, 1) := by decide +kernel
theorem dX9_done_172 : decode cX9_done 172 = .ok (.iload 6, 2) := by decide +kernel
theorem dX9_done_174 : decode cX9_done 174 = .ok (.invokestatic 208, 3) := by decide +kernel
theorem dX9_done_177 : decode cX9_done 177 = .ok (.ifCond .eq 31, 3) := by decide +kernel
theorem dX9_done_180 : decode cX9_done 180 = .ok (.aload_n 0, 1) := by decide +kernel
theorem dX9_done_181 : decode cX9_done 181 = .ok (.getfield 22, 3) := by decide +kernel
theorem dX9_done_184 : decode cX9_done 184 = .ok (.iload 6, 2) := by decide +kernel
theorem dX9_done_186 : decode cX9_done 186 = .ok (.iaload, 1) := by decide +kernel
theorem dX9_done_187 : decode cX9_done 187 = .ok (.iload_n 3, 1) := by decide +kernel
theorem dX9_done_188 : decode cX9_done 188 = .ok (.if_icmp .eq 20, 3) := by decide +kernel
theorem dX9_done_191 : decode cX9_done 191 = .ok (.iload 5, 2) := by decide +kernel
theorem dX9_done_193 : decode cX9_done 193 = .ok (.iconst 1, 1) := by decide +kernel
theorem dX9_done_194 : decode cX9_done 194 = .ok (.iload 6, 2) := by decide +kernel
theorem dX9_done_196 : decode cX9_done 196 = .ok (.ishl, 1) := by decide +kernel
theorem dX9_done_197 : decode cX9_done 197 = .ok (.ior, 1) := by decide +kernel
theorem dX9_done_198 : decode cX9_done 198 = .ok (.istore 5, 2) := by decide +kernel
theorem dX9_done_200 : decode cX9_done 200 = .ok (.aload_n 0, 1) := by decide +kernel
theorem dX9_done_201 : decode cX9_done 201 = .ok (.getfield 22, 3) := by decide +kernel
theorem dX9_done_204 : decode cX9_done 204 = .ok (.iload 6, 2) := by decide +kernel
theorem dX9_done_206 : decode cX9_done 206 = .ok (.iload_n 3, 1) := by decide +kernel
theorem dX9_done_207 : decode cX9_done 207 = .ok (.iastore, 1) := by decide +kernel
theorem dX9_done_208 : decode cX9_done 208 = .ok (.iinc 6 1, 3) := by decide +kernel
theorem dX9_done_211 : decode cX9_done 211 = .ok (.goto (-71), 3) := by decide +kernel
theorem dX9_done_214 : decode cX9_done 214 = .ok (.aload_n 0, 1) := by decide +kernel
theorem dX9_done_215 : decode cX9_done 215 = .ok (.invokevirtual 254, 3) := by decide +kernel
theorem dX9_done_218 : decode cX9_done 218 = .ok (.ifCond .eq 40, 3) := by decide +kernel
theorem dX9_done_221 : decode cX9_done 221 = .ok (.iconst 0, 1) := by decide +kernel
theorem dX9_done_222 : decode cX9_done 222 = .ok (.istore 6, 2) := by decide +kernel
theorem dX9_done_224 : decode cX9_done 224 = .ok (.iload 6, 2) := by decide +kernel
theorem dX9_done_226 : decode cX9_done 226 = .ok (.aload_n 0, 1) := by decide +kernel
theorem dX9_done_227 : decode cX9_done 227 = .ok (.getfield 113, 3) := by decide +kernel
theorem dX9_done_230 : decode cX9_done 230 = .ok (.if_icmp .ge 25, 3) := by decide +kernel
theorem dX9_done_233 : decode cX9_done 233 = .ok (.aload_n 0, 1) := by decide +kernel
theorem dX9_done_234 : decode cX9_done 234 = .ok (.getfield 22, 3) := by decide +kernel
theorem dX9_done_237 : decode cX9_done 237 = .ok (.iload 6, 2) := by decide +kernel
theorem dX9_done_239 : decode cX9_done 239 = .ok (.iload 4, 2) := by decide +kernel
theorem dX9_done_241 : decode cX9_done 241 = .ok (.iconst 2, 1) := by decide +kernel
theorem dX9_done_242 : decode cX9_done 242 = .ok (.iload 6, 2) := by decide +kernel
theorem dX9_done_244 : decode cX9_done 244 = .ok (.imul, 1) := by decide +kernel
theorem dX9_done_245 : decode cX9_done 245 = .ok (.ishr, 1) := by decide +kernel
theorem dX9_done_246 : decode cX9_done 246 = .ok (.iconst 3, 1) := by decide +kernel
theorem dX9_done_247 : decode cX9_done 247 = .ok (.iand, 1) := by decide +kernel
theorem dX9_done_248 : decode cX9_done 248 = .ok (.iastore, 1) := by decide +kernel
theorem dX9_done_249 : decode cX9_done 249 = .ok (.iinc 6 1, 3) := by decide +kernel
theorem dX9_done_252 : decode cX9_done 252 = .ok (.goto (-28), 3) := by decide +kernel
theorem dX9_done_255 : decode cX9_done 255 = .ok (.bipush (-5), 2) := by decide +kernel
theorem dX9_done_257 : decode cX9_done 257 = .ok (.ireturn, 1) := by decide +kernel
theorem dX9_done_258 : decode cX9_done 258 = .ok (.aload_n 0, 1) := by decide +kernel
theorem dX9_done_259 : decode cX9_done 259 = .ok (.getfield 71, 3) := by decide +kernel
theorem dX9_done_262 : decode cX9_done 262 = .ok (.aload_n 0, 1) := by decide +kernel
theorem dX9_done_263 : decode cX9_done 263 = .ok (.getfield 269, 3) := by decide +kernel
theorem dX9_done_266 : decode cX9_done 266 = .ok (.iload 5, 2) := by decide +kernel
theorem dX9_done_268 : decode cX9_done 268 = .ok (.iastore, 1) := by decide +kernel
theorem dX9_done_269 : decode cX9_done 269 = .ok (.aload_n 0, 1) := by decide +kernel
theorem dX9_done_270 : decode cX9_done 270 = .ok (.getfield 74, 3) := by decide +kernel
theorem dX9_done_273 : decode cX9_done 273 = .ok (.aload_n 0, 1) := by decide +kernel
theorem dX9_done_274 : decode cX9_done 274 = .ok (.getfield 269, 3) := by decide +kernel
theorem dX9_done_277 : decode cX9_done 277 = .ok (.iload 4, 2) := by decide +kernel
theorem dX9_done_279 : decode cX9_done 279 = .ok (.iastore, 1) := by decide +kernel
theorem dX9_done_280 : decode cX9_done 280 = .ok (.aload_n 0, 1) := by decide +kernel
theorem dX9_done_281 : decode cX9_done 281 = .ok (.getfield 77, 3) := by decide +kernel
theorem dX9_done_284 : decode cX9_done 284 = .ok (.aload_n 0, 1) := by decide +kernel
theorem dX9_done_285 : decode cX9_done 285 = .ok (.getfield 269, 3) := by decide +kernel
theorem dX9_done_288 : decode cX9_done 288 = .ok (.iconst 0, 1) := by decide +kernel
theorem dX9_done_289 : decode cX9_done 289 = .ok (.bastore, 1) := by decide +kernel
theorem dX9_done_290 : decode cX9_done 290 = .ok (.aload_n 0, 1) := by decide +kernel
theorem dX9_done_291 : decode cX9_done 291 = .ok (.iconst 0, 1) := by decide +kernel
theorem dX9_done_292 : decode cX9_done 292 = .ok (.putfield 248, 3) := by decide +kernel
theorem dX9_done_295 : decode cX9_done 295 = .ok (.iconst 0, 1) := by decide +kernel
theorem dX9_done_296 : decode cX9_done 296 = .ok (.istore 6, 2) := by decide +kernel
theorem dX9_done_298 : decode cX9_done 298 = .ok (.iload 6, 2) := by decide +kernel
theorem dX9_done_300 : decode cX9_done 300 = .ok (.aload_n 0, 1) := by decide +kernel
theorem dX9_done_301 : decode cX9_done 301 = .ok (.getfield 113, 3) := by decide +kernel
theorem dX9_done_304 : decode cX9_done 304 = .ok (.if_icmp .ge 61, 3) := by decide +kernel
theorem dX9_done_307 : decode cX9_done 307 = .ok (.aload_n 0, 1) := by decide +kernel
theorem dX9_done_308 : decode cX9_done 308 = .ok (.getfield 64, 3) := by decide +kernel
theorem dX9_done_311 : decode cX9_done 311 = .ok (.iload_n 1, 1) := by decide +kernel
theorem dX9_done_312 : decode cX9_done 312 = .ok (.iaload, 1) := by decide +kernel
theorem dX9_done_313 : decode cX9_done 313 = .ok (.iload 6, 2) := by decide +kernel
theorem dX9_done_315 : decode cX9_done 315 = .ok (.invokestatic 208, 3) := by decide +kernel
theorem dX9_done_318 : decode cX9_done 318 = .ok (.ifCond .eq 10, 3) := by decide +kernel
theorem dX9_done_321 : decode cX9_done 321 = .ok (.aload_n 0, 1) := by decide +kernel
theorem dX9_done_322 : decode cX9_done 322 = .ok (.iload 6, 2) := by decide +kernel
theorem dX9_done_324 : decode cX9_done 324 = .ok (.iload_n 3, 1) := by decide +kernel
theorem dX9_done_325 : decode cX9_done 325 = .ok (.invokevirtual 272, 3) := by decide +kernel
theorem dX9_done_328 : decode cX9_done 328 = .ok (.iload 5, 2) := by decide +kernel
theorem dX9_done_330 : decode cX9_done 330 = .ok (.iload 6, 2) := by decide +kernel
theorem dX9_done_332 : decode cX9_done 332 = .ok (.invokestatic 208, 3) := by decide +kernel
theorem dX9_done_335 : decode cX9_done 335 = .ok (.ifCond .eq 24, 3) := by decide +kernel
theorem dX9_done_338 : decode cX9_done 338 = .ok (.aload_n 0, 1) := by decide +kernel
theorem dX9_done_339 : decode cX9_done 339 = .ok (.getfield 25, 3) := by decide +kernel
theorem dX9_done_342 : decode cX9_done 342 = .ok (.iload 6, 2) := by decide +kernel
theorem dX9_done_344 : decode cX9_done 344 = .ok (.sipush 1000, 3) := by decide +kernel
theorem dX9_done_347 : decode cX9_done 347 = .ok (.aload_n 0, 1) := by decide +kernel
theorem dX9_done_348 : decode cX9_done 348 = .ok (.getfield 269, 3) := by decide +kernel
theorem dX9_done_351 : decode cX9_done 351 = .ok (.iadd, 1) := by decide +kernel
theorem dX9_done_352 : decode cX9_done 352 = .ok (.iastore, 1) := by decide +kernel
theorem dX9_done_353 : decode cX9_done 353 = .ok (.aload_n 0, 1) := by decide +kernel
theorem dX9_done_354 : decode cX9_done 354 = .ok (.iload 6, 2) := by decide +kernel
theorem dX9_done_356 : decode cX9_done 356 = .ok (.invokevirtual 260, 3) := by decide +kernel
theorem dX9_done_359 : decode cX9_done 359 = .ok (.iinc 6 1, 3) := by decide +kernel
theorem dX9_done_362 : decode cX9_done 362 = .ok (.goto (-64), 3) := by decide +kernel
theorem dX9_done_365 : decode cX9_done 365 = .ok (.aload_n 0, 1) := by decide +kernel
theorem dX9_done_366 : decode cX9_done 366 = .ok (.dup, 1) := by decide +kernel
theorem dX9_done_367 : decode cX9_done 367 = .ok (.getfield 269, 3) := by decide +kernel
theorem dX9_done_370 : decode cX9_done 370 = .ok (.iconst 1, 1) := by decide +kernel
theorem dX9_done_371 : decode cX9_done 371 = .ok (.iadd, 1) := by decide +kernel
theorem dX9_done_372 : decode cX9_done 372 = .ok (.putfield 269, 3) := by decide +kernel
theorem dX9_done_375 : decode cX9_done 375 = .ok (.aload_n 0, 1) := by decide +kernel
theorem dX9_done_376 : decode cX9_done 376 = .ok (.aload_n 0, 1) := by decide +kernel
theorem dX9_done_377 : decode cX9_done 377 = .ok (.getfield 64, 3) := by decide +kernel
theorem dX9_done_380 : decode cX9_done 380 = .ok (.iload_n 1, 1) := by decide +kernel
theorem dX9_done_381 : decode cX9_done 381 = .ok (.iaload, 1) := by decide +kernel
theorem dX9_done_382 : decode cX9_done 382 = .ok (.putfield 205, 3) := by decide +kernel
theorem dX9_done_385 : decode cX9_done 385 = .ok (.aload_n 0, 1) := by decide +kernel
theorem dX9_done_386 : decode cX9_done 386 = .ok (.iconst 0, 1) := by decide +kernel
theorem dX9_done_387 : decode cX9_done 387 = .ok (.putfield 226, 3) := by decide +kernel
theorem dX9_done_390 : decode cX9_done 390 = .ok (.aload_n 0, 1) := by decide +kernel
theorem dX9_done_391 : decode cX9_done 391 = .ok (.iload 5, 2) := by decide +kernel
theorem dX9_done_393 : decode cX9_done 393 = .ok (.invokestatic 276, 3) := by decide +kernel
theorem dX9_done_396 : decode cX9_done 396 = .ok (.invokevirtual 279, 3) := by decide +kernel
theorem dX9_done_399 : decode cX9_done 399 = .ok (.iload 5, 2) := by decide +kernel
theorem dX9_done_401 : decode cX9_done 401 = .ok (.ireturn, 1) := by decide +kernel
theorem dX9_undo_0 : decode cX9_undo 0 = .ok (.aload_n 0, 1) := by decide +kernel
theorem dX9_undo_1 : decode cX9_undo 1 = .ok (.getfield 269, 3) := by decide +kernel
theorem dX9_undo_4 : decode cX9_undo 4 = .ok (.iconst 1, 1) := by decide +kernel
theorem dX9_undo_5 : decode cX9_undo 5 = .ok (.isub, 1) := by decide +kernel
theorem dX9_undo_6 : decode cX9_undo 6 = .ok (.istore_n 1, 1) := by decide +kernel
theorem dX9_undo_7 : decode cX9_undo 7 = .ok (.iload_n 1, 1) := by decide +kernel
theorem dX9_undo_8 : decode cX9_undo 8 = .ok (.ifCond .lt 18, 3) := by decide +kernel
theorem dX9_undo_11 : decode cX9_undo 11 = .ok (.aload_n 0, 1) := by decide +kernel
theorem dX9_undo_12 : decode cX9_undo 12 = .ok (.getfield 77, 3) := by decide +kernel
theorem dX9_undo_15 : decode cX9_undo 15 = .ok (.iload_n 1, 1) := by decide +kernel
theorem dX9_undo_16 : decode cX9_undo 16 = .ok (.baload, 1) := by decide +kernel
theorem dX9_undo_17 : decode cX9_undo 17 = .ok (.ifCond .eq 9, 3) := by decide +kernel
theorem dX9_undo_20 : decode cX9_undo 20 = .ok (.iinc 1 (-1), 3) := by decide +kernel
theorem dX9_undo_23 : decode cX9_undo 23 = .ok (.goto (-16), 3) := by decide +kernel
theorem dX9_undo_26 : decode cX9_undo 26 = .ok (.iload_n 1, 1) := by decide +kernel
theorem dX9_undo_27 : decode cX9_undo 27 = .ok (.ifCond .ge 6, 3) := by decide +kernel
theorem dX9_undo_30 : decode cX9_undo 30 = .ok (.bipush (-2), 2) := by decide +kernel
theorem dX9_undo_32 : decode cX9_undo 32 = .ok (.ireturn, 1) := by decide +kernel
theorem dX9_undo_33 : decode cX9_undo 33 = .ok (.aload_n 0, 1) := by decide +kernel
theorem dX9_undo_34 : decode cX9_undo 34 = .ok (.getfield 77, 3) := by decide +kernel
theorem dX9_undo_37 : decode cX9_undo 37 = .ok (.iload_n 1, 1) := by decide +kernel
theorem dX9_undo_38 : decode cX9_undo 38 = .ok (.iconst 1, 1) := by decide +kernel
theorem dX9_undo_39 : decode cX9_undo 39 = .ok (.bastore, 1) := by decide +kernel
theorem dX9_undo_40 : decode cX9_undo 40 = .ok (.iconst 0, 1) := by decide +kernel
theorem dX9_undo_41 : decode cX9_undo 41 = .ok (.istore_n 2, 1) := by decide +kernel
theorem dX9_undo_42 : decode cX9_undo 42 = .ok (.iconst 0, 1) := by decide +kernel
theorem dX9_undo_43 : decode cX9_undo 43 = .ok (.istore_n 3, 1) := by decide +kernel
theorem dX9_undo_44 : decode cX9_undo 44 = .ok (.iload_n 3, 1) := by decide +kernel
theorem dX9_undo_45 : decode cX9_undo 45 = .ok (.aload_n 0, 1) := by decide +kernel
theorem dX9_undo_46 : decode cX9_undo 46 = .ok (.getfield 113, 3) := by decide +kernel
theorem dX9_undo_49 : decode cX9_undo 49 = .ok (.if_icmp .ge 71, 3) := by decide +kernel
theorem dX9_undo_52 : decode cX9_undo 52 = .ok (.aload_n 0, 1) := by decide +kernel
theorem dX9_undo_53 : decode cX9_undo 53 = .ok (.getfield 71, 3) := by decide +kernel
theorem dX9_undo_56 : decode cX9_undo 56 = .ok (.iload_n 1, 1) := by decide +kernel
theorem dX9_undo_57 : decode cX9_undo 57 = .ok (.iaload, 1) := by decide +kernel
theorem dX9_undo_58 : decode cX9_undo 58 = .ok (.iload_n 3, 1) := by decide +kernel
theorem dX9_undo_59 : decode cX9_undo 59 = .ok (.invokestatic 208, 3) := by decide +kernel
theorem dX9_undo_62 : decode cX9_undo 62 = .ok (.ifCond .eq 52, 3) := by decide +kernel
theorem dX9_undo_65 : decode cX9_undo 65 = .ok (.aload_n 0, 1) := by decide +kernel
theorem dX9_undo_66 : decode cX9_undo 66 = .ok (.getfield 25, 3) := by decide +kernel
theorem dX9_undo_69 : decode cX9_undo 69 = .ok (.iload_n 3, 1) := by decide +kernel
theorem dX9_undo_70 : decode cX9_undo 70 = .ok (.iaload, 1) := by decide +kernel
theorem dX9_undo_71 : decode cX9_undo 71 = .ok (.sipush 1000, 3) := by decide +kernel
theorem dX9_undo_74 : decode cX9_undo 74 = .ok (.iload_n 1, 1) := by decide +kernel
theorem dX9_undo_75 : decode cX9_undo 75 = .ok (.iadd, 1) := by decide +kernel
theorem dX9_undo_76 : decode cX9_undo 76 = .ok (.if_icmp .ne 38, 3) := by decide +kernel
theorem dX9_undo_79 : decode cX9_undo 79 = .ok (.aload_n 0, 1) := by decide +kernel
theorem dX9_undo_80 : decode cX9_undo 80 = .ok (.getfield 22, 3) := by decide +kernel
theorem dX9_undo_83 : decode cX9_undo 83 = .ok (.iload_n 3, 1) := by decide +kernel
theorem dX9_undo_84 : decode cX9_undo 84 = .ok (.aload_n 0, 1) := by decide +kernel
theorem dX9_undo_85 : decode cX9_undo 85 = .ok (.getfield 74, 3) := by decide +kernel
theorem dX9_undo_88 : decode cX9_undo 88 = .ok (.iload_n 1, 1) := by decide +kernel
theorem dX9_undo_89 : decode cX9_undo 89 = .ok (.iaload, 1) := by decide +kernel
theorem dX9_undo_90 : decode cX9_undo 90 = .ok (.iconst 2, 1) := by decide +kernel
theorem dX9_undo_91 : decode cX9_undo 91 = .ok (.iload_n 3, 1) := by decide +kernel
theorem dX9_undo_92 : decode cX9_undo 92 = .ok (.imul, 1) := by decide +kernel
theorem dX9_undo_93 : decode cX9_undo 93 = .ok (.ishr, 1) := by decide +kernel
theorem dX9_undo_94 : decode cX9_undo 94 = .ok (.iconst 3, 1) := by decide +kernel
theorem dX9_undo_95 : decode cX9_undo 95 = .ok (.iand, 1) := by decide +kernel
theorem dX9_undo_96 : decode cX9_undo 96 = .ok (.iastore, 1) := by decide +kernel
theorem dX9_undo_97 : decode cX9_undo 97 = .ok (.aload_n 0, 1) := by decide +kernel
theorem dX9_undo_98 : decode cX9_undo 98 = .ok (.getfield 25, 3) := by decide +kernel
theorem dX9_undo_101 : decode cX9_undo 101 = .ok (.iload_n 3, 1) := by decide +kernel
theorem dX9_undo_102 : decode cX9_undo 102 = .ok (.sipush 3000, 3) := by decide +kernel
theorem dX9_undo_105 : decode cX9_undo 105 = .ok (.iload_n 1, 1) := by decide +kernel
theorem dX9_undo_106 : decode cX9_undo 106 = .ok (.iadd, 1) := by decide +kernel
theorem dX9_undo_107 : decode cX9_undo 107 = .ok (.iastore, 1) := by decide +kernel
theorem dX9_undo_108 : decode cX9_undo 108 = .ok (.iload_n 2, 1) := by decide +kernel
theorem dX9_undo_109 : decode cX9_undo 109 = .ok (.iconst 1, 1) := by decide +kernel
theorem dX9_undo_110 : decode cX9_undo 110 = .ok (.iload_n 3, 1) := by decide +kernel
theorem dX9_undo_111 : decode cX9_undo 111 = .ok (.ishl, 1) := by decide +kernel
theorem dX9_undo_112 : decode cX9_undo 112 = .ok (.ior, 1) := by decide +kernel
theorem dX9_undo_113 : decode cX9_undo 113 = .ok (.istore_n 2, 1) := by decide +kernel
theorem dX9_undo_114 : decode cX9_undo 114 = .ok (.iinc 3 1, 3) := by decide +kernel
theorem dX9_undo_117 : decode cX9_undo 117 = .ok (.goto (-73), 3) := by decide +kernel
theorem dX9_undo_120 : decode cX9_undo 120 = .ok (.iload_n 2, 1) := by decide +kernel
theorem dX9_undo_121 : decode cX9_undo 121 = .ok (.ireturn, 1) := by decide +kernel
theorem dX9_isState_0 : decode cX9_isState 0 = .ok (.aload_n 0, 1) := by decide +kernel
theorem dX9_isState_1 : decode cX9_isState 1 = .ok (.iload_n 1, 1) := by decide +kernel
theorem dX9_isState_2 : decode cX9_isState 2 = .ok (.invokevirtual 131, 3) := by decide +kernel
theorem dX9_isState_5 : decode cX9_isState 5 = .ok (.ifCond .eq 26, 3) := by decide +kernel
theorem dX9_isState_8 : decode cX9_isState 8 = .ok (.iload_n 2, 1) := by decide +kernel
theorem dX9_isState_9 : decode cX9_isState 9 = .ok (.i2l, 1) := by decide +kernel
theorem dX9_isState_10 : decode cX9_isState 10 = .ok (.lconst 0, 1) := by decide +kernel
theorem dX9_isState_11 : decode cX9_isState 11 = .ok (.aload_n 0, 1) := by decide +kernel
theorem dX9_isState_12 : decode cX9_isState 12 = .ok (.getfield 13, 3) := by decide +kernel
theorem dX9_isState_15 : decode cX9_isState 15 = .ok (.iload_n 1, 1) := by decide +kernel
theorem dX9_isState_16 : decode cX9_isState 16 = .ok (.iaload, 1) := by decide +kernel
theorem dX9_isState_17 : decode cX9_isState 17 = .ok (.invokestatic 212, 3) := by decide +kernel
theorem dX9_isState_20 : decode cX9_isState 20 = .ok (.i2l, 1) := by decide +kernel
theorem dX9_isState_21 : decode cX9_isState 21 = .ok (.invokestatic 117, 3) := by decide +kernel
theorem dX9_isState_24 : decode cX9_isState 24 = .ok (.ifCond .eq 7, 3) := by decide +kernel
theorem dX9_isState_27 : decode cX9_isState 27 = .ok (.iconst 1, 1) := by decide +kernel
theorem dX9_isState_28 : decode cX9_isState 28 = .ok (.goto 4, 3) := by decide +kernel
theorem dX9_isState_31 : decode cX9_isState 31 = .ok (.iconst 0, 1) := by decide +kernel
theorem dX9_isState_32 : decode cX9_isState 32 = .ok (.ireturn, 1) := by decide +kernel
theorem dX9_stand_0 : decode cX9_stand 0 = .ok (.aload_n 0, 1) := by decide +kernel
theorem dX9_stand_1 : decode cX9_stand 1 = .ok (.getfield 245, 3) := by decide +kernel
theorem dX9_stand_4 : decode cX9_stand 4 = .ok (.bipush 8, 2) := by decide +kernel
theorem dX9_stand_6 : decode cX9_stand 6 = .ok (.if_icmp .ne 6, 3) := by decide +kernel
theorem dX9_stand_9 : decode cX9_stand 9 = .ok (.bipush (-3), 2) := by decide +kernel
theorem dX9_stand_11 : decode cX9_stand 11 = .ok (.ireturn, 1) := by decide +kernel
theorem dX9_stand_12 : decode cX9_stand 12 = .ok (.iconst 5, 1) := by decide +kernel
theorem dX9_stand_13 : decode cX9_stand 13 = .ok (.aload_n 0, 1) := by decide +kernel
theorem dX9_stand_14 : decode cX9_stand 14 = .ok (.getfield 245, 3) := by decide +kernel
theorem dX9_stand_17 : decode cX9_stand 17 = .ok (.imul, 1) := by decide +kernel
theorem dX9_stand_18 : decode cX9_stand 18 = .ok (.istore 6, 2) := by decide +kernel
theorem dX9_stand_20 : decode cX9_stand 20 = .ok (.aload_n 0, 1) := by decide +kernel
theorem dX9_stand_21 : decode cX9_stand 21 = .ok (.getfield 80, 3) := by decide +kernel
theorem dX9_stand_24 : decode cX9_stand 24 = .ok (.iload 6, 2) := by decide +kernel
theorem dX9_stand_26 : decode cX9_stand 26 = .ok (.iload_n 1, 1) := by decide +kernel
theorem dX9_stand_27 : decode cX9_stand 27 = .ok (.iastore, 1) := by decide +kernel
theorem dX9_stand_28 : decode cX9_stand 28 = .ok (.aload_n 0, 1) := by decide +kernel
theorem dX9_stand_29 : decode cX9_stand 29 = .ok (.getfield 80, 3) := by decide +kernel
theorem dX9_stand_32 : decode cX9_stand 32 = .ok (.iload 6, 2) := by decide +kernel
theorem dX9_stand_34 : decode cX9_stand 34 = .ok (.iconst 1, 1) := by decide +kernel
theorem dX9_stand_35 : decode cX9_stand 35 = .ok (.iadd, 1) := by decide +kernel
theorem dX9_stand_36 : decode cX9_stand 36 = .ok (.iload_n 2, 1) := by decide +kernel
theorem dX9_stand_37 : decode cX9_stand 37 = .ok (.iastore, 1) := by decide +kernel
theorem dX9_stand_38 : decode cX9_stand 38 = .ok (.aload_n 0, 1) := by decide +kernel
theorem dX9_stand_39 : decode cX9_stand 39 = .ok (.getfield 80, 3) := by decide +kernel
theorem dX9_stand_42 : decode cX9_stand 42 = .ok (.iload 6, 2) := by decide +kernel
theorem dX9_stand_44 : decode cX9_stand 44 = .ok (.iconst 2, 1) := by decide +kernel
theorem dX9_stand_45 : decode cX9_stand 45 = .ok (.iadd, 1) := by decide +kernel
theorem dX9_stand_46 : decode cX9_stand 46 = .ok (.iload_n 3, 1) := by decide +kernel
theorem dX9_stand_47 : decode cX9_stand 47 = .ok (.iastore, 1) := by decide +kernel
theorem dX9_stand_48 : decode cX9_stand 48 = .ok (.aload_n 0, 1) := by decide +kernel
theorem dX9_stand_49 : decode cX9_stand 49 = .ok (.getfield 80, 3) := by decide +kernel
theorem dX9_stand_52 : decode cX9_stand 52 = .ok (.iload 6, 2) := by decide +kernel
theorem dX9_stand_54 : decode cX9_stand 54 = .ok (.iconst 3, 1) := by decide +kernel
theorem dX9_stand_55 : decode cX9_stand 55 = .ok (.iadd, 1) := by decide +kernel
theorem dX9_stand_56 : decode cX9_stand 56 = .ok (.iload 4, 2) := by decide +kernel
theorem dX9_stand_58 : decode cX9_stand 58 = .ok (.iastore, 1) := by decide +kernel
theorem dX9_stand_59 : decode cX9_stand 59 = .ok (.aload_n 0, 1) := by decide +kernel
theorem dX9_stand_60 : decode cX9_stand 60 = .ok (.getfield 80, 3) := by decide +kernel
theorem dX9_stand_63 : decode cX9_stand 63 = .ok (.iload 6, 2) := by decide +kernel
theorem dX9_stand_65 : decode cX9_stand 65 = .ok (.iconst 4, 1) := by decide +kernel
theorem dX9_stand_66 : decode cX9_stand 66 = .ok (.iadd, 1) := by decide +kernel
theorem dX9_stand_67 : decode cX9_stand 67 = .ok (.iload 5, 2) := by decide +kernel
theorem dX9_stand_69 : decode cX9_stand 69 = .ok (.iastore, 1) := by decide +kernel
theorem dX9_stand_70 : decode cX9_stand 70 = .ok (.aload_n 0, 1) := by decide +kernel
theorem dX9_stand_71 : decode cX9_stand 71 = .ok (.dup, 1) := by decide +kernel
theorem dX9_stand_72 : decode cX9_stand 72 = .ok (.getfield 245, 3) := by decide +kernel
theorem dX9_stand_75 : decode cX9_stand 75 = .ok (.iconst 1, 1) := by decide +kernel
theorem dX9_stand_76 : decode cX9_stand 76 = .ok (.iadd, 1) := by decide +kernel
theorem dX9_stand_77 : decode cX9_stand 77 = .ok (.putfield 245, 3) := by decide +kernel
theorem dX9_stand_80 : decode cX9_stand 80 = .ok (.aload_n 0, 1) := by decide +kernel
theorem dX9_stand_81 : decode cX9_stand 81 = .ok (.getfield 245, 3) := by decide +kernel
theorem dX9_stand_84 : decode cX9_stand 84 = .ok (.iconst 1, 1) := by decide +kernel
theorem dX9_stand_85 : decode cX9_stand 85 = .ok (.isub, 1) := by decide +kernel
theorem dX9_stand_86 : decode cX9_stand 86 = .ok (.ireturn, 1) := by decide +kernel
theorem dX9_when_0 : decode cX9_when 0 = .ok (.aload_n 0, 1) := by decide +kernel
theorem dX9_when_1 : decode cX9_when 1 = .ok (.iload_n 1, 1) := by decide +kernel
theorem dX9_when_2 : decode cX9_when 2 = .ok (.iload_n 2, 1) := by decide +kernel
theorem dX9_when_3 : decode cX9_when 3 = .ok (.invokevirtual 282, 3) := by decide +kernel
theorem dX9_when_6 : decode cX9_when 6 = .ok (.ifCond .eq 26, 3) := by decide +kernel
theorem dX9_when_9 : decode cX9_when 9 = .ok (.aload_n 0, 1) := by decide +kernel
theorem dX9_when_10 : decode cX9_when 10 = .ok (.iload_n 3, 1) := by decide +kernel
theorem dX9_when_11 : decode cX9_when 11 = .ok (.iload 4, 2) := by decide +kernel
theorem dX9_when_13 : decode cX9_when 13 = .ok (.invokevirtual 282, 3) := by decide +kernel
theorem dX9_when_16 : decode cX9_when 16 = .ok (.ifCond .eq 16, 3) := by decide +kernel
theorem dX9_when_19 : decode cX9_when 19 = .ok (.aload_n 0, 1) := by decide +kernel
theorem dX9_when_20 : decode cX9_when 20 = .ok (.iconst 1, 1) := by decide +kernel
theorem dX9_when_21 : decode cX9_when 21 = .ok (.iload_n 1, 1) := by decide +kernel
theorem dX9_when_22 : decode cX9_when 22 = .ok (.iload_n 2, 1) := by decide +kernel
theorem dX9_when_23 : decode cX9_when 23 = .ok (.iload_n 3, 1) := by decide +kernel
theorem dX9_when_24 : decode cX9_when 24 = .ok (.iload 4, 2) := by decide +kernel
theorem dX9_when_26 : decode cX9_when 26 = .ok (.invokevirtual 285, 3) := by decide +kernel
theorem dX9_when_29 : decode cX9_when 29 = .ok (.goto 4, 3) := by decide +kernel
theorem dX9_when_32 : decode cX9_when 32 = .ok (.iconst (-1), 1) := by decide +kernel
theorem dX9_when_33 : decode cX9_when 33 = .ok (.ireturn, 1) := by decide +kernel
theorem dX9_at_0 : decode cX9_at 0 = .ok (.iload_n 1, 1) := by decide +kernel
theorem dX9_at_1 : decode cX9_at 1 = .ok (.i2l, 1) := by decide +kernel
theorem dX9_at_2 : decode cX9_at 2 = .ok (.lconst 0, 1) := by decide +kernel
theorem dX9_at_3 : decode cX9_at 3 = .ok (.ldc2_w 167, 3) := by decide +kernel
theorem dX9_at_6 : decode cX9_at 6 = .ok (.invokestatic 117, 3) := by decide +kernel
theorem dX9_at_9 : decode cX9_at 9 = .ok (.ifCond .eq 24, 3) := by decide +kernel
theorem dX9_at_12 : decode cX9_at 12 = .ok (.aload_n 0, 1) := by decide +kernel
theorem dX9_at_13 : decode cX9_at 13 = .ok (.iload_n 2, 1) := by decide +kernel
theorem dX9_at_14 : decode cX9_at 14 = .ok (.iload_n 3, 1) := by decide +kernel
theorem dX9_at_15 : decode cX9_at 15 = .ok (.invokevirtual 282, 3) := by decide +kernel
theorem dX9_at_18 : decode cX9_at 18 = .ok (.ifCond .eq 15, 3) := by decide +kernel
theorem dX9_at_21 : decode cX9_at 21 = .ok (.aload_n 0, 1) := by decide +kernel
theorem dX9_at_22 : decode cX9_at 22 = .ok (.iconst 0, 1) := by decide +kernel
theorem dX9_at_23 : decode cX9_at 23 = .ok (.iload_n 1, 1) := by decide +kernel
theorem dX9_at_24 : decode cX9_at 24 = .ok (.iconst 0, 1) := by decide +kernel
theorem dX9_at_25 : decode cX9_at 25 = .ok (.iload_n 2, 1) := by decide +kernel
theorem dX9_at_26 : decode cX9_at 26 = .ok (.iload_n 3, 1) := by decide +kernel
theorem dX9_at_27 : decode cX9_at 27 = .ok (.invokevirtual 285, 3) := by decide +kernel
theorem dX9_at_30 : decode cX9_at 30 = .ok (.goto 4, 3) := by decide +kernel
theorem dX9_at_33 : decode cX9_at 33 = .ok (.iconst (-1), 1) := by decide +kernel
theorem dX9_at_34 : decode cX9_at 34 = .ok (.ireturn, 1) := by decide +kernel
theorem dX9_ticks_0 : decode cX9_ticks 0 = .ok (.iload_n 1, 1) := by decide +kernel
theorem dX9_ticks_1 : decode cX9_ticks 1 = .ok (.i2l, 1) := by decide +kernel
theorem dX9_ticks_2 : decode cX9_ticks 2 = .ok (.lconst 1, 1) := by decide +kernel
theorem dX9_ticks_3 : decode cX9_ticks 3 = .ok (.ldc2_w 125, 3) := by decide +kernel
theorem dX9_ticks_6 : decode cX9_ticks 6 = .ok (.invokestatic 117, 3) := by decide +kernel
theorem dX9_ticks_9 : decode cX9_ticks 9 = .ok (.ifCond .ne 5, 3) := by decide +kernel
theorem dX9_ticks_12 : decode cX9_ticks 12 = .ok (.iconst (-1), 1) := by decide +kernel
theorem dX9_ticks_13 : decode cX9_ticks 13 = .ok (.ireturn, 1) := by decide +kernel
theorem dX9_ticks_14 : decode cX9_ticks 14 = .ok (.iconst 0, 1) := by decide +kernel
theorem dX9_ticks_15 : decode cX9_ticks 15 = .ok (.istore_n 2, 1) := by decide +kernel
theorem dX9_ticks_16 : decode cX9_ticks 16 = .ok (.iload_n 2, 1) := by decide +kernel
theorem dX9_ticks_17 : decode cX9_ticks 17 = .ok (.iload_n 1, 1) := by decide +kernel
theorem dX9_ticks_18 : decode cX9_ticks 18 = .ok (.if_icmp .ge 134, 3) := by decide +kernel
theorem dX9_ticks_21 : decode cX9_ticks 21 = .ok (.iconst 0, 1) := by decide +kernel
theorem dX9_ticks_22 : decode cX9_ticks 22 = .ok (.istore_n 3, 1) := by decide +kernel
theorem dX9_ticks_23 : decode cX9_ticks 23 = .ok (.iload_n 3, 1) := by decide +kernel
theorem dX9_ticks_24 : decode cX9_ticks 24 = .ok (.aload_n 0, 1) := by decide +kernel
theorem dX9_ticks_25 : decode cX9_ticks 25 = .ok (.getfield 113, 3) := by decide +kernel
theorem dX9_ticks_28 : decode cX9_ticks 28 = .ok (.if_icmp .ge 31, 3) := by decide +kernel
theorem dX9_ticks_31 : decode cX9_ticks 31 = .ok (.aload_n 0, 1) := by decide +kernel
theorem dX9_ticks_32 : decode cX9_ticks 32 = .ok (.getfield 19, 3) := by decide +kernel
theorem dX9_ticks_35 : decode cX9_ticks 35 = .ok (.iload_n 3, 1) := by decide +kernel
theorem dX9_ticks_36 : decode cX9_ticks 36 = .ok (.dup2, 1) := by decide +kernel
theorem dX9_ticks_37 : decode cX9_ticks 37 = .ok (.iaload, 1) := by decide +kernel
theorem dX9_ticks_38 : decode cX9_ticks 38 = .ok (.aload_n 0, 1) := by decide +kernel
theorem dX9_ticks_39 : decode cX9_ticks 39 = .ok (.getfield 22, 3) := by decide +kernel
theorem dX9_ticks_42 : decode cX9_ticks 42 = .ok (.iload_n 3, 1) := by decide +kernel
theorem dX9_ticks_43 : decode cX9_ticks 43 = .ok (.iaload, 1) := by decide +kernel
theorem dX9_ticks_44 : decode cX9_ticks 44 = .ok (.aload_n 0, 1) := by decide +kernel
theorem dX9_ticks_45 : decode cX9_ticks 45 = .ok (.getfield 16, 3) := by decide +kernel
theorem dX9_ticks_48 : decode cX9_ticks 48 = .ok (.iload_n 3, 1) := by decide +kernel
theorem dX9_ticks_49 : decode cX9_ticks 49 = .ok (.iaload, 1) := by decide +kernel
theorem dX9_ticks_50 : decode cX9_ticks 50 = .ok (.imul, 1) := by decide +kernel
theorem dX9_ticks_51 : decode cX9_ticks 51 = .ok (.iadd, 1) := by decide +kernel
theorem dX9_ticks_52 : decode cX9_ticks 52 = .ok (.iastore, 1) := by decide +kernel
theorem dX9_ticks_53 : decode cX9_ticks 53 = .ok (.iinc 3 1, 3) := by decide +kernel
theorem dX9_ticks_56 : decode cX9_ticks 56 = .ok (.goto (-33), 3) := by decide +kernel
theorem dX9_ticks_59 : decode cX9_ticks 59 = .ok (.aload_n 0, 1) := by decide +kernel
theorem dX9_ticks_60 : decode cX9_ticks 60 = .ok (.dup, 1) := by decide +kernel
theorem dX9_ticks_61 : decode cX9_ticks 61 = .ok (.getfield 266, 3) := by decide +kernel
theorem dX9_ticks_64 : decode cX9_ticks 64 = .ok (.iconst 1, 1) := by decide +kernel
theorem dX9_ticks_65 : decode cX9_ticks 65 = .ok (.iadd, 1) := by decide +kernel
theorem dX9_ticks_66 : decode cX9_ticks 66 = .ok (.putfield 266, 3) := by decide +kernel
theorem dX9_ticks_69 : decode cX9_ticks 69 = .ok (.aload_n 0, 1) := by decide +kernel
theorem dX9_ticks_70 : decode cX9_ticks 70 = .ok (.iconst 0, 1) := by decide +kernel
theorem dX9_ticks_71 : decode cX9_ticks 71 = .ok (.putfield 248, 3) := by decide +kernel
theorem dX9_ticks_74 : decode cX9_ticks 74 = .ok (.iconst 0, 1) := by decide +kernel
theorem dX9_ticks_75 : decode cX9_ticks 75 = .ok (.istore_n 3, 1) := by decide +kernel
theorem dX9_ticks_76 : decode cX9_ticks 76 = .ok (.iload_n 3, 1) := by decide +kernel
theorem dX9_ticks_77 : decode cX9_ticks 77 = .ok (.aload_n 0, 1) := by decide +kernel
theorem dX9_ticks_78 : decode cX9_ticks 78 = .ok (.getfield 245, 3) := by decide +kernel
theorem dX9_ticks_81 : decode cX9_ticks 81 = .ok (.if_icmp .ge 60, 3) := by decide +kernel
theorem dX9_ticks_84 : decode cX9_ticks 84 = .ok (.aload_n 0, 1) := by decide +kernel
theorem dX9_ticks_85 : decode cX9_ticks 85 = .ok (.getfield 80, 3) := by decide +kernel
theorem dX9_ticks_88 : decode cX9_ticks 88 = .ok (.iconst 5, 1) := by decide +kernel
theorem dX9_ticks_89 : decode cX9_ticks 89 = .ok (.iload_n 3, 1) := by decide +kernel
theorem dX9_ticks_90 : decode cX9_ticks 90 = .ok (.imul, 1) := by decide +kernel
theorem dX9_ticks_91 : decode cX9_ticks 91 = .ok (.iaload, 1) := by decide +kernel
theorem dX9_ticks_92 : decode cX9_ticks 92 = .ok (.ifCond .ne 43, 3) := by decide +kernel
theorem dX9_ticks_95 : decode cX9_ticks 95 = .ok (.aload_n 0, 1) := by decide +kernel
theorem dX9_ticks_96 : decode cX9_ticks 96 = .ok (.getfield 80, 3) := by decide +kernel
theorem dX9_ticks_99 : decode cX9_ticks 99 = .ok (.iconst 5, 1) := by decide +kernel
theorem dX9_ticks_100 : decode cX9_ticks 100 = .ok (.iload_n 3, 1) := by decide +kernel
theorem dX9_ticks_101 : decode cX9_ticks 101 = .ok (.imul, 1) := by decide +kernel
theorem dX9_ticks_102 : decode cX9_ticks 102 = .ok (.iconst 1, 1) := by decide +kernel
theorem dX9_ticks_103 : decode cX9_ticks 103 = .ok (.iadd, 1) := by decide +kernel
theorem dX9_ticks_104 : decode cX9_ticks 104 = .ok (.iaload, 1) := by decide +kernel
theorem dX9_ticks_105 : decode cX9_ticks 105 = .ok (.aload_n 0, 1) := by decide +kernel
theorem dX9_ticks_106 : decode cX9_ticks 106 = .ok (.getfield 266, 3) := by decide +kernel
theorem dX9_ticks_109 : decode cX9_ticks 109 = .ok (.bipush 24, 2) := by decide +kernel
theorem dX9_ticks_111 : decode cX9_ticks 111 = .ok (.irem, 1) := by decide +kernel
theorem dX9_ticks_112 : decode cX9_ticks 112 = .ok (.if_icmp .ne 23, 3) := by decide +kernel
theorem dX9_ticks_115 : decode cX9_ticks 115 = .ok (.aload_n 0, 1) := by decide +kernel
theorem dX9_ticks_116 : decode cX9_ticks 116 = .ok (.getfield 101, 3) := by decide +kernel
theorem dX9_ticks_119 : decode cX9_ticks 119 = .ok (.aload_n 0, 1) := by decide +kernel
theorem dX9_ticks_120 : decode cX9_ticks 120 = .ok (.getfield 248, 3) := by decide +kernel
theorem dX9_ticks_123 : decode cX9_ticks 123 = .ok (.iload_n 3, 1) := by decide +kernel
theorem dX9_ticks_124 : decode cX9_ticks 124 = .ok (.iastore, 1) := by decide +kernel
theorem dX9_ticks_125 : decode cX9_ticks 125 = .ok (.aload_n 0, 1) := by decide +kernel
theorem dX9_ticks_126 : decode cX9_ticks 126 = .ok (.dup, 1) := by decide +kernel
theorem dX9_ticks_127 : decode cX9_ticks 127 = .ok (.getfield 248, 3) := by decide +kernel
theorem dX9_ticks_130 : decode cX9_ticks 130 = .ok (.iconst 1, 1) := by decide +kernel
theorem dX9_ticks_131 : decode cX9_ticks 131 = .ok (.iadd, 1) := by decide +kernel
theorem dX9_ticks_132 : decode cX9_ticks 132 = .ok (.putfield 248, 3) := by decide +kernel
theorem dX9_ticks_135 : decode cX9_ticks 135 = .ok (.iinc 3 1, 3) := by decide +kernel
theorem dX9_ticks_138 : decode cX9_ticks 138 = .ok (.goto (-62), 3) := by decide +kernel
theorem dX9_ticks_141 : decode cX9_ticks 141 = .ok (.aload_n 0, 1) := by decide +kernel
theorem dX9_ticks_142 : decode cX9_ticks 142 = .ok (.iconst 0, 1) := by decide +kernel
theorem dX9_ticks_143 : decode cX9_ticks 143 = .ok (.invokevirtual 279, 3) := by decide +kernel
theorem dX9_ticks_146 : decode cX9_ticks 146 = .ok (.iinc 2 1, 3) := by decide +kernel
theorem dX9_ticks_149 : decode cX9_ticks 149 = .ok (.goto (-133), 3) := by decide +kernel
theorem dX9_ticks_152 : decode cX9_ticks 152 = .ok (.aload_n 0, 1) := by decide +kernel
theorem dX9_ticks_153 : decode cX9_ticks 153 = .ok (.getfield 266, 3) := by decide +kernel
theorem dX9_ticks_156 : decode cX9_ticks 156 = .ok (.ireturn, 1) := by decide +kernel
theorem dX9_quarrel_0 : decode cX9_quarrel 0 = .ok (.iconst 0, 1) := by decide +kernel
theorem dX9_quarrel_1 : decode cX9_quarrel 1 = .ok (.istore_n 1, 1) := by decide +kernel
theorem dX9_quarrel_2 : decode cX9_quarrel 2 = .ok (.iload_n 1, 1) := by decide +kernel
theorem dX9_quarrel_3 : decode cX9_quarrel 3 = .ok (.aload_n 0, 1) := by decide +kernel
theorem dX9_quarrel_4 : decode cX9_quarrel 4 = .ok (.getfield 245, 3) := by decide +kernel
theorem dX9_quarrel_7 : decode cX9_quarrel 7 = .ok (.if_icmp .ge 155, 3) := by decide +kernel
theorem dX9_quarrel_10 : decode cX9_quarrel 10 = .ok (.iload_n 1, 1) := by decide +kernel
theorem dX9_quarrel_11 : decode cX9_quarrel 11 = .ok (.iconst 1, 1) := by decide +kernel
theorem dX9_quarrel_12 : decode cX9_quarrel 12 = .ok (.iadd, 1) := by decide +kernel
theorem dX9_quarrel_13 : decode cX9_quarrel 13 = .ok (.istore_n 2, 1) := by decide +kernel
theorem dX9_quarrel_14 : decode cX9_quarrel 14 = .ok (.iload_n 2, 1) := by decide +kernel
theorem dX9_quarrel_15 : decode cX9_quarrel 15 = .ok (.aload_n 0, 1) := by decide +kernel
theorem dX9_quarrel_16 : decode cX9_quarrel 16 = .ok (.getfield 245, 3) := by decide +kernel
theorem dX9_quarrel_19 : decode cX9_quarrel 19 = .ok (.if_icmp .ge 137, 3) := by decide +kernel
theorem dX9_quarrel_22 : decode cX9_quarrel 22 = .ok (.aload_n 0, 1) := by decide +kernel
theorem dX9_quarrel_23 : decode cX9_quarrel 23 = .ok (.getfield 80, 3) := by decide +kernel
theorem dX9_quarrel_26 : decode cX9_quarrel 26 = .ok (.iconst 5, 1) := by decide +kernel
theorem dX9_quarrel_27 : decode cX9_quarrel 27 = .ok (.iload_n 1, 1) := by decide +kernel
theorem dX9_quarrel_28 : decode cX9_quarrel 28 = .ok (.imul, 1) := by decide +kernel
theorem dX9_quarrel_29 : decode cX9_quarrel 29 = .ok (.iaload, 1) := by decide +kernel
theorem dX9_quarrel_30 : decode cX9_quarrel 30 = .ok (.aload_n 0, 1) := by decide +kernel
theorem dX9_quarrel_31 : decode cX9_quarrel 31 = .ok (.getfield 80, 3) := by decide +kernel
theorem dX9_quarrel_34 : decode cX9_quarrel 34 = .ok (.iconst 5, 1) := by decide +kernel
theorem dX9_quarrel_35 : decode cX9_quarrel 35 = .ok (.iload_n 2, 1) := by decide +kernel
theorem dX9_quarrel_36 : decode cX9_quarrel 36 = .ok (.imul, 1) := by decide +kernel
theorem dX9_quarrel_37 : decode cX9_quarrel 37 = .ok (.iaload, 1) := by decide +kernel
theorem dX9_quarrel_38 : decode cX9_quarrel 38 = .ok (.if_icmp .ne 53, 3) := by decide +kernel
theorem dX9_quarrel_41 : decode cX9_quarrel 41 = .ok (.aload_n 0, 1) := by decide +kernel
theorem dX9_quarrel_42 : decode cX9_quarrel 42 = .ok (.getfield 80, 3) := by decide +kernel
theorem dX9_quarrel_45 : decode cX9_quarrel 45 = .ok (.iconst 5, 1) := by decide +kernel
theorem dX9_quarrel_46 : decode cX9_quarrel 46 = .ok (.iload_n 1, 1) := by decide +kernel
theorem dX9_quarrel_47 : decode cX9_quarrel 47 = .ok (.imul, 1) := by decide +kernel
theorem dX9_quarrel_48 : decode cX9_quarrel 48 = .ok (.iconst 1, 1) := by decide +kernel
theorem dX9_quarrel_49 : decode cX9_quarrel 49 = .ok (.iadd, 1) := by decide +kernel
theorem dX9_quarrel_50 : decode cX9_quarrel 50 = .ok (.iaload, 1) := by decide +kernel
theorem dX9_quarrel_51 : decode cX9_quarrel 51 = .ok (.aload_n 0, 1) := by decide +kernel
theorem dX9_quarrel_52 : decode cX9_quarrel 52 = .ok (.getfield 80, 3) := by decide +kernel
theorem dX9_quarrel_55 : decode cX9_quarrel 55 = .ok (.iconst 5, 1) := by decide +kernel
theorem dX9_quarrel_56 : decode cX9_quarrel 56 = .ok (.iload_n 2, 1) := by decide +kernel
theorem dX9_quarrel_57 : decode cX9_quarrel 57 = .ok (.imul, 1) := by decide +kernel
theorem dX9_quarrel_58 : decode cX9_quarrel 58 = .ok (.iconst 1, 1) := by decide +kernel
theorem dX9_quarrel_59 : decode cX9_quarrel 59 = .ok (.iadd, 1) := by decide +kernel
theorem dX9_quarrel_60 : decode cX9_quarrel 60 = .ok (.iaload, 1) := by decide +kernel
theorem dX9_quarrel_61 : decode cX9_quarrel 61 = .ok (.if_icmp .ne 30, 3) := by decide +kernel
theorem dX9_quarrel_64 : decode cX9_quarrel 64 = .ok (.aload_n 0, 1) := by decide +kernel
theorem dX9_quarrel_65 : decode cX9_quarrel 65 = .ok (.getfield 80, 3) := by decide +kernel
theorem dX9_quarrel_68 : decode cX9_quarrel 68 = .ok (.iconst 5, 1) := by decide +kernel
theorem dX9_quarrel_69 : decode cX9_quarrel 69 = .ok (.iload_n 1, 1) := by decide +kernel
theorem dX9_quarrel_70 : decode cX9_quarrel 70 = .ok (.imul, 1) := by decide +kernel
theorem dX9_quarrel_71 : decode cX9_quarrel 71 = .ok (.iconst 2, 1) := by decide +kernel
theorem dX9_quarrel_72 : decode cX9_quarrel 72 = .ok (.iadd, 1) := by decide +kernel
theorem dX9_quarrel_73 : decode cX9_quarrel 73 = .ok (.iaload, 1) := by decide +kernel
theorem dX9_quarrel_74 : decode cX9_quarrel 74 = .ok (.aload_n 0, 1) := by decide +kernel
theorem dX9_quarrel_75 : decode cX9_quarrel 75 = .ok (.getfield 80, 3) := by decide +kernel
theorem dX9_quarrel_78 : decode cX9_quarrel 78 = .ok (.iconst 5, 1) := by decide +kernel
theorem dX9_quarrel_79 : decode cX9_quarrel 79 = .ok (.iload_n 2, 1) := by decide +kernel
theorem dX9_quarrel_80 : decode cX9_quarrel 80 = .ok (.imul, 1) := by decide +kernel
theorem dX9_quarrel_81 : decode cX9_quarrel 81 = .ok (.iconst 2, 1) := by decide +kernel
theorem dX9_quarrel_82 : decode cX9_quarrel 82 = .ok (.iadd, 1) := by decide +kernel
theorem dX9_quarrel_83 : decode cX9_quarrel 83 = .ok (.iaload, 1) := by decide +kernel
theorem dX9_quarrel_84 : decode cX9_quarrel 84 = .ok (.if_icmp .ne 7, 3) := by decide +kernel
theorem dX9_quarrel_87 : decode cX9_quarrel 87 = .ok (.iconst 1, 1) := by decide +kernel
theorem dX9_quarrel_88 : decode cX9_quarrel 88 = .ok (.goto 4, 3) := by decide +kernel
theorem dX9_quarrel_91 : decode cX9_quarrel 91 = .ok (.iconst 0, 1) := by decide +kernel
theorem dX9_quarrel_92 : decode cX9_quarrel 92 = .ok (.istore_n 3, 1) := by decide +kernel
theorem dX9_quarrel_93 : decode cX9_quarrel 93 = .ok (.iload_n 3, 1) := by decide +kernel
theorem dX9_quarrel_94 : decode cX9_quarrel 94 = .ok (.ifCond .eq 56, 3) := by decide +kernel
theorem dX9_quarrel_97 : decode cX9_quarrel 97 = .ok (.aload_n 0, 1) := by decide +kernel
theorem dX9_quarrel_98 : decode cX9_quarrel 98 = .ok (.getfield 80, 3) := by decide +kernel
theorem dX9_quarrel_101 : decode cX9_quarrel 101 = .ok (.iconst 5, 1) := by decide +kernel
theorem dX9_quarrel_102 : decode cX9_quarrel 102 = .ok (.iload_n 1, 1) := by decide +kernel
theorem dX9_quarrel_103 : decode cX9_quarrel 103 = .ok (.imul, 1) := by decide +kernel
theorem dX9_quarrel_104 : decode cX9_quarrel 104 = .ok (.iconst 3, 1) := by decide +kernel
theorem dX9_quarrel_105 : decode cX9_quarrel 105 = .ok (.iadd, 1) := by decide +kernel
theorem dX9_quarrel_106 : decode cX9_quarrel 106 = .ok (.iaload, 1) := by decide +kernel
theorem dX9_quarrel_107 : decode cX9_quarrel 107 = .ok (.aload_n 0, 1) := by decide +kernel
theorem dX9_quarrel_108 : decode cX9_quarrel 108 = .ok (.getfield 80, 3) := by decide +kernel
theorem dX9_quarrel_111 : decode cX9_quarrel 111 = .ok (.iconst 5, 1) := by decide +kernel
theorem dX9_quarrel_112 : decode cX9_quarrel 112 = .ok (.iload_n 2, 1) := by decide +kernel
theorem dX9_quarrel_113 : decode cX9_quarrel 113 = .ok (.imul, 1) := by decide +kernel
theorem dX9_quarrel_114 : decode cX9_quarrel 114 = .ok (.iconst 3, 1) := by decide +kernel
theorem dX9_quarrel_115 : decode cX9_quarrel 115 = .ok (.iadd, 1) := by decide +kernel
theorem dX9_quarrel_116 : decode cX9_quarrel 116 = .ok (.iaload, 1) := by decide +kernel
theorem dX9_quarrel_117 : decode cX9_quarrel 117 = .ok (.if_icmp .ne 33, 3) := by decide +kernel
theorem dX9_quarrel_120 : decode cX9_quarrel 120 = .ok (.aload_n 0, 1) := by decide +kernel
theorem dX9_quarrel_121 : decode cX9_quarrel 121 = .ok (.getfield 80, 3) := by decide +kernel
theorem dX9_quarrel_124 : decode cX9_quarrel 124 = .ok (.iconst 5, 1) := by decide +kernel
theorem dX9_quarrel_125 : decode cX9_quarrel 125 = .ok (.iload_n 1, 1) := by decide +kernel
theorem dX9_quarrel_126 : decode cX9_quarrel 126 = .ok (.imul, 1) := by decide +kernel
theorem dX9_quarrel_127 : decode cX9_quarrel 127 = .ok (.iconst 4, 1) := by decide +kernel
theorem dX9_quarrel_128 : decode cX9_quarrel 128 = .ok (.iadd, 1) := by decide +kernel
theorem dX9_quarrel_129 : decode cX9_quarrel 129 = .ok (.iaload, 1) := by decide +kernel
theorem dX9_quarrel_130 : decode cX9_quarrel 130 = .ok (.aload_n 0, 1) := by decide +kernel
theorem dX9_quarrel_131 : decode cX9_quarrel 131 = .ok (.getfield 80, 3) := by decide +kernel
theorem dX9_quarrel_134 : decode cX9_quarrel 134 = .ok (.iconst 5, 1) := by decide +kernel
theorem dX9_quarrel_135 : decode cX9_quarrel 135 = .ok (.iload_n 2, 1) := by decide +kernel
theorem dX9_quarrel_136 : decode cX9_quarrel 136 = .ok (.imul, 1) := by decide +kernel
theorem dX9_quarrel_137 : decode cX9_quarrel 137 = .ok (.iconst 4, 1) := by decide +kernel
theorem dX9_quarrel_138 : decode cX9_quarrel 138 = .ok (.iadd, 1) := by decide +kernel
theorem dX9_quarrel_139 : decode cX9_quarrel 139 = .ok (.iaload, 1) := by decide +kernel
theorem dX9_quarrel_140 : decode cX9_quarrel 140 = .ok (.if_icmp .eq 10, 3) := by decide +kernel
theorem dX9_quarrel_143 : decode cX9_quarrel 143 = .ok (.bipush 10, 2) := by decide +kernel
theorem dX9_quarrel_145 : decode cX9_quarrel 145 = .ok (.iload_n 1, 1) := by decide +kernel
theorem dX9_quarrel_146 : decode cX9_quarrel 146 = .ok (.imul, 1) := by decide +kernel
theorem dX9_quarrel_147 : decode cX9_quarrel 147 = .ok (.iload_n 2, 1) := by decide +kernel
theorem dX9_quarrel_148 : decode cX9_quarrel 148 = .ok (.iadd, 1) := by decide +kernel
theorem dX9_quarrel_149 : decode cX9_quarrel 149 = .ok (.ireturn, 1) := by decide +kernel
theorem dX9_quarrel_150 : decode cX9_quarrel 150 = .ok (.iinc 2 1, 3) := by decide +kernel
theorem dX9_quarrel_153 : decode cX9_quarrel 153 = .ok (.goto (-139), 3) := by decide +kernel
theorem dX9_quarrel_156 : decode cX9_quarrel 156 = .ok (.iinc 1 1, 3) := by decide +kernel
theorem dX9_quarrel_159 : decode cX9_quarrel 159 = .ok (.goto (-157), 3) := by decide +kernel
theorem dX9_quarrel_162 : decode cX9_quarrel 162 = .ok (.bipush (-4), 2) := by decide +kernel
theorem dX9_quarrel_164 : decode cX9_quarrel 164 = .ok (.ireturn, 1) := by decide +kernel
theorem dX9_wakes_0 : decode cX9_wakes 0 = .ok (.iconst 0, 1) := by decide +kernel
theorem dX9_wakes_1 : decode cX9_wakes 1 = .ok (.istore_n 2, 1) := by decide +kernel
theorem dX9_wakes_2 : decode cX9_wakes 2 = .ok (.iconst 0, 1) := by decide +kernel
theorem dX9_wakes_3 : decode cX9_wakes 3 = .ok (.istore_n 3, 1) := by decide +kernel
theorem dX9_wakes_4 : decode cX9_wakes 4 = .ok (.iload_n 3, 1) := by decide +kernel
theorem dX9_wakes_5 : decode cX9_wakes 5 = .ok (.aload_n 0, 1) := by decide +kernel
theorem dX9_wakes_6 : decode cX9_wakes 6 = .ok (.getfield 245, 3) := by decide +kernel
theorem dX9_wakes_9 : decode cX9_wakes 9 = .ok (.if_icmp .ge 89, 3) := by decide +kernel
theorem dX9_wakes_12 : decode cX9_wakes 12 = .ok (.aload_n 0, 1) := by decide +kernel
theorem dX9_wakes_13 : decode cX9_wakes 13 = .ok (.getfield 80, 3) := by decide +kernel
theorem dX9_wakes_16 : decode cX9_wakes 16 = .ok (.iconst 5, 1) := by decide +kernel
theorem dX9_wakes_17 : decode cX9_wakes 17 = .ok (.iload_n 3, 1) := by decide +kernel
theorem dX9_wakes_18 : decode cX9_wakes 18 = .ok (.imul, 1) := by decide +kernel
theorem dX9_wakes_19 : decode cX9_wakes 19 = .ok (.iaload, 1) := by decide +kernel
theorem dX9_wakes_20 : decode cX9_wakes 20 = .ok (.iconst 1, 1) := by decide +kernel
theorem dX9_wakes_21 : decode cX9_wakes 21 = .ok (.if_icmp .ne 53, 3) := by decide +kernel
theorem dX9_wakes_24 : decode cX9_wakes 24 = .ok (.aload_n 0, 1) := by decide +kernel
theorem dX9_wakes_25 : decode cX9_wakes 25 = .ok (.getfield 80, 3) := by decide +kernel
theorem dX9_wakes_28 : decode cX9_wakes 28 = .ok (.iconst 5, 1) := by decide +kernel
theorem dX9_wakes_29 : decode cX9_wakes 29 = .ok (.iload_n 3, 1) := by decide +kernel
theorem dX9_wakes_30 : decode cX9_wakes 30 = .ok (.imul, 1) := by decide +kernel
theorem dX9_wakes_31 : decode cX9_wakes 31 = .ok (.iconst 1, 1) := by decide +kernel
theorem dX9_wakes_32 : decode cX9_wakes 32 = .ok (.iadd, 1) := by decide +kernel
theorem dX9_wakes_33 : decode cX9_wakes 33 = .ok (.iaload, 1) := by decide +kernel
theorem dX9_wakes_34 : decode cX9_wakes 34 = .ok (.aload_n 0, 1) := by decide +kernel
theorem dX9_wakes_35 : decode cX9_wakes 35 = .ok (.getfield 80, 3) := by decide +kernel
theorem dX9_wakes_38 : decode cX9_wakes 38 = .ok (.iconst 5, 1) := by decide +kernel
theorem dX9_wakes_39 : decode cX9_wakes 39 = .ok (.iload_n 1, 1) := by decide +kernel
theorem dX9_wakes_40 : decode cX9_wakes 40 = .ok (.imul, 1) := by decide +kernel
theorem dX9_wakes_41 : decode cX9_wakes 41 = .ok (.iconst 3, 1) := by decide +kernel
theorem dX9_wakes_42 : decode cX9_wakes 42 = .ok (.iadd, 1) := by decide +kernel
theorem dX9_wakes_43 : decode cX9_wakes 43 = .ok (.iaload, 1) := by decide +kernel
theorem dX9_wakes_44 : decode cX9_wakes 44 = .ok (.if_icmp .ne 30, 3) := by decide +kernel
theorem dX9_wakes_47 : decode cX9_wakes 47 = .ok (.aload_n 0, 1) := by decide +kernel
theorem dX9_wakes_48 : decode cX9_wakes 48 = .ok (.getfield 80, 3) := by decide +kernel
theorem dX9_wakes_51 : decode cX9_wakes 51 = .ok (.iconst 5, 1) := by decide +kernel
theorem dX9_wakes_52 : decode cX9_wakes 52 = .ok (.iload_n 3, 1) := by decide +kernel
theorem dX9_wakes_53 : decode cX9_wakes 53 = .ok (.imul, 1) := by decide +kernel
theorem dX9_wakes_54 : decode cX9_wakes 54 = .ok (.iconst 2, 1) := by decide +kernel
theorem dX9_wakes_55 : decode cX9_wakes 55 = .ok (.iadd, 1) := by decide +kernel
theorem dX9_wakes_56 : decode cX9_wakes 56 = .ok (.iaload, 1) := by decide +kernel
theorem dX9_wakes_57 : decode cX9_wakes 57 = .ok (.aload_n 0, 1) := by decide +kernel
theorem dX9_wakes_58 : decode cX9_wakes 58 = .ok (.getfield 80, 3) := by decide +kernel
theorem dX9_wakes_61 : decode cX9_wakes 61 = .ok (.iconst 5, 1) := by decide +kernel
theorem dX9_wakes_62 : decode cX9_wakes 62 = .ok (.iload_n 1, 1) := by decide +kernel
theorem dX9_wakes_63 : decode cX9_wakes 63 = .ok (.imul, 1) := by decide +kernel
theorem dX9_wakes_64 : decode cX9_wakes 64 = .ok (.iconst 4, 1) := by decide +kernel
theorem dX9_wakes_65 : decode cX9_wakes 65 = .ok (.iadd, 1) := by decide +kernel
theorem dX9_wakes_66 : decode cX9_wakes 66 = .ok (.iaload, 1) := by decide +kernel
theorem dX9_wakes_67 : decode cX9_wakes 67 = .ok (.if_icmp .ne 7, 3) := by decide +kernel
theorem dX9_wakes_70 : decode cX9_wakes 70 = .ok (.iconst 1, 1) := by decide +kernel
theorem dX9_wakes_71 : decode cX9_wakes 71 = .ok (.goto 4, 3) := by decide +kernel
theorem dX9_wakes_74 : decode cX9_wakes 74 = .ok (.iconst 0, 1) := by decide +kernel
theorem dX9_wakes_75 : decode cX9_wakes 75 = .ok (.istore 4, 2) := by decide +kernel
theorem dX9_wakes_77 : decode cX9_wakes 77 = .ok (.iload_n 2, 1) := by decide +kernel
theorem dX9_wakes_78 : decode cX9_wakes 78 = .ok (.iload 4, 2) := by decide +kernel
theorem dX9_wakes_80 : decode cX9_wakes 80 = .ok (.ifCond .eq 9, 3) := by decide +kernel
theorem dX9_wakes_83 : decode cX9_wakes 83 = .ok (.iconst 1, 1) := by decide +kernel
theorem dX9_wakes_84 : decode cX9_wakes 84 = .ok (.iload_n 3, 1) := by decide +kernel
theorem dX9_wakes_85 : decode cX9_wakes 85 = .ok (.ishl, 1) := by decide +kernel
theorem dX9_wakes_86 : decode cX9_wakes 86 = .ok (.goto 4, 3) := by decide +kernel
theorem dX9_wakes_89 : decode cX9_wakes 89 = .ok (.iconst 0, 1) := by decide +kernel
theorem dX9_wakes_90 : decode cX9_wakes 90 = .ok (.ior, 1) := by decide +kernel
theorem dX9_wakes_91 : decode cX9_wakes 91 = .ok (.istore_n 2, 1) := by decide +kernel
theorem dX9_wakes_92 : decode cX9_wakes 92 = .ok (.iinc 3 1, 3) := by decide +kernel
theorem dX9_wakes_95 : decode cX9_wakes 95 = .ok (.goto (-91), 3) := by decide +kernel
theorem dX9_wakes_98 : decode cX9_wakes 98 = .ok (.iload_n 2, 1) := by decide +kernel
theorem dX9_wakes_99 : decode cX9_wakes 99 = .ok (.ireturn, 1) := by decide +kernel
theorem dX9_wake_0 : decode cX9_wake 0 = .ok (.iconst 0, 1) := by decide +kernel
theorem dX9_wake_1 : decode cX9_wake 1 = .ok (.istore_n 1, 1) := by decide +kernel
theorem dX9_wake_2 : decode cX9_wake 2 = .ok (.iload_n 1, 1) := by decide +kernel
theorem dX9_wake_3 : decode cX9_wake 3 = .ok (.aload_n 0, 1) := by decide +kernel
theorem dX9_wake_4 : decode cX9_wake 4 = .ok (.getfield 245, 3) := by decide +kernel
theorem dX9_wake_7 : decode cX9_wake 7 = .ok (.if_icmp .ge 77, 3) := by decide +kernel
theorem dX9_wake_10 : decode cX9_wake 10 = .ok (.aload_n 0, 1) := by decide +kernel
theorem dX9_wake_11 : decode cX9_wake 11 = .ok (.iload_n 1, 1) := by decide +kernel
theorem dX9_wake_12 : decode cX9_wake 12 = .ok (.invokevirtual 289, 3) := by decide +kernel
theorem dX9_wake_15 : decode cX9_wake 15 = .ok (.istore_n 2, 1) := by decide +kernel
theorem dX9_wake_16 : decode cX9_wake 16 = .ok (.iconst (-1), 1) := by decide +kernel
theorem dX9_wake_17 : decode cX9_wake 17 = .ok (.istore_n 3, 1) := by decide +kernel
theorem dX9_wake_18 : decode cX9_wake 18 = .ok (.iload_n 2, 1) := by decide +kernel
theorem dX9_wake_19 : decode cX9_wake 19 = .ok (.iload_n 3, 1) := by decide +kernel
theorem dX9_wake_20 : decode cX9_wake 20 = .ok (.if_icmp .eq 48, 3) := by decide +kernel
theorem dX9_wake_23 : decode cX9_wake 23 = .ok (.iload_n 2, 1) := by decide +kernel
theorem dX9_wake_24 : decode cX9_wake 24 = .ok (.istore_n 3, 1) := by decide +kernel
theorem dX9_wake_25 : decode cX9_wake 25 = .ok (.iconst 0, 1) := by decide +kernel
theorem dX9_wake_26 : decode cX9_wake 26 = .ok (.istore 4, 2) := by decide +kernel
theorem dX9_wake_28 : decode cX9_wake 28 = .ok (.iload 4, 2) := by decide +kernel
theorem dX9_wake_30 : decode cX9_wake 30 = .ok (.aload_n 0, 1) := by decide +kernel
theorem dX9_wake_31 : decode cX9_wake 31 = .ok (.getfield 245, 3) := by decide +kernel
theorem dX9_wake_34 : decode cX9_wake 34 = .ok (.if_icmp .ge 31, 3) := by decide +kernel
theorem dX9_wake_37 : decode cX9_wake 37 = .ok (.iload_n 2, 1) := by decide +kernel
theorem dX9_wake_38 : decode cX9_wake 38 = .ok (.iload_n 3, 1) := by decide +kernel
theorem dX9_wake_39 : decode cX9_wake 39 = .ok (.iload 4, 2) := by decide +kernel
theorem dX9_wake_41 : decode cX9_wake 41 = .ok (.invokestatic 208, 3) := by decide +kernel
theorem dX9_wake_44 : decode cX9_wake 44 = .ok (.ifCond .eq 12, 3) := by decide +kernel
theorem dX9_wake_47 : decode cX9_wake 47 = .ok (.aload_n 0, 1) := by decide +kernel
theorem dX9_wake_48 : decode cX9_wake 48 = .ok (.iload 4, 2) := by decide +kernel
theorem dX9_wake_50 : decode cX9_wake 50 = .ok (.invokevirtual 289, 3) := by decide +kernel
theorem dX9_wake_53 : decode cX9_wake 53 = .ok (.goto 4, 3) := by decide +kernel
theorem dX9_wake_56 : decode cX9_wake 56 = .ok (.iconst 0, 1) := by decide +kernel
theorem dX9_wake_57 : decode cX9_wake 57 = .ok (.ior, 1) := by decide +kernel
theorem dX9_wake_58 : decode cX9_wake 58 = .ok (.istore_n 2, 1) := by decide +kernel
theorem dX9_wake_59 : decode cX9_wake 59 = .ok (.iinc 4 1, 3) := by decide +kernel
theorem dX9_wake_62 : decode cX9_wake 62 = .ok (.goto (-34), 3) := by decide +kernel
theorem dX9_wake_65 : decode cX9_wake 65 = .ok (.goto (-47), 3) := by decide +kernel
theorem dX9_wake_68 : decode cX9_wake 68 = .ok (.iload_n 2, 1) := by decide +kernel
theorem dX9_wake_69 : decode cX9_wake 69 = .ok (.iload_n 1, 1) := by decide +kernel
theorem dX9_wake_70 : decode cX9_wake 70 = .ok (.invokestatic 208, 3) := by decide +kernel
theorem dX9_wake_73 : decode cX9_wake 73 = .ok (.ifCond .eq 5, 3) := by decide +kernel
theorem dX9_wake_76 : decode cX9_wake 76 = .ok (.iload_n 1, 1) := by decide +kernel
theorem dX9_wake_77 : decode cX9_wake 77 = .ok (.ireturn, 1) := by decide +kernel
theorem dX9_wake_78 : decode cX9_wake 78 = .ok (.iinc 1 1, 3) := by decide +kernel
theorem dX9_wake_81 : decode cX9_wake 81 = .ok (.goto (-79), 3) := by decide +kernel
theorem dX9_wake_84 : decode cX9_wake 84 = .ok (.bipush (-4), 2) := by decide +kernel
theorem dX9_wake_86 : decode cX9_wake 86 = .ok (.ireturn, 1) := by decide +kernel
theorem dX9_bringsBar_0 : decode cX9_bringsBar 0 = .ok (.aload_n 0, 1) := by decide +kernel
theorem dX9_bringsBar_1 : decode cX9_bringsBar 1 = .ok (.getfield 101, 3) := by decide +kernel
theorem dX9_bringsBar_4 : decode cX9_bringsBar 4 = .ok (.iconst 0, 1) := by decide +kernel
theorem dX9_bringsBar_5 : decode cX9_bringsBar 5 = .ok (.iload_n 1, 1) := by decide +kernel
theorem dX9_bringsBar_6 : decode cX9_bringsBar 6 = .ok (.iastore, 1) := by decide +kernel
theorem dX9_bringsBar_7 : decode cX9_bringsBar 7 = .ok (.aload_n 0, 1) := by decide +kernel
theorem dX9_bringsBar_8 : decode cX9_bringsBar 8 = .ok (.iconst 1, 1) := by decide +kernel
theorem dX9_bringsBar_9 : decode cX9_bringsBar 9 = .ok (.putfield 248, 3) := by decide +kernel
theorem dX9_bringsBar_12 : decode cX9_bringsBar 12 = .ok (.iconst 0, 1) := by decide +kernel
theorem dX9_bringsBar_13 : decode cX9_bringsBar 13 = .ok (.istore_n 2, 1) := by decide +kernel
theorem dX9_bringsBar_14 : decode cX9_bringsBar 14 = .ok (.iconst 0, 1) := by decide +kernel
theorem dX9_bringsBar_15 : decode cX9_bringsBar 15 = .ok (.istore_n 3, 1) := by decide +kernel
theorem dX9_bringsBar_16 : decode cX9_bringsBar 16 = .ok (.iload_n 3, 1) := by decide +kernel
theorem dX9_bringsBar_17 : decode cX9_bringsBar 17 = .ok (.aload_n 0, 1) := by decide +kernel
theorem dX9_bringsBar_18 : decode cX9_bringsBar 18 = .ok (.getfield 248, 3) := by decide +kernel
theorem dX9_bringsBar_21 : decode cX9_bringsBar 21 = .ok (.if_icmp .ge 93, 3) := by decide +kernel
theorem dX9_bringsBar_24 : decode cX9_bringsBar 24 = .ok (.iload_n 2, 1) := by decide +kernel
theorem dX9_bringsBar_25 : decode cX9_bringsBar 25 = .ok (.bipush 30, 2) := by decide +kernel
theorem dX9_bringsBar_27 : decode cX9_bringsBar 27 = .ok (.if_icmp .ge 87, 3) := by decide +kernel
theorem dX9_bringsBar_30 : decode cX9_bringsBar 30 = .ok (.aload_n 0, 1) := by decide +kernel
theorem dX9_bringsBar_31 : decode cX9_bringsBar 31 = .ok (.getfield 80, 3) := by decide +kernel
theorem dX9_bringsBar_34 : decode cX9_bringsBar 34 = .ok (.iconst 5, 1) := by decide +kernel
theorem dX9_bringsBar_35 : decode cX9_bringsBar 35 = .ok (.aload_n 0, 1) := by decide +kernel
theorem dX9_bringsBar_36 : decode cX9_bringsBar 36 = .ok (.getfield 101, 3) := by decide +kernel
theorem dX9_bringsBar_39 : decode cX9_bringsBar 39 = .ok (.iload_n 3, 1) := by decide +kernel
theorem dX9_bringsBar_40 : decode cX9_bringsBar 40 = .ok (.iaload, 1) := by decide +kernel
theorem dX9_bringsBar_41 : decode cX9_bringsBar 41 = .ok (.imul, 1) := by decide +kernel
theorem dX9_bringsBar_42 : decode cX9_bringsBar 42 = .ok (.iconst 3, 1) := by decide +kernel
theorem dX9_bringsBar_43 : decode cX9_bringsBar 43 = .ok (.iadd, 1) := by decide +kernel
theorem dX9_bringsBar_44 : decode cX9_bringsBar 44 = .ok (.iaload, 1) := by decide +kernel
theorem dX9_bringsBar_45 : decode cX9_bringsBar 45 = .ok (.istore 4, 2) := by decide +kernel
theorem dX9_bringsBar_47 : decode cX9_bringsBar 47 = .ok (.aload_n 0, 1) := by decide +kernel
theorem dX9_bringsBar_48 : decode cX9_bringsBar 48 = .ok (.getfield 80, 3) := by decide +kernel
theorem dX9_bringsBar_51 : decode cX9_bringsBar 51 = .ok (.iconst 5, 1) := by decide +kernel
theorem dX9_bringsBar_52 : decode cX9_bringsBar 52 = .ok (.aload_n 0, 1) := by decide +kernel
theorem dX9_bringsBar_53 : decode cX9_bringsBar 53 = .ok (.getfield 101, 3) := by decide +kernel
theorem dX9_bringsBar_56 : decode cX9_bringsBar 56 = .ok (.iload_n 3, 1) := by decide +kernel
theorem dX9_bringsBar_57 : decode cX9_bringsBar 57 = .ok (.iaload, 1) := by decide +kernel
theorem dX9_bringsBar_58 : decode cX9_bringsBar 58 = .ok (.imul, 1) := by decide +kernel
theorem dX9_bringsBar_59 : decode cX9_bringsBar 59 = .ok (.iconst 4, 1) := by decide +kernel
theorem dX9_bringsBar_60 : decode cX9_bringsBar 60 = .ok (.iadd, 1) := by decide +kernel
theorem dX9_bringsBar_61 : decode cX9_bringsBar 61 = .ok (.iaload, 1) := by decide +kernel
theorem dX9_bringsBar_62 : decode cX9_bringsBar 62 = .ok (.istore 5, 2) := by decide +kernel
theorem dX9_bringsBar_64 : decode cX9_bringsBar 64 = .ok (.aload_n 0, 1) := by decide +kernel
theorem dX9_bringsBar_65 : decode cX9_bringsBar 65 = .ok (.getfield 22, 3) := by decide +kernel
theorem dX9_bringsBar_68 : decode cX9_bringsBar 68 = .ok (.iload 4, 2) := by decide +kernel
theorem dX9_bringsBar_70 : decode cX9_bringsBar 70 = .ok (.iaload, 1) := by decide +kernel
theorem dX9_bringsBar_71 : decode cX9_bringsBar 71 = .ok (.iload 5, 2) := by decide +kernel
theorem dX9_bringsBar_73 : decode cX9_bringsBar 73 = .ok (.if_icmp .eq 35, 3) := by decide +kernel
theorem dX9_bringsBar_76 : decode cX9_bringsBar 76 = .ok (.aload_n 0, 1) := by decide +kernel
theorem dX9_bringsBar_77 : decode cX9_bringsBar 77 = .ok (.getfield 22, 3) := by decide +kernel
theorem dX9_bringsBar_80 : decode cX9_bringsBar 80 = .ok (.iload 4, 2) := by decide +kernel
theorem dX9_bringsBar_82 : decode cX9_bringsBar 82 = .ok (.iload 5, 2) := by decide +kernel
theorem dX9_bringsBar_84 : decode cX9_bringsBar 84 = .ok (.iastore, 1) := by decide +kernel
theorem dX9_bringsBar_85 : decode cX9_bringsBar 85 = .ok (.iinc 2 1, 3) := by decide +kernel
theorem dX9_bringsBar_88 : decode cX9_bringsBar 88 = .ok (.aload_n 0, 1) := by decide +kernel
theorem dX9_bringsBar_89 : decode cX9_bringsBar 89 = .ok (.invokevirtual 254, 3) := by decide +kernel
theorem dX9_bringsBar_92 : decode cX9_bringsBar 92 = .ok (.ifCond .eq 10, 3) := by decide +kernel
theorem dX9_bringsBar_95 : decode cX9_bringsBar 95 = .ok (.aload_n 0, 1) := by decide +kernel
theorem dX9_bringsBar_96 : decode cX9_bringsBar 96 = .ok (.iconst 0, 1) := by decide +kernel
theorem dX9_bringsBar_97 : decode cX9_bringsBar 97 = .ok (.putfield 248, 3) := by decide +kernel
theorem dX9_bringsBar_100 : decode cX9_bringsBar 100 = .ok (.iconst 1, 1) := by decide +kernel
theorem dX9_bringsBar_101 : decode cX9_bringsBar 101 = .ok (.ireturn, 1) := by decide +kernel
theorem dX9_bringsBar_102 : decode cX9_bringsBar 102 = .ok (.aload_n 0, 1) := by decide +kernel
theorem dX9_bringsBar_103 : decode cX9_bringsBar 103 = .ok (.iload 4, 2) := by decide +kernel
theorem dX9_bringsBar_105 : decode cX9_bringsBar 105 = .ok (.invokevirtual 260, 3) := by decide +kernel
theorem dX9_bringsBar_108 : decode cX9_bringsBar 108 = .ok (.iinc 3 1, 3) := by decide +kernel
theorem dX9_bringsBar_111 : decode cX9_bringsBar 111 = .ok (.goto (-95), 3) := by decide +kernel
theorem dX9_bringsBar_114 : decode cX9_bringsBar 114 = .ok (.aload_n 0, 1) := by decide +kernel
theorem dX9_bringsBar_115 : decode cX9_bringsBar 115 = .ok (.iconst 0, 1) := by decide +kernel
theorem dX9_bringsBar_116 : decode cX9_bringsBar 116 = .ok (.putfield 248, 3) := by decide +kernel
theorem dX9_bringsBar_119 : decode cX9_bringsBar 119 = .ok (.iconst 0, 1) := by decide +kernel
theorem dX9_bringsBar_120 : decode cX9_bringsBar 120 = .ok (.ireturn, 1) := by decide +kernel
theorem dX9_restore_0 : decode cX9_restore 0 = .ok (.iconst 0, 1) := by decide +kernel
theorem dX9_restore_1 : decode cX9_restore 1 = .ok (.istore_n 2, 1) := by decide +kernel
theorem dX9_restore_2 : decode cX9_restore 2 = .ok (.iload_n 2, 1) := by decide +kernel
theorem dX9_restore_3 : decode cX9_restore 3 = .ok (.bipush 10, 2) := by decide +kernel
theorem dX9_restore_5 : decode cX9_restore 5 = .ok (.if_icmp .ge 26, 3) := by decide +kernel
theorem dX9_restore_8 : decode cX9_restore 8 = .ok (.aload_n 0, 1) := by decide +kernel
theorem dX9_restore_9 : decode cX9_restore 9 = .ok (.getfield 22, 3) := by decide +kernel
theorem dX9_restore_12 : decode cX9_restore 12 = .ok (.iload_n 2, 1) := by decide +kernel
theorem dX9_restore_13 : decode cX9_restore 13 = .ok (.aload_n 0, 1) := by decide +kernel
theorem dX9_restore_14 : decode cX9_restore 14 = .ok (.getfield 110, 3) := by decide +kernel
theorem dX9_restore_17 : decode cX9_restore 17 = .ok (.bipush 10, 2) := by decide +kernel
theorem dX9_restore_19 : decode cX9_restore 19 = .ok (.iload_n 1, 1) := by decide +kernel
theorem dX9_restore_20 : decode cX9_restore 20 = .ok (.imul, 1) := by decide +kernel
theorem dX9_restore_21 : decode cX9_restore 21 = .ok (.iload_n 2, 1) := by decide +kernel
theorem dX9_restore_22 : decode cX9_restore 22 = .ok (.iadd, 1) := by decide +kernel
theorem dX9_restore_23 : decode cX9_restore 23 = .ok (.iaload, 1) := by decide +kernel
theorem dX9_restore_24 : decode cX9_restore 24 = .ok (.iastore, 1) := by decide +kernel
theorem dX9_restore_25 : decode cX9_restore 25 = .ok (.iinc 2 1, 3) := by decide +kernel
theorem dX9_restore_28 : decode cX9_restore 28 = .ok (.goto (-26), 3) := by decide +kernel
theorem dX9_restore_31 : decode cX9_restore 31 = .ok (.return_, 1) := by decide +kernel
theorem dX9_shows_0 : decode cX9_shows 0 = .ok (.iconst 0, 1) := by decide +kernel
theorem dX9_shows_1 : decode cX9_shows 1 = .ok (.istore_n 3, 1) := by decide +kernel
theorem dX9_shows_2 : decode cX9_shows 2 = .ok (.iconst 0, 1) := by decide +kernel
theorem dX9_shows_3 : decode cX9_shows 3 = .ok (.istore 4, 2) := by decide +kernel
theorem dX9_shows_5 : decode cX9_shows 5 = .ok (.iconst 0, 1) := by decide +kernel
theorem dX9_shows_6 : decode cX9_shows 6 = .ok (.istore 5, 2) := by decide +kernel
theorem dX9_shows_8 : decode cX9_shows 8 = .ok (.aload_n 0, 1) := by decide +kernel
theorem dX9_shows_9 : decode cX9_shows 9 = .ok (.getfield 107, 3) := by decide +kernel
theorem dX9_shows_12 : decode cX9_shows 12 = .ok (.iconst 0, 1) := by decide +kernel
theorem dX9_shows_13 : decode cX9_shows 13 = .ok (.iconst (-1), 1) := by decide +kernel
theorem dX9_shows_14 : decode cX9_shows 14 = .ok (.iastore, 1) := by decide +kernel
theorem dX9_shows_15 : decode cX9_shows 15 = .ok (.iload_n 3, 1) := by decide +kernel
theorem dX9_shows_16 : decode cX9_shows 16 = .ok (.ifCond .lt 189, 3) := by decide +kernel
