theorem dX0_init_0 : decode cX0_init 0 = .ok (.aload_n 0, 1) := by decide +kernel
theorem dX0_init_1 : decode cX0_init 1 = .ok (.invokespecial 3, 3) := by decide +kernel
theorem dX0_init_4 : decode cX0_init 4 = .ok (.aload_n 0, 1) := by decide +kernel
theorem dX0_init_5 : decode cX0_init 5 = .ok (.sipush 200, 3) := by decide +kernel
theorem dX0_init_8 : decode cX0_init 8 = .ok (.newarray .int, 2) := by decide +kernel
theorem dX0_init_10 : decode cX0_init 10 = .ok (.putfield 9, 3) := by decide +kernel
theorem dX0_init_13 : decode cX0_init 13 = .ok (.aload_n 0, 1) := by decide +kernel
theorem dX0_init_14 : decode cX0_init 14 = .ok (.sipush 200, 3) := by decide +kernel
theorem dX0_init_17 : decode cX0_init 17 = .ok (.newarray .int, 2) := by decide +kernel
theorem dX0_init_19 : decode cX0_init 19 = .ok (.putfield 15, 3) := by decide +kernel
theorem dX0_init_22 : decode cX0_init 22 = .ok (.aload_n 0, 1) := by decide +kernel
theorem dX0_init_23 : decode cX0_init 23 = .ok (.sipush 200, 3) := by decide +kernel
theorem dX0_init_26 : decode cX0_init 26 = .ok (.newarray .boolean, 2) := by decide +kernel
theorem dX0_init_28 : decode cX0_init 28 = .ok (.putfield 18, 3) := by decide +kernel
theorem dX0_init_31 : decode cX0_init 31 = .ok (.return_, 1) := by decide +kernel
theorem dX0_add_0 : decode cX0_add 0 = .ok (.aload_n 0, 1) := by decide +kernel
theorem dX0_add_1 : decode cX0_add 1 = .ok (.getfield 9, 3) := by decide +kernel
theorem dX0_add_4 : decode cX0_add 4 = .ok (.aload_n 0, 1) := by decide +kernel
theorem dX0_add_5 : decode cX0_add 5 = .ok (.getfield 22, 3) := by decide +kernel
theorem dX0_add_8 : decode cX0_add 8 = .ok (.iload_n 2, 1) := by decide +kernel
theorem dX0_add_9 : decode cX0_add 9 = .ok (.iastore, 1) := by decide +kernel
theorem dX0_add_10 : decode cX0_add 10 = .ok (.aload_n 0, 1) := by decide +kernel
theorem dX0_add_11 : decode cX0_add 11 = .ok (.getfield 15, 3) := by decide +kernel
theorem dX0_add_14 : decode cX0_add 14 = .ok (.aload_n 0, 1) := by decide +kernel
theorem dX0_add_15 : decode cX0_add 15 = .ok (.getfield 22, 3) := by decide +kernel
theorem dX0_add_18 : decode cX0_add 18 = .ok (.iload_n 3, 1) := by decide +kernel
theorem dX0_add_19 : decode cX0_add 19 = .ok (.iastore, 1) := by decide +kernel
theorem dX0_add_20 : decode cX0_add 20 = .ok (.aload_n 0, 1) := by decide +kernel
theorem dX0_add_21 : decode cX0_add 21 = .ok (.iload_n 1, 1) := by decide +kernel
theorem dX0_add_22 : decode cX0_add 22 = .ok (.putfield 26, 3) := by decide +kernel
theorem dX0_add_25 : decode cX0_add 25 = .ok (.aload_n 0, 1) := by decide +kernel
theorem dX0_add_26 : decode cX0_add 26 = .ok (.dup, 1) := by decide +kernel
theorem dX0_add_27 : decode cX0_add 27 = .ok (.getfield 22, 3) := by decide +kernel
theorem dX0_add_30 : decode cX0_add 30 = .ok (.iconst 1, 1) := by decide +kernel
theorem dX0_add_31 : decode cX0_add 31 = .ok (.iadd, 1) := by decide +kernel
theorem dX0_add_32 : decode cX0_add 32 = .ok (.putfield 22, 3) := by decide +kernel
theorem dX0_add_35 : decode cX0_add 35 = .ok (.aload_n 0, 1) := by decide +kernel
theorem dX0_add_36 : decode cX0_add 36 = .ok (.getfield 22, 3) := by decide +kernel
theorem dX0_add_39 : decode cX0_add 39 = .ok (.iconst 1, 1) := by decide +kernel
theorem dX0_add_40 : decode cX0_add 40 = .ok (.isub, 1) := by decide +kernel
theorem dX0_add_41 : decode cX0_add 41 = .ok (.ireturn, 1) := by decide +kernel
theorem dX0_lastNotBack_0 : decode cX0_lastNotBack 0 = .ok (.aload_n 0, 1) := by decide +kernel
theorem dX0_lastNotBack_1 : decode cX0_lastNotBack 1 = .ok (.getfield 22, 3) := by decide +kernel
theorem dX0_lastNotBack_4 : decode cX0_lastNotBack 4 = .ok (.iconst 1, 1) := by decide +kernel
theorem dX0_lastNotBack_5 : decode cX0_lastNotBack 5 = .ok (.isub, 1) := by decide +kernel
theorem dX0_lastNotBack_6 : decode cX0_lastNotBack 6 = .ok (.istore_n 1, 1) := by decide +kernel
theorem dX0_lastNotBack_7 : decode cX0_lastNotBack 7 = .ok (.iload_n 1, 1) := by decide +kernel
theorem dX0_lastNotBack_8 : decode cX0_lastNotBack 8 = .ok (.ifCond .lt 18, 3) := by decide +kernel
theorem dX0_lastNotBack_11 : decode cX0_lastNotBack 11 = .ok (.aload_n 0, 1) := by decide +kernel
theorem dX0_lastNotBack_12 : decode cX0_lastNotBack 12 = .ok (.getfield 18, 3) := by decide +kernel
theorem dX0_lastNotBack_15 : decode cX0_lastNotBack 15 = .ok (.iload_n 1, 1) := by decide +kernel
theorem dX0_lastNotBack_16 : decode cX0_lastNotBack 16 = .ok (.baload, 1) := by decide +kernel
theorem dX0_lastNotBack_17 : decode cX0_lastNotBack 17 = .ok (.ifCond .eq 9, 3) := by decide +kernel
theorem dX0_lastNotBack_20 : decode cX0_lastNotBack 20 = .ok (.iinc 1 (-1), 3) := by decide +kernel
theorem dX0_lastNotBack_23 : decode cX0_lastNotBack 23 = .ok (.goto (-16), 3) := by decide +kernel
theorem dX0_lastNotBack_26 : decode cX0_lastNotBack 26 = .ok (.iload_n 1, 1) := by decide +kernel
theorem dX0_lastNotBack_27 : decode cX0_lastNotBack 27 = .ok (.ireturn, 1) := by decide +kernel
theorem dX1_init_0 : decode cX1_init 0 = .ok (.aload_n 0, 1) := by decide +kernel
theorem dX1_init_1 : decode cX1_init 1 = .ok (.invokespecial 3, 3) := by decide +kernel
theorem dX1_init_4 : decode cX1_init 4 = .ok (.aload_n 0, 1) := by decide +kernel
theorem dX1_init_5 : decode cX1_init 5 = .ok (.bipush 60, 2) := by decide +kernel
theorem dX1_init_7 : decode cX1_init 7 = .ok (.newarray .int, 2) := by decide +kernel
theorem dX1_init_9 : decode cX1_init 9 = .ok (.putfield 9, 3) := by decide +kernel
theorem dX1_init_12 : decode cX1_init 12 = .ok (.aload_n 0, 1) := by decide +kernel
theorem dX1_init_13 : decode cX1_init 13 = .ok (.bipush 60, 2) := by decide +kernel
theorem dX1_init_15 : decode cX1_init 15 = .ok (.newarray .int, 2) := by decide +kernel
theorem dX1_init_17 : decode cX1_init 17 = .ok (.putfield 15, 3) := by decide +kernel
theorem dX1_init_20 : decode cX1_init 20 = .ok (.aload_n 0, 1) := by decide +kernel
theorem dX1_init_21 : decode cX1_init 21 = .ok (.bipush 60, 2) := by decide +kernel
theorem dX1_init_23 : decode cX1_init 23 = .ok (.newarray .int, 2) := by decide +kernel
theorem dX1_init_25 : decode cX1_init 25 = .ok (.putfield 18, 3) := by decide +kernel
theorem dX1_init_28 : decode cX1_init 28 = .ok (.aload_n 0, 1) := by decide +kernel
theorem dX1_init_29 : decode cX1_init 29 = .ok (.bipush 60, 2) := by decide +kernel
theorem dX1_init_31 : decode cX1_init 31 = .ok (.newarray .int, 2) := by decide +kernel
theorem dX1_init_33 : decode cX1_init 33 = .ok (.putfield 21, 3) := by decide +kernel
theorem dX1_init_36 : decode cX1_init 36 = .ok (.aload_n 0, 1) := by decide +kernel
theorem dX1_init_37 : decode cX1_init 37 = .ok (.bipush 60, 2) := by decide +kernel
theorem dX1_init_39 : decode cX1_init 39 = .ok (.newarray .int, 2) := by decide +kernel
theorem dX1_init_41 : decode cX1_init 41 = .ok (.putfield 24, 3) := by decide +kernel
theorem dX1_init_44 : decode cX1_init 44 = .ok (.aload_n 0, 1) := by decide +kernel
theorem dX1_init_45 : decode cX1_init 45 = .ok (.sipush 960, 3) := by decide +kernel
theorem dX1_init_48 : decode cX1_init 48 = .ok (.newarray .int, 2) := by decide +kernel
theorem dX1_init_50 : decode cX1_init 50 = .ok (.putfield 27, 3) := by decide +kernel
theorem dX1_init_53 : decode cX1_init 53 = .ok (.return_, 1) := by decide +kernel
theorem dX1_add_0 : decode cX1_add 0 = .ok (.aload_n 0, 1) := by decide +kernel
theorem dX1_add_1 : decode cX1_add 1 = .ok (.getfield 30, 3) := by decide +kernel
theorem dX1_add_4 : decode cX1_add 4 = .ok (.bipush 60, 2) := by decide +kernel
theorem dX1_add_6 : decode cX1_add 6 = .ok (.if_icmp .lt 7, 3) := by decide +kernel
theorem dX1_add_9 : decode cX1_add 9 = .ok (.aload_n 0, 1) := by decide +kernel
theorem dX1_add_10 : decode cX1_add 10 = .ok (.invokevirtual 34, 3) := by decide +kernel
theorem dX1_add_13 : decode cX1_add 13 = .ok (.aload_n 0, 1) := by decide +kernel
theorem dX1_add_14 : decode cX1_add 14 = .ok (.getfield 9, 3) := by decide +kernel
theorem dX1_add_17 : decode cX1_add 17 = .ok (.aload_n 0, 1) := by decide +kernel
theorem dX1_add_18 : decode cX1_add 18 = .ok (.getfield 30, 3) := by decide +kernel
theorem dX1_add_21 : decode cX1_add 21 = .ok (.iload_n 1, 1) := by decide +kernel
theorem dX1_add_22 : decode cX1_add 22 = .ok (.iastore, 1) := by decide +kernel
theorem dX1_add_23 : decode cX1_add 23 = .ok (.aload_n 0, 1) := by decide +kernel
theorem dX1_add_24 : decode cX1_add 24 = .ok (.getfield 15, 3) := by decide +kernel
theorem dX1_add_27 : decode cX1_add 27 = .ok (.aload_n 0, 1) := by decide +kernel
theorem dX1_add_28 : decode cX1_add 28 = .ok (.getfield 30, 3) := by decide +kernel
theorem dX1_add_31 : decode cX1_add 31 = .ok (.iload_n 2, 1) := by decide +kernel
theorem dX1_add_32 : decode cX1_add 32 = .ok (.iastore, 1) := by decide +kernel
theorem dX1_add_33 : decode cX1_add 33 = .ok (.aload_n 0, 1) := by decide +kernel
theorem dX1_add_34 : decode cX1_add 34 = .ok (.getfield 18, 3) := by decide +kernel
theorem dX1_add_37 : decode cX1_add 37 = .ok (.aload_n 0, 1) := by decide +kernel
theorem dX1_add_38 : decode cX1_add 38 = .ok (.getfield 30, 3) := by decide +kernel
theorem dX1_add_41 : decode cX1_add 41 = .ok (.iload_n 3, 1) := by decide +kernel
theorem dX1_add_42 : decode cX1_add 42 = .ok (.iastore, 1) := by decide +kernel
theorem dX1_add_43 : decode cX1_add 43 = .ok (.aload_n 0, 1) := by decide +kernel
theorem dX1_add_44 : decode cX1_add 44 = .ok (.getfield 21, 3) := by decide +kernel
theorem dX1_add_47 : decode cX1_add 47 = .ok (.aload_n 0, 1) := by decide +kernel
theorem dX1_add_48 : decode cX1_add 48 = .ok (.getfield 30, 3) := by decide +kernel
theorem dX1_add_51 : decode cX1_add 51 = .ok (.iload 4, 2) := by decide +kernel
theorem dX1_add_53 : decode cX1_add 53 = .ok (.iastore, 1) := by decide +kernel
theorem dX1_add_54 : decode cX1_add 54 = .ok (.aload_n 0, 1) := by decide +kernel
theorem dX1_add_55 : decode cX1_add 55 = .ok (.getfield 24, 3) := by decide +kernel
theorem dX1_add_58 : decode cX1_add 58 = .ok (.aload_n 0, 1) := by decide +kernel
theorem dX1_add_59 : decode cX1_add 59 = .ok (.getfield 30, 3) := by decide +kernel
theorem dX1_add_62 : decode cX1_add 62 = .ok (.iload 5, 2) := by decide +kernel
theorem dX1_add_64 : decode cX1_add 64 = .ok (.iastore, 1) := by decide +kernel
theorem dX1_add_65 : decode cX1_add 65 = .ok (.aload_n 0, 1) := by decide +kernel
theorem dX1_add_66 : decode cX1_add 66 = .ok (.dup, 1) := by decide +kernel
theorem dX1_add_67 : decode cX1_add 67 = .ok (.getfield 30, 3) := by decide +kernel
theorem dX1_add_70 : decode cX1_add 70 = .ok (.iconst 1, 1) := by decide +kernel
theorem dX1_add_71 : decode cX1_add 71 = .ok (.iadd, 1) := by decide +kernel
theorem dX1_add_72 : decode cX1_add 72 = .ok (.putfield 30, 3) := by decide +kernel
theorem dX1_add_75 : decode cX1_add 75 = .ok (.return_, 1) := by decide +kernel
theorem dX1_dropOldest_0 : decode cX1_dropOldest 0 = .ok (.iconst 1, 1) := by decide +kernel
theorem dX1_dropOldest_1 : decode cX1_dropOldest 1 = .ok (.istore_n 1, 1) := by decide +kernel
theorem dX1_dropOldest_2 : decode cX1_dropOldest 2 = .ok (.iload_n 1, 1) := by decide +kernel
theorem dX1_dropOldest_3 : decode cX1_dropOldest 3 = .ok (.aload_n 0, 1) := by decide +kernel
theorem dX1_dropOldest_4 : decode cX1_dropOldest 4 = .ok (.getfield 30, 3) := by decide +kernel
theorem dX1_dropOldest_7 : decode cX1_dropOldest 7 = .ok (.if_icmp .ge 17, 3) := by decide +kernel
theorem dX1_dropOldest_10 : decode cX1_dropOldest 10 = .ok (.aload_n 0, 1) := by decide +kernel
theorem dX1_dropOldest_11 : decode cX1_dropOldest 11 = .ok (.iload_n 1, 1) := by decide +kernel
theorem dX1_dropOldest_12 : decode cX1_dropOldest 12 = .ok (.iload_n 1, 1) := by decide +kernel
theorem dX1_dropOldest_13 : decode cX1_dropOldest 13 = .ok (.iconst 1, 1) := by decide +kernel
theorem dX1_dropOldest_14 : decode cX1_dropOldest 14 = .ok (.isub, 1) := by decide +kernel
theorem dX1_dropOldest_15 : decode cX1_dropOldest 15 = .ok (.invokevirtual 37, 3) := by decide +kernel
theorem dX1_dropOldest_18 : decode cX1_dropOldest 18 = .ok (.iinc 1 1, 3) := by decide +kernel
theorem dX1_dropOldest_21 : decode cX1_dropOldest 21 = .ok (.goto (-19), 3) := by decide +kernel
theorem dX1_dropOldest_24 : decode cX1_dropOldest 24 = .ok (.aload_n 0, 1) := by decide +kernel
theorem dX1_dropOldest_25 : decode cX1_dropOldest 25 = .ok (.dup, 1) := by decide +kernel
theorem dX1_dropOldest_26 : decode cX1_dropOldest 26 = .ok (.getfield 30, 3) := by decide +kernel
theorem dX1_dropOldest_29 : decode cX1_dropOldest 29 = .ok (.iconst 1, 1) := by decide +kernel
theorem dX1_dropOldest_30 : decode cX1_dropOldest 30 = .ok (.isub, 1) := by decide +kernel
theorem dX1_dropOldest_31 : decode cX1_dropOldest 31 = .ok (.putfield 30, 3) := by decide +kernel
theorem dX1_dropOldest_34 : decode cX1_dropOldest 34 = .ok (.return_, 1) := by decide +kernel
theorem dX1_moveEntry_0 : decode cX1_moveEntry 0 = .ok (.aload_n 0, 1) := by decide +kernel
theorem dX1_moveEntry_1 : decode cX1_moveEntry 1 = .ok (.getfield 9, 3) := by decide +kernel
theorem dX1_moveEntry_4 : decode cX1_moveEntry 4 = .ok (.iload_n 2, 1) := by decide +kernel
theorem dX1_moveEntry_5 : decode cX1_moveEntry 5 = .ok (.aload_n 0, 1) := by decide +kernel
theorem dX1_moveEntry_6 : decode cX1_moveEntry 6 = .ok (.getfield 9, 3) := by decide +kernel
theorem dX1_moveEntry_9 : decode cX1_moveEntry 9 = .ok (.iload_n 1, 1) := by decide +kernel
theorem dX1_moveEntry_10 : decode cX1_moveEntry 10 = .ok (.iaload, 1) := by decide +kernel
theorem dX1_moveEntry_11 : decode cX1_moveEntry 11 = .ok (.iastore, 1) := by decide +kernel
theorem dX1_moveEntry_12 : decode cX1_moveEntry 12 = .ok (.aload_n 0, 1) := by decide +kernel
theorem dX1_moveEntry_13 : decode cX1_moveEntry 13 = .ok (.getfield 15, 3) := by decide +kernel
theorem dX1_moveEntry_16 : decode cX1_moveEntry 16 = .ok (.iload_n 2, 1) := by decide +kernel
theorem dX1_moveEntry_17 : decode cX1_moveEntry 17 = .ok (.aload_n 0, 1) := by decide +kernel
theorem dX1_moveEntry_18 : decode cX1_moveEntry 18 = .ok (.getfield 15, 3) := by decide +kernel
theorem dX1_moveEntry_21 : decode cX1_moveEntry 21 = .ok (.iload_n 1, 1) := by decide +kernel
theorem dX1_moveEntry_22 : decode cX1_moveEntry 22 = .ok (.iaload, 1) := by decide +kernel
theorem dX1_moveEntry_23 : decode cX1_moveEntry 23 = .ok (.iastore, 1) := by decide +kernel
theorem dX1_moveEntry_24 : decode cX1_moveEntry 24 = .ok (.aload_n 0, 1) := by decide +kernel
theorem dX1_moveEntry_25 : decode cX1_moveEntry 25 = .ok (.getfield 18, 3) := by decide +kernel
theorem dX1_moveEntry_28 : decode cX1_moveEntry 28 = .ok (.iload_n 2, 1) := by decide +kernel
theorem dX1_moveEntry_29 : decode cX1_moveEntry 29 = .ok (.aload_n 0, 1) := by decide +kernel
theorem dX1_moveEntry_30 : decode cX1_moveEntry 30 = .ok (.getfield 18, 3) := by decide +kernel
theorem dX1_moveEntry_33 : decode cX1_moveEntry 33 = .ok (.iload_n 1, 1) := by decide +kernel
theorem dX1_moveEntry_34 : decode cX1_moveEntry 34 = .ok (.iaload, 1) := by decide +kernel
theorem dX1_moveEntry_35 : decode cX1_moveEntry 35 = .ok (.iastore, 1) := by decide +kernel
theorem dX1_moveEntry_36 : decode cX1_moveEntry 36 = .ok (.aload_n 0, 1) := by decide +kernel
theorem dX1_moveEntry_37 : decode cX1_moveEntry 37 = .ok (.getfield 21, 3) := by decide +kernel
theorem dX1_moveEntry_40 : decode cX1_moveEntry 40 = .ok (.iload_n 2, 1) := by decide +kernel
theorem dX1_moveEntry_41 : decode cX1_moveEntry 41 = .ok (.aload_n 0, 1) := by decide +kernel
theorem dX1_moveEntry_42 : decode cX1_moveEntry 42 = .ok (.getfield 21, 3) := by decide +kernel
theorem dX1_moveEntry_45 : decode cX1_moveEntry 45 = .ok (.iload_n 1, 1) := by decide +kernel
theorem dX1_moveEntry_46 : decode cX1_moveEntry 46 = .ok (.iaload, 1) := by decide +kernel
theorem dX1_moveEntry_47 : decode cX1_moveEntry 47 = .ok (.iastore, 1) := by decide +kernel
theorem dX1_moveEntry_48 : decode cX1_moveEntry 48 = .ok (.aload_n 0, 1) := by decide +kernel
theorem dX1_moveEntry_49 : decode cX1_moveEntry 49 = .ok (.getfield 24, 3) := by decide +kernel
theorem dX1_moveEntry_52 : decode cX1_moveEntry 52 = .ok (.iload_n 2, 1) := by decide +kernel
theorem dX1_moveEntry_53 : decode cX1_moveEntry 53 = .ok (.aload_n 0, 1) := by decide +kernel
theorem dX1_moveEntry_54 : decode cX1_moveEntry 54 = .ok (.getfield 24, 3) := by decide +kernel
theorem dX1_moveEntry_57 : decode cX1_moveEntry 57 = .ok (.iload_n 1, 1) := by decide +kernel
theorem dX1_moveEntry_58 : decode cX1_moveEntry 58 = .ok (.iaload, 1) := by decide +kernel
theorem dX1_moveEntry_59 : decode cX1_moveEntry 59 = .ok (.iastore, 1) := by decide +kernel
theorem dX1_moveEntry_60 : decode cX1_moveEntry 60 = .ok (.return_, 1) := by decide +kernel
theorem dX1_drop_0 : decode cX1_drop 0 = .ok (.iconst 0, 1) := by decide +kernel
theorem dX1_drop_1 : decode cX1_drop 1 = .ok (.istore_n 2, 1) := by decide +kernel
theorem dX1_drop_2 : decode cX1_drop 2 = .ok (.iconst 0, 1) := by decide +kernel
theorem dX1_drop_3 : decode cX1_drop 3 = .ok (.istore_n 3, 1) := by decide +kernel
theorem dX1_drop_4 : decode cX1_drop 4 = .ok (.iload_n 3, 1) := by decide +kernel
theorem dX1_drop_5 : decode cX1_drop 5 = .ok (.aload_n 0, 1) := by decide +kernel
theorem dX1_drop_6 : decode cX1_drop 6 = .ok (.getfield 30, 3) := by decide +kernel
theorem dX1_drop_9 : decode cX1_drop 9 = .ok (.if_icmp .ge 28, 3) := by decide +kernel
theorem dX1_drop_12 : decode cX1_drop 12 = .ok (.aload_n 0, 1) := by decide +kernel
theorem dX1_drop_13 : decode cX1_drop 13 = .ok (.getfield 9, 3) := by decide +kernel
theorem dX1_drop_16 : decode cX1_drop 16 = .ok (.iload_n 3, 1) := by decide +kernel
theorem dX1_drop_17 : decode cX1_drop 17 = .ok (.iaload, 1) := by decide +kernel
theorem dX1_drop_18 : decode cX1_drop 18 = .ok (.iload_n 1, 1) := by decide +kernel
theorem dX1_drop_19 : decode cX1_drop 19 = .ok (.if_icmp .eq 12, 3) := by decide +kernel
theorem dX1_drop_22 : decode cX1_drop 22 = .ok (.aload_n 0, 1) := by decide +kernel
theorem dX1_drop_23 : decode cX1_drop 23 = .ok (.iload_n 3, 1) := by decide +kernel
theorem dX1_drop_24 : decode cX1_drop 24 = .ok (.iload_n 2, 1) := by decide +kernel
theorem dX1_drop_25 : decode cX1_drop 25 = .ok (.invokevirtual 37, 3) := by decide +kernel
theorem dX1_drop_28 : decode cX1_drop 28 = .ok (.iinc 2 1, 3) := by decide +kernel
theorem dX1_drop_31 : decode cX1_drop 31 = .ok (.iinc 3 1, 3) := by decide +kernel
theorem dX1_drop_34 : decode cX1_drop 34 = .ok (.goto (-30), 3) := by decide +kernel
theorem dX1_drop_37 : decode cX1_drop 37 = .ok (.aload_n 0, 1) := by decide +kernel
theorem dX1_drop_38 : decode cX1_drop 38 = .ok (.getfield 30, 3) := by decide +kernel
theorem dX1_drop_41 : decode cX1_drop 41 = .ok (.iload_n 2, 1) := by decide +kernel
theorem dX1_drop_42 : decode cX1_drop 42 = .ok (.isub, 1) := by decide +kernel
theorem dX1_drop_43 : decode cX1_drop 43 = .ok (.istore_n 3, 1) := by decide +kernel
theorem dX1_drop_44 : decode cX1_drop 44 = .ok (.aload_n 0, 1) := by decide +kernel
theorem dX1_drop_45 : decode cX1_drop 45 = .ok (.iload_n 2, 1) := by decide +kernel
theorem dX1_drop_46 : decode cX1_drop 46 = .ok (.putfield 30, 3) := by decide +kernel
theorem dX1_drop_49 : decode cX1_drop 49 = .ok (.aload_n 0, 1) := by decide +kernel
theorem dX1_drop_50 : decode cX1_drop 50 = .ok (.dup, 1) := by decide +kernel
theorem dX1_drop_51 : decode cX1_drop 51 = .ok (.getfield 41, 3) := by decide +kernel
theorem dX1_drop_54 : decode cX1_drop 54 = .ok (.iload_n 3, 1) := by decide +kernel
theorem dX1_drop_55 : decode cX1_drop 55 = .ok (.iadd, 1) := by decide +kernel
theorem dX1_drop_56 : decode cX1_drop 56 = .ok (.putfield 41, 3) := by decide +kernel
theorem dX1_drop_59 : decode cX1_drop 59 = .ok (.iload_n 3, 1) := by decide +kernel
theorem dX1_drop_60 : decode cX1_drop 60 = .ok (.ireturn, 1) := by decide +kernel
theorem dX1_gatherDays_0 : decode cX1_gatherDays 0 = .ok (.aload_n 0, 1) := by decide +kernel
theorem dX1_gatherDays_1 : decode cX1_gatherDays 1 = .ok (.getfield 27, 3) := by decide +kernel
theorem dX1_gatherDays_4 : decode cX1_gatherDays 4 = .ok (.iconst 0, 1) := by decide +kernel
theorem dX1_gatherDays_5 : decode cX1_gatherDays 5 = .ok (.invokestatic 44, 3) := by decide +kernel
theorem dX1_gatherDays_8 : decode cX1_gatherDays 8 = .ok (.iconst 0, 1) := by decide +kernel
theorem dX1_gatherDays_9 : decode cX1_gatherDays 9 = .ok (.istore_n 3, 1) := by decide +kernel
theorem dX1_gatherDays_10 : decode cX1_gatherDays 10 = .ok (.iload_n 3, 1) := by decide +kernel
theorem dX1_gatherDays_11 : decode cX1_gatherDays 11 = .ok (.aload_n 0, 1) := by decide +kernel
theorem dX1_gatherDays_12 : decode cX1_gatherDays 12 = .ok (.getfield 30, 3) := by decide +kernel
theorem dX1_gatherDays_15 : decode cX1_gatherDays 15 = .ok (.if_icmp .ge 67, 3) := by decide +kernel
theorem dX1_gatherDays_18 : decode cX1_gatherDays 18 = .ok (.iload_n 1, 1) := by decide +kernel
theorem dX1_gatherDays_19 : decode cX1_gatherDays 19 = .ok (.aload_n 0, 1) := by decide +kernel
theorem dX1_gatherDays_20 : decode cX1_gatherDays 20 = .ok (.getfield 15, 3) := by decide +kernel
theorem dX1_gatherDays_23 : decode cX1_gatherDays 23 = .ok (.iload_n 3, 1) := by decide +kernel
theorem dX1_gatherDays_24 : decode cX1_gatherDays 24 = .ok (.iaload, 1) := by decide +kernel
theorem dX1_gatherDays_25 : decode cX1_gatherDays 25 = .ok (.isub, 1) := by decide +kernel
theorem dX1_gatherDays_26 : decode cX1_gatherDays 26 = .ok (.istore 4, 2) := by decide +kernel
theorem dX1_gatherDays_28 : decode cX1_gatherDays 28 = .ok (.iload 4, 2) := by decide +kernel
theorem dX1_gatherDays_30 : decode cX1_gatherDays 30 = .ok (.ifCond .lt 46, 3) := by decide +kernel
theorem dX1_gatherDays_33 : decode cX1_gatherDays 33 = .ok (.iload 4, 2) := by decide +kernel
theorem dX1_gatherDays_35 : decode cX1_gatherDays 35 = .ok (.iload_n 2, 1) := by decide +kernel
theorem dX1_gatherDays_36 : decode cX1_gatherDays 36 = .ok (.if_icmp .ge 40, 3) := by decide +kernel
theorem dX1_gatherDays_39 : decode cX1_gatherDays 39 = .ok (.aload_n 0, 1) := by decide +kernel
theorem dX1_gatherDays_40 : decode cX1_gatherDays 40 = .ok (.getfield 27, 3) := by decide +kernel
theorem dX1_gatherDays_43 : decode cX1_gatherDays 43 = .ok (.aload_n 0, 1) := by decide +kernel
theorem dX1_gatherDays_44 : decode cX1_gatherDays 44 = .ok (.getfield 18, 3) := by decide +kernel
theorem dX1_gatherDays_47 : decode cX1_gatherDays 47 = .ok (.iload_n 3, 1) := by decide +kernel
theorem dX1_gatherDays_48 : decode cX1_gatherDays 48 = .ok (.iaload, 1) := by decide +kernel
theorem dX1_gatherDays_49 : decode cX1_gatherDays 49 = .ok (.bipush 10, 2) := by decide +kernel
theorem dX1_gatherDays_51 : decode cX1_gatherDays 51 = .ok (.imul, 1) := by decide +kernel
theorem dX1_gatherDays_52 : decode cX1_gatherDays 52 = .ok (.aload_n 0, 1) := by decide +kernel
theorem dX1_gatherDays_53 : decode cX1_gatherDays 53 = .ok (.getfield 21, 3) := by decide +kernel
theorem dX1_gatherDays_56 : decode cX1_gatherDays 56 = .ok (.iload_n 3, 1) := by decide +kernel
theorem dX1_gatherDays_57 : decode cX1_gatherDays 57 = .ok (.iaload, 1) := by decide +kernel
theorem dX1_gatherDays_58 : decode cX1_gatherDays 58 = .ok (.iadd, 1) := by decide +kernel
theorem dX1_gatherDays_59 : decode cX1_gatherDays 59 = .ok (.iconst 4, 1) := by decide +kernel
theorem dX1_gatherDays_60 : decode cX1_gatherDays 60 = .ok (.imul, 1) := by decide +kernel
theorem dX1_gatherDays_61 : decode cX1_gatherDays 61 = .ok (.aload_n 0, 1) := by decide +kernel
theorem dX1_gatherDays_62 : decode cX1_gatherDays 62 = .ok (.getfield 24, 3) := by decide +kernel
theorem dX1_gatherDays_65 : decode cX1_gatherDays 65 = .ok (.iload_n 3, 1) := by decide +kernel
theorem dX1_gatherDays_66 : decode cX1_gatherDays 66 = .ok (.iaload, 1) := by decide +kernel
theorem dX1_gatherDays_67 : decode cX1_gatherDays 67 = .ok (.iadd, 1) := by decide +kernel
theorem dX1_gatherDays_68 : decode cX1_gatherDays 68 = .ok (.dup2, 1) := by decide +kernel
theorem dX1_gatherDays_69 : decode cX1_gatherDays 69 = .ok (.iaload, 1) := by decide +kernel
theorem dX1_gatherDays_70 : decode cX1_gatherDays 70 = .ok (.iconst 1, 1) := by decide +kernel
theorem dX1_gatherDays_71 : decode cX1_gatherDays 71 = .ok (.iload 4, 2) := by decide +kernel
theorem dX1_gatherDays_73 : decode cX1_gatherDays 73 = .ok (.ishl, 1) := by decide +kernel
theorem dX1_gatherDays_74 : decode cX1_gatherDays 74 = .ok (.ior, 1) := by decide +kernel
theorem dX1_gatherDays_75 : decode cX1_gatherDays 75 = .ok (.iastore, 1) := by decide +kernel
theorem dX1_gatherDays_76 : decode cX1_gatherDays 76 = .ok (.iinc 3 1, 3) := by decide +kernel
theorem dX1_gatherDays_79 : decode cX1_gatherDays 79 = .ok (.goto (-69), 3) := by decide +kernel
theorem dX1_gatherDays_82 : decode cX1_gatherDays 82 = .ok (.return_, 1) := by decide +kernel
theorem dX1_howMany_0 : decode cX1_howMany 0 = .ok (.iconst 0, 1) := by decide +kernel
theorem dX1_howMany_1 : decode cX1_howMany 1 = .ok (.istore_n 2, 1) := by decide +kernel
theorem dX1_howMany_2 : decode cX1_howMany 2 = .ok (.iconst 0, 1) := by decide +kernel
theorem dX1_howMany_3 : decode cX1_howMany 3 = .ok (.istore_n 3, 1) := by decide +kernel
theorem dX1_howMany_4 : decode cX1_howMany 4 = .ok (.iload_n 3, 1) := by decide +kernel
theorem dX1_howMany_5 : decode cX1_howMany 5 = .ok (.aload_n 0, 1) := by decide +kernel
theorem dX1_howMany_6 : decode cX1_howMany 6 = .ok (.getfield 27, 3) := by decide +kernel
theorem dX1_howMany_9 : decode cX1_howMany 9 = .ok (.arraylength, 1) := by decide +kernel
theorem dX1_howMany_10 : decode cX1_howMany 10 = .ok (.if_icmp .ge 25, 3) := by decide +kernel
theorem dX1_howMany_13 : decode cX1_howMany 13 = .ok (.aload_n 0, 1) := by decide +kernel
theorem dX1_howMany_14 : decode cX1_howMany 14 = .ok (.getfield 27, 3) := by decide +kernel
theorem dX1_howMany_17 : decode cX1_howMany 17 = .ok (.iload_n 3, 1) := by decide +kernel
theorem dX1_howMany_18 : decode cX1_howMany 18 = .ok (.iaload, 1) := by decide +kernel
theorem dX1_howMany_19 : decode cX1_howMany 19 = .ok (.invokestatic 50, 3) := by decide +kernel
theorem dX1_howMany_22 : decode cX1_howMany 22 = .ok (.iload_n 1, 1) := by decide +kernel
theorem dX1_howMany_23 : decode cX1_howMany 23 = .ok (.if_icmp .lt 6, 3) := by decide +kernel
theorem dX1_howMany_26 : decode cX1_howMany 26 = .ok (.iinc 2 1, 3) := by decide +kernel
theorem dX1_howMany_29 : decode cX1_howMany 29 = .ok (.iinc 3 1, 3) := by decide +kernel
theorem dX1_howMany_32 : decode cX1_howMany 32 = .ok (.goto (-28), 3) := by decide +kernel
theorem dX1_howMany_35 : decode cX1_howMany 35 = .ok (.iload_n 2, 1) := by decide +kernel
theorem dX1_howMany_36 : decode cX1_howMany 36 = .ok (.ireturn, 1) := by decide +kernel
theorem dX1_habit_0 : decode cX1_habit 0 = .ok (.iconst 0, 1) := by decide +kernel
theorem dX1_habit_1 : decode cX1_habit 1 = .ok (.istore_n 3, 1) := by decide +kernel
theorem dX1_habit_2 : decode cX1_habit 2 = .ok (.iconst 0, 1) := by decide +kernel
theorem dX1_habit_3 : decode cX1_habit 3 = .ok (.istore 4, 2) := by decide +kernel
theorem dX1_habit_5 : decode cX1_habit 5 = .ok (.iload 4, 2) := by decide +kernel
theorem dX1_habit_7 : decode cX1_habit 7 = .ok (.aload_n 0, 1) := by decide +kernel
theorem dX1_habit_8 : decode cX1_habit 8 = .ok (.getfield 27, 3) := by decide +kernel
theorem dX1_habit_11 : decode cX1_habit 11 = .ok (.arraylength, 1) := by decide +kernel
theorem dX1_habit_12 : decode cX1_habit 12 = .ok (.if_icmp .ge 37, 3) := by decide +kernel
theorem dX1_habit_15 : decode cX1_habit 15 = .ok (.aload_n 0, 1) := by decide +kernel
theorem dX1_habit_16 : decode cX1_habit 16 = .ok (.getfield 27, 3) := by decide +kernel
theorem dX1_habit_19 : decode cX1_habit 19 = .ok (.iload 4, 2) := by decide +kernel
theorem dX1_habit_21 : decode cX1_habit 21 = .ok (.iaload, 1) := by decide +kernel
theorem dX1_habit_22 : decode cX1_habit 22 = .ok (.invokestatic 50, 3) := by decide +kernel
theorem dX1_habit_25 : decode cX1_habit 25 = .ok (.iload_n 1, 1) := by decide +kernel
theorem dX1_habit_26 : decode cX1_habit 26 = .ok (.if_icmp .lt 17, 3) := by decide +kernel
theorem dX1_habit_29 : decode cX1_habit 29 = .ok (.iload_n 3, 1) := by decide +kernel
theorem dX1_habit_30 : decode cX1_habit 30 = .ok (.iload_n 2, 1) := by decide +kernel
theorem dX1_habit_31 : decode cX1_habit 31 = .ok (.if_icmp .ne 9, 3) := by decide +kernel
theorem dX1_habit_34 : decode cX1_habit 34 = .ok (.iload 4, 2) := by decide +kernel
theorem dX1_habit_36 : decode cX1_habit 36 = .ok (.invokestatic 56, 3) := by decide +kernel
theorem dX1_habit_39 : decode cX1_habit 39 = .ok (.ireturn, 1) := by decide +kernel
theorem dX1_habit_40 : decode cX1_habit 40 = .ok (.iinc 3 1, 3) := by decide +kernel
theorem dX1_habit_43 : decode cX1_habit 43 = .ok (.iinc 4 1, 3) := by decide +kernel
theorem dX1_habit_46 : decode cX1_habit 46 = .ok (.goto (-41), 3) := by decide +kernel
theorem dX1_habit_49 : decode cX1_habit 49 = .ok (.bipush (-4), 2) := by decide +kernel
theorem dX1_habit_51 : decode cX1_habit 51 = .ok (.ireturn, 1) := by decide +kernel
theorem dX1_toldAs_0 : decode cX1_toldAs 0 = .ok (.iload_n 0, 1) := by decide +kernel
theorem dX1_toldAs_1 : decode cX1_toldAs 1 = .ok (.iconst 4, 1) := by decide +kernel
theorem dX1_toldAs_2 : decode cX1_toldAs 2 = .ok (.irem, 1) := by decide +kernel
theorem dX1_toldAs_3 : decode cX1_toldAs 3 = .ok (.istore_n 1, 1) := by decide +kernel
theorem dX1_toldAs_4 : decode cX1_toldAs 4 = .ok (.iload_n 0, 1) := by decide +kernel
theorem dX1_toldAs_5 : decode cX1_toldAs 5 = .ok (.iconst 4, 1) := by decide +kernel
theorem dX1_toldAs_6 : decode cX1_toldAs 6 = .ok (.idiv, 1) := by decide +kernel
theorem dX1_toldAs_7 : decode cX1_toldAs 7 = .ok (.bipush 10, 2) := by decide +kernel
theorem dX1_toldAs_9 : decode cX1_toldAs 9 = .ok (.irem, 1) := by decide +kernel
theorem dX1_toldAs_10 : decode cX1_toldAs 10 = .ok (.istore_n 2, 1) := by decide +kernel
theorem dX1_toldAs_11 : decode cX1_toldAs 11 = .ok (.bipush 100, 2) := by decide +kernel
theorem dX1_toldAs_13 : decode cX1_toldAs 13 = .ok (.iload_n 0, 1) := by decide +kernel
theorem dX1_toldAs_14 : decode cX1_toldAs 14 = .ok (.iconst 4, 1) := by decide +kernel
theorem dX1_toldAs_15 : decode cX1_toldAs 15 = .ok (.idiv, 1) := by decide +kernel
theorem dX1_toldAs_16 : decode cX1_toldAs 16 = .ok (.bipush 10, 2) := by decide +kernel
theorem dX1_toldAs_18 : decode cX1_toldAs 18 = .ok (.idiv, 1) := by decide +kernel
theorem dX1_toldAs_19 : decode cX1_toldAs 19 = .ok (.imul, 1) := by decide +kernel
theorem dX1_toldAs_20 : decode cX1_toldAs 20 = .ok (.bipush 10, 2) := by decide +kernel
theorem dX1_toldAs_22 : decode cX1_toldAs 22 = .ok (.iload_n 2, 1) := by decide +kernel
theorem dX1_toldAs_23 : decode cX1_toldAs 23 = .ok (.imul, 1) := by decide +kernel
theorem dX1_toldAs_24 : decode cX1_toldAs 24 = .ok (.iadd, 1) := by decide +kernel
theorem dX1_toldAs_25 : decode cX1_toldAs 25 = .ok (.iload_n 1, 1) := by decide +kernel
theorem dX1_toldAs_26 : decode cX1_toldAs 26 = .ok (.iadd, 1) := by decide +kernel
theorem dX1_toldAs_27 : decode cX1_toldAs 27 = .ok (.ireturn, 1) := by decide +kernel
theorem dX2_init_0 : decode cX2_init 0 = .ok (.aload_n 0, 1) := by decide +kernel
theorem dX2_init_1 : decode cX2_init 1 = .ok (.invokespecial 3, 3) := by decide +kernel
theorem dX2_init_4 : decode cX2_init 4 = .ok (.aload_n 0, 1) := by decide +kernel
theorem dX2_init_5 : decode cX2_init 5 = .ok (.sipush 2048, 3) := by decide +kernel
theorem dX2_init_8 : decode cX2_init 8 = .ok (.newarray .int, 2) := by decide +kernel
theorem dX2_init_10 : decode cX2_init 10 = .ok (.putfield 11, 3) := by decide +kernel
theorem dX2_init_13 : decode cX2_init 13 = .ok (.aload_n 0, 1) := by decide +kernel
theorem dX2_init_14 : decode cX2_init 14 = .ok (.sipush 2048, 3) := by decide +kernel
theorem dX2_init_17 : decode cX2_init 17 = .ok (.newarray .int, 2) := by decide +kernel
theorem dX2_init_19 : decode cX2_init 19 = .ok (.putfield 15, 3) := by decide +kernel
theorem dX2_init_22 : decode cX2_init 22 = .ok (.aload_n 0, 1) := by decide +kernel
theorem dX2_init_23 : decode cX2_init 23 = .ok (.sipush 2048, 3) := by decide +kernel
theorem dX2_init_26 : decode cX2_init 26 = .ok (.newarray .int, 2) := by decide +kernel
theorem dX2_init_28 : decode cX2_init 28 = .ok (.putfield 18, 3) := by decide +kernel
theorem dX2_init_31 : decode cX2_init 31 = .ok (.aload_n 0, 1) := by decide +kernel
theorem dX2_init_32 : decode cX2_init 32 = .ok (.sipush 256, 3) := by decide +kernel
theorem dX2_init_35 : decode cX2_init 35 = .ok (.newarray .int, 2) := by decide +kernel
theorem dX2_init_37 : decode cX2_init 37 = .ok (.putfield 21, 3) := by decide +kernel
theorem dX2_init_40 : decode cX2_init 40 = .ok (.aload_n 0, 1) := by decide +kernel
theorem dX2_init_41 : decode cX2_init 41 = .ok (.aload_n 1, 1) := by decide +kernel
theorem dX2_init_42 : decode cX2_init 42 = .ok (.putfield 24, 3) := by decide +kernel
theorem dX2_init_45 : decode cX2_init 45 = .ok (.aload_n 0, 1) := by decide +kernel
theorem dX2_init_46 : decode cX2_init 46 = .ok (.aload_n 2, 1) := by decide +kernel
theorem dX2_init_47 : decode cX2_init 47 = .ok (.putfield 28, 3) := by decide +kernel
theorem dX2_init_50 : decode cX2_init 50 = .ok (.aload_n 0, 1) := by decide +kernel
theorem dX2_init_51 : decode cX2_init 51 = .ok (.aload_n 3, 1) := by decide +kernel
theorem dX2_init_52 : decode cX2_init 52 = .ok (.putfield 32, 3) := by decide +kernel
theorem dX2_init_55 : decode cX2_init 55 = .ok (.return_, 1) := by decide +kernel
theorem dX2_fewestToBarred_0 : decode cX2_fewestToBarred 0 = .ok (.aload_n 0, 1) := by decide +kernel
theorem dX2_fewestToBarred_1 : decode cX2_fewestToBarred 1 = .ok (.getfield 28, 3) := by decide +kernel
theorem dX2_fewestToBarred_4 : decode cX2_fewestToBarred 4 = .ok (.getfield 36, 3) := by decide +kernel
theorem dX2_fewestToBarred_7 : decode cX2_fewestToBarred 7 = .ok (.ifCond .ne 6, 3) := by decide +kernel
theorem dX2_fewestToBarred_10 : decode cX2_fewestToBarred 10 = .ok (.bipush (-4), 2) := by decide +kernel
theorem dX2_fewestToBarred_12 : decode cX2_fewestToBarred 12 = .ok (.ireturn, 1) := by decide +kernel
theorem dX2_fewestToBarred_13 : decode cX2_fewestToBarred 13 = .ok (.aload_n 0, 1) := by decide +kernel
theorem dX2_fewestToBarred_14 : decode cX2_fewestToBarred 14 = .ok (.getfield 28, 3) := by decide +kernel
theorem dX2_fewestToBarred_17 : decode cX2_fewestToBarred 17 = .ok (.aload_n 0, 1) := by decide +kernel
theorem dX2_fewestToBarred_18 : decode cX2_fewestToBarred 18 = .ok (.getfield 24, 3) := by decide +kernel
theorem dX2_fewestToBarred_21 : decode cX2_fewestToBarred 21 = .ok (.getfield 42, 3) := by decide +kernel
theorem dX2_fewestToBarred_24 : decode cX2_fewestToBarred 24 = .ok (.invokevirtual 47, 3) := by decide +kernel
theorem dX2_fewestToBarred_27 : decode cX2_fewestToBarred 27 = .ok (.lstore_n 1, 1) := by decide +kernel
theorem dX2_fewestToBarred_28 : decode cX2_fewestToBarred 28 = .ok (.aload_n 0, 1) := by decide +kernel
theorem dX2_fewestToBarred_29 : decode cX2_fewestToBarred 29 = .ok (.getfield 21, 3) := by decide +kernel
theorem dX2_fewestToBarred_32 : decode cX2_fewestToBarred 32 = .ok (.iconst (-1), 1) := by decide +kernel
theorem dX2_fewestToBarred_33 : decode cX2_fewestToBarred 33 = .ok (.invokestatic 51, 3) := by decide +kernel
theorem dX2_fewestToBarred_36 : decode cX2_fewestToBarred 36 = .ok (.aload_n 0, 1) := by decide +kernel
theorem dX2_fewestToBarred_37 : decode cX2_fewestToBarred 37 = .ok (.iconst 0, 1) := by decide +kernel
theorem dX2_fewestToBarred_38 : decode cX2_fewestToBarred 38 = .ok (.putfield 57, 3) := by decide +kernel
theorem dX2_fewestToBarred_41 : decode cX2_fewestToBarred 41 = .ok (.aload_n 0, 1) := by decide +kernel
theorem dX2_fewestToBarred_42 : decode cX2_fewestToBarred 42 = .ok (.iconst 0, 1) := by decide +kernel
theorem dX2_fewestToBarred_43 : decode cX2_fewestToBarred 43 = .ok (.aload_n 0, 1) := by decide +kernel
theorem dX2_fewestToBarred_44 : decode cX2_fewestToBarred 44 = .ok (.getfield 24, 3) := by decide +kernel
theorem dX2_fewestToBarred_47 : decode cX2_fewestToBarred 47 = .ok (.getfield 42, 3) := by decide +kernel
theorem dX2_fewestToBarred_50 : decode cX2_fewestToBarred 50 = .ok (.invokevirtual 60, 3) := by decide +kernel
theorem dX2_fewestToBarred_53 : decode cX2_fewestToBarred 53 = .ok (.iconst 0, 1) := by decide +kernel
theorem dX2_fewestToBarred_54 : decode cX2_fewestToBarred 54 = .ok (.istore_n 3, 1) := by decide +kernel
theorem dX2_fewestToBarred_55 : decode cX2_fewestToBarred 55 = .ok (.iload_n 3, 1) := by decide +kernel
theorem dX2_fewestToBarred_56 : decode cX2_fewestToBarred 56 = .ok (.sipush 2048, 3) := by decide +kernel
theorem dX2_fewestToBarred_59 : decode cX2_fewestToBarred 59 = .ok (.if_icmp .ge 38, 3) := by decide +kernel
theorem dX2_fewestToBarred_62 : decode cX2_fewestToBarred 62 = .ok (.iload_n 3, 1) := by decide +kernel
theorem dX2_fewestToBarred_63 : decode cX2_fewestToBarred 63 = .ok (.aload_n 0, 1) := by decide +kernel
theorem dX2_fewestToBarred_64 : decode cX2_fewestToBarred 64 = .ok (.getfield 57, 3) := by decide +kernel
theorem dX2_fewestToBarred_67 : decode cX2_fewestToBarred 67 = .ok (.if_icmp .ge 30, 3) := by decide +kernel
theorem dX2_fewestToBarred_70 : decode cX2_fewestToBarred 70 = .ok (.aload_n 0, 1) := by decide +kernel
theorem dX2_fewestToBarred_71 : decode cX2_fewestToBarred 71 = .ok (.iload_n 3, 1) := by decide +kernel
theorem dX2_fewestToBarred_72 : decode cX2_fewestToBarred 72 = .ok (.lload_n 1, 1) := by decide +kernel
theorem dX2_fewestToBarred_73 : decode cX2_fewestToBarred 73 = .ok (.invokevirtual 64, 3) := by decide +kernel
theorem dX2_fewestToBarred_76 : decode cX2_fewestToBarred 76 = .ok (.ifCond .eq 15, 3) := by decide +kernel
theorem dX2_fewestToBarred_79 : decode cX2_fewestToBarred 79 = .ok (.aload_n 0, 1) := by decide +kernel
theorem dX2_fewestToBarred_80 : decode cX2_fewestToBarred 80 = .ok (.getfield 11, 3) := by decide +kernel
theorem dX2_fewestToBarred_83 : decode cX2_fewestToBarred 83 = .ok (.iload_n 3, 1) := by decide +kernel
theorem dX2_fewestToBarred_84 : decode cX2_fewestToBarred 84 = .ok (.iaload, 1) := by decide +kernel
theorem dX2_fewestToBarred_85 : decode cX2_fewestToBarred 85 = .ok (.invokestatic 68, 3) := by decide +kernel
theorem dX2_fewestToBarred_88 : decode cX2_fewestToBarred 88 = .ok (.iconst 1, 1) := by decide +kernel
theorem dX2_fewestToBarred_89 : decode cX2_fewestToBarred 89 = .ok (.iadd, 1) := by decide +kernel
theorem dX2_fewestToBarred_90 : decode cX2_fewestToBarred 90 = .ok (.ireturn, 1) := by decide +kernel
theorem dX2_fewestToBarred_91 : decode cX2_fewestToBarred 91 = .ok (.iinc 3 1, 3) := by decide +kernel
theorem dX2_fewestToBarred_94 : decode cX2_fewestToBarred 94 = .ok (.goto (-39), 3) := by decide +kernel
theorem dX2_fewestToBarred_97 : decode cX2_fewestToBarred 97 = .ok (.bipush (-4), 2) := by decide +kernel
theorem dX2_fewestToBarred_99 : decode cX2_fewestToBarred 99 = .ok (.ireturn, 1) := by decide +kernel
theorem dX2_comesToBarredFrom_0 : decode cX2_comesToBarredFrom 0 = .ok (.iconst 0, 1) := by decide +kernel
theorem dX2_comesToBarredFrom_1 : decode cX2_comesToBarredFrom 1 = .ok (.istore 4, 2) := by decide +kernel
theorem dX2_comesToBarredFrom_3 : decode cX2_comesToBarredFrom 3 = .ok (.iload 4, 2) := by decide +kernel
theorem dX2_comesToBarredFrom_5 : decode cX2_comesToBarredFrom 5 = .ok (.aload_n 0, 1) := by decide +kernel
theorem dX2_comesToBarredFrom_6 : decode cX2_comesToBarredFrom 6 = .ok (.getfield 32, 3) := by decide +kernel
theorem dX2_comesToBarredFrom_9 : decode cX2_comesToBarredFrom 9 = .ok (.getfield 74, 3) := by decide +kernel
theorem dX2_comesToBarredFrom_12 : decode cX2_comesToBarredFrom 12 = .ok (.if_icmp .ge 86, 3) := by decide +kernel
theorem dX2_comesToBarredFrom_15 : decode cX2_comesToBarredFrom 15 = .ok (.aload_n 0, 1) := by decide +kernel
theorem dX2_comesToBarredFrom_16 : decode cX2_comesToBarredFrom 16 = .ok (.getfield 32, 3) := by decide +kernel
theorem dX2_comesToBarredFrom_19 : decode cX2_comesToBarredFrom 19 = .ok (.iload 4, 2) := by decide +kernel
theorem dX2_comesToBarredFrom_21 : decode cX2_comesToBarredFrom 21 = .ok (.aload_n 0, 1) := by decide +kernel
theorem dX2_comesToBarredFrom_22 : decode cX2_comesToBarredFrom 22 = .ok (.getfield 15, 3) := by decide +kernel
theorem dX2_comesToBarredFrom_25 : decode cX2_comesToBarredFrom 25 = .ok (.iload_n 1, 1) := by decide +kernel
theorem dX2_comesToBarredFrom_26 : decode cX2_comesToBarredFrom 26 = .ok (.iaload, 1) := by decide +kernel
theorem dX2_comesToBarredFrom_27 : decode cX2_comesToBarredFrom 27 = .ok (.invokevirtual 79, 3) := by decide +kernel
theorem dX2_comesToBarredFrom_30 : decode cX2_comesToBarredFrom 30 = .ok (.ifCond .eq 62, 3) := by decide +kernel
theorem dX2_comesToBarredFrom_33 : decode cX2_comesToBarredFrom 33 = .ok (.aload_n 0, 1) := by decide +kernel
theorem dX2_comesToBarredFrom_34 : decode cX2_comesToBarredFrom 34 = .ok (.getfield 11, 3) := by decide +kernel
theorem dX2_comesToBarredFrom_37 : decode cX2_comesToBarredFrom 37 = .ok (.iload_n 1, 1) := by decide +kernel
theorem dX2_comesToBarredFrom_38 : decode cX2_comesToBarredFrom 38 = .ok (.iaload, 1) := by decide +kernel
theorem dX2_comesToBarredFrom_39 : decode cX2_comesToBarredFrom 39 = .ok (.iload 4, 2) := by decide +kernel
theorem dX2_comesToBarredFrom_41 : decode cX2_comesToBarredFrom 41 = .ok (.invokestatic 83, 3) := by decide +kernel
theorem dX2_comesToBarredFrom_44 : decode cX2_comesToBarredFrom 44 = .ok (.ifCond .eq 6, 3) := by decide +kernel
theorem dX2_comesToBarredFrom_47 : decode cX2_comesToBarredFrom 47 = .ok (.goto 45, 3) := by decide +kernel
theorem dX2_comesToBarredFrom_50 : decode cX2_comesToBarredFrom 50 = .ok (.aload_n 0, 1) := by decide +kernel
theorem dX2_comesToBarredFrom_51 : decode cX2_comesToBarredFrom 51 = .ok (.getfield 32, 3) := by decide +kernel
theorem dX2_comesToBarredFrom_54 : decode cX2_comesToBarredFrom 54 = .ok (.iload 4, 2) := by decide +kernel
theorem dX2_comesToBarredFrom_56 : decode cX2_comesToBarredFrom 56 = .ok (.aload_n 0, 1) := by decide +kernel
theorem dX2_comesToBarredFrom_57 : decode cX2_comesToBarredFrom 57 = .ok (.getfield 15, 3) := by decide +kernel
theorem dX2_comesToBarredFrom_60 : decode cX2_comesToBarredFrom 60 = .ok (.iload_n 1, 1) := by decide +kernel
theorem dX2_comesToBarredFrom_61 : decode cX2_comesToBarredFrom 61 = .ok (.iaload, 1) := by decide +kernel
theorem dX2_comesToBarredFrom_62 : decode cX2_comesToBarredFrom 62 = .ok (.lload_n 2, 1) := by decide +kernel
theorem dX2_comesToBarredFrom_63 : decode cX2_comesToBarredFrom 63 = .ok (.invokevirtual 86, 3) := by decide +kernel
theorem dX2_comesToBarredFrom_66 : decode cX2_comesToBarredFrom 66 = .ok (.istore 5, 2) := by decide +kernel
theorem dX2_comesToBarredFrom_68 : decode cX2_comesToBarredFrom 68 = .ok (.iload 5, 2) := by decide +kernel
theorem dX2_comesToBarredFrom_70 : decode cX2_comesToBarredFrom 70 = .ok (.ifCond .ge 5, 3) := by decide +kernel
theorem dX2_comesToBarredFrom_73 : decode cX2_comesToBarredFrom 73 = .ok (.iconst 1, 1) := by decide +kernel
theorem dX2_comesToBarredFrom_74 : decode cX2_comesToBarredFrom 74 = .ok (.ireturn, 1) := by decide +kernel
theorem dX2_comesToBarredFrom_75 : decode cX2_comesToBarredFrom 75 = .ok (.aload_n 0, 1) := by decide +kernel
theorem dX2_comesToBarredFrom_76 : decode cX2_comesToBarredFrom 76 = .ok (.aload_n 0, 1) := by decide +kernel
theorem dX2_comesToBarredFrom_77 : decode cX2_comesToBarredFrom 77 = .ok (.getfield 11, 3) := by decide +kernel
theorem dX2_comesToBarredFrom_80 : decode cX2_comesToBarredFrom 80 = .ok (.iload_n 1, 1) := by decide +kernel
theorem dX2_comesToBarredFrom_81 : decode cX2_comesToBarredFrom 81 = .ok (.iaload, 1) := by decide +kernel
theorem dX2_comesToBarredFrom_82 : decode cX2_comesToBarredFrom 82 = .ok (.iconst 1, 1) := by decide +kernel
theorem dX2_comesToBarredFrom_83 : decode cX2_comesToBarredFrom 83 = .ok (.iload 4, 2) := by decide +kernel
theorem dX2_comesToBarredFrom_85 : decode cX2_comesToBarredFrom 85 = .ok (.ishl, 1) := by decide +kernel
theorem dX2_comesToBarredFrom_86 : decode cX2_comesToBarredFrom 86 = .ok (.ior, 1) := by decide +kernel
theorem dX2_comesToBarredFrom_87 : decode cX2_comesToBarredFrom 87 = .ok (.iload 5, 2) := by decide +kernel
theorem dX2_comesToBarredFrom_89 : decode cX2_comesToBarredFrom 89 = .ok (.invokevirtual 60, 3) := by decide +kernel
theorem dX2_comesToBarredFrom_92 : decode cX2_comesToBarredFrom 92 = .ok (.iinc 4 1, 3) := by decide +kernel
theorem dX2_comesToBarredFrom_95 : decode cX2_comesToBarredFrom 95 = .ok (.goto (-92), 3) := by decide +kernel
theorem dX2_comesToBarredFrom_98 : decode cX2_comesToBarredFrom 98 = .ok (.iconst 0, 1) := by decide +kernel
theorem dX2_comesToBarredFrom_99 : decode cX2_comesToBarredFrom 99 = .ok (.ireturn, 1) := by decide +kernel
theorem dX2_reach_0 : decode cX2_reach 0 = .ok (.aload_n 0, 1) := by decide +kernel
theorem dX2_reach_1 : decode cX2_reach 1 = .ok (.getfield 21, 3) := by decide +kernel
theorem dX2_reach_4 : decode cX2_reach 4 = .ok (.iload_n 1, 1) := by decide +kernel
theorem dX2_reach_5 : decode cX2_reach 5 = .ok (.iaload, 1) := by decide +kernel
theorem dX2_reach_6 : decode cX2_reach 6 = .ok (.istore_n 3, 1) := by decide +kernel
theorem dX2_reach_7 : decode cX2_reach 7 = .ok (.iconst 0, 1) := by decide +kernel
theorem dX2_reach_8 : decode cX2_reach 8 = .ok (.istore 4, 2) := by decide +kernel
theorem dX2_reach_10 : decode cX2_reach 10 = .ok (.iload 4, 2) := by decide +kernel
theorem dX2_reach_12 : decode cX2_reach 12 = .ok (.sipush 2048, 3) := by decide +kernel
theorem dX2_reach_15 : decode cX2_reach 15 = .ok (.if_icmp .ge 31, 3) := by decide +kernel
theorem dX2_reach_18 : decode cX2_reach 18 = .ok (.iload_n 3, 1) := by decide +kernel
theorem dX2_reach_19 : decode cX2_reach 19 = .ok (.iconst (-1), 1) := by decide +kernel
theorem dX2_reach_20 : decode cX2_reach 20 = .ok (.if_icmp .eq 26, 3) := by decide +kernel
theorem dX2_reach_23 : decode cX2_reach 23 = .ok (.aload_n 0, 1) := by decide +kernel
theorem dX2_reach_24 : decode cX2_reach 24 = .ok (.getfield 15, 3) := by decide +kernel
theorem dX2_reach_27 : decode cX2_reach 27 = .ok (.iload_n 3, 1) := by decide +kernel
theorem dX2_reach_28 : decode cX2_reach 28 = .ok (.iaload, 1) := by decide +kernel
theorem dX2_reach_29 : decode cX2_reach 29 = .ok (.iload_n 2, 1) := by decide +kernel
theorem dX2_reach_30 : decode cX2_reach 30 = .ok (.if_icmp .eq 16, 3) := by decide +kernel
theorem dX2_reach_33 : decode cX2_reach 33 = .ok (.aload_n 0, 1) := by decide +kernel
theorem dX2_reach_34 : decode cX2_reach 34 = .ok (.getfield 18, 3) := by decide +kernel
theorem dX2_reach_37 : decode cX2_reach 37 = .ok (.iload_n 3, 1) := by decide +kernel
theorem dX2_reach_38 : decode cX2_reach 38 = .ok (.iaload, 1) := by decide +kernel
theorem dX2_reach_39 : decode cX2_reach 39 = .ok (.istore_n 3, 1) := by decide +kernel
theorem dX2_reach_40 : decode cX2_reach 40 = .ok (.iinc 4 1, 3) := by decide +kernel
theorem dX2_reach_43 : decode cX2_reach 43 = .ok (.goto (-33), 3) := by decide +kernel
theorem dX2_reach_46 : decode cX2_reach 46 = .ok (.iload_n 3, 1) := by decide +kernel
theorem dX2_reach_47 : decode cX2_reach 47 = .ok (.iconst (-1), 1) := by decide +kernel
theorem dX2_reach_48 : decode cX2_reach 48 = .ok (.if_icmp .ne 13, 3) := by decide +kernel
theorem dX2_reach_51 : decode cX2_reach 51 = .ok (.aload_n 0, 1) := by decide +kernel
theorem dX2_reach_52 : decode cX2_reach 52 = .ok (.getfield 57, 3) := by decide +kernel
theorem dX2_reach_55 : decode cX2_reach 55 = .ok (.sipush 2048, 3) := by decide +kernel
theorem dX2_reach_58 : decode cX2_reach 58 = .ok (.if_icmp .lt 4, 3) := by decide +kernel
theorem dX2_reach_61 : decode cX2_reach 61 = .ok (.return_, 1) := by decide +kernel
theorem dX2_reach_62 : decode cX2_reach 62 = .ok (.aload_n 0, 1) := by decide +kernel
theorem dX2_reach_63 : decode cX2_reach 63 = .ok (.getfield 11, 3) := by decide +kernel
theorem dX2_reach_66 : decode cX2_reach 66 = .ok (.aload_n 0, 1) := by decide +kernel
theorem dX2_reach_67 : decode cX2_reach 67 = .ok (.getfield 57, 3) := by decide +kernel
theorem dX2_reach_70 : decode cX2_reach 70 = .ok (.iload_n 1, 1) := by decide +kernel
theorem dX2_reach_71 : decode cX2_reach 71 = .ok (.iastore, 1) := by decide +kernel
theorem dX2_reach_72 : decode cX2_reach 72 = .ok (.aload_n 0, 1) := by decide +kernel
theorem dX2_reach_73 : decode cX2_reach 73 = .ok (.getfield 15, 3) := by decide +kernel
theorem dX2_reach_76 : decode cX2_reach 76 = .ok (.aload_n 0, 1) := by decide +kernel
theorem dX2_reach_77 : decode cX2_reach 77 = .ok (.getfield 57, 3) := by decide +kernel
theorem dX2_reach_80 : decode cX2_reach 80 = .ok (.iload_n 2, 1) := by decide +kernel
theorem dX2_reach_81 : decode cX2_reach 81 = .ok (.iastore, 1) := by decide +kernel
theorem dX2_reach_82 : decode cX2_reach 82 = .ok (.aload_n 0, 1) := by decide +kernel
theorem dX2_reach_83 : decode cX2_reach 83 = .ok (.getfield 18, 3) := by decide +kernel
theorem dX2_reach_86 : decode cX2_reach 86 = .ok (.aload_n 0, 1) := by decide +kernel
theorem dX2_reach_87 : decode cX2_reach 87 = .ok (.getfield 57, 3) := by decide +kernel
theorem dX2_reach_90 : decode cX2_reach 90 = .ok (.aload_n 0, 1) := by decide +kernel
theorem dX2_reach_91 : decode cX2_reach 91 = .ok (.getfield 21, 3) := by decide +kernel
theorem dX2_reach_94 : decode cX2_reach 94 = .ok (.iload_n 1, 1) := by decide +kernel
theorem dX2_reach_95 : decode cX2_reach 95 = .ok (.iaload, 1) := by decide +kernel
theorem dX2_reach_96 : decode cX2_reach 96 = .ok (.iastore, 1) := by decide +kernel
theorem dX2_reach_97 : decode cX2_reach 97 = .ok (.aload_n 0, 1) := by decide +kernel
theorem dX2_reach_98 : decode cX2_reach 98 = .ok (.getfield 21, 3) := by decide +kernel
theorem dX2_reach_101 : decode cX2_reach 101 = .ok (.iload_n 1, 1) := by decide +kernel
theorem dX2_reach_102 : decode cX2_reach 102 = .ok (.aload_n 0, 1) := by decide +kernel
theorem dX2_reach_103 : decode cX2_reach 103 = .ok (.getfield 57, 3) := by decide +kernel
theorem dX2_reach_106 : decode cX2_reach 106 = .ok (.iastore, 1) := by decide +kernel
theorem dX2_reach_107 : decode cX2_reach 107 = .ok (.aload_n 0, 1) := by decide +kernel
theorem dX2_reach_108 : decode cX2_reach 108 = .ok (.dup, 1) := by decide +kernel
theorem dX2_reach_109 : decode cX2_reach 109 = .ok (.getfield 57, 3) := by decide +kernel
theorem dX2_reach_112 : decode cX2_reach 112 = .ok (.iconst 1, 1) := by decide +kernel
theorem dX2_reach_113 : decode cX2_reach 113 = .ok (.iadd, 1) := by decide +kernel
theorem dX2_reach_114 : decode cX2_reach 114 = .ok (.putfield 57, 3) := by decide +kernel
theorem dX2_reach_117 : decode cX2_reach 117 = .ok (.return_, 1) := by decide +kernel
theorem dX3_init_0 : decode cX3_init 0 = .ok (.aload_n 0, 1) := by decide +kernel
theorem dX3_init_1 : decode cX3_init 1 = .ok (.invokespecial 3, 3) := by decide +kernel
theorem dX3_init_4 : decode cX3_init 4 = .ok (.aload_n 0, 1) := by decide +kernel
theorem dX3_init_5 : decode cX3_init 5 = .ok (.bipush 12, 2) := by decide +kernel
theorem dX3_init_7 : decode cX3_init 7 = .ok (.newarray .int, 2) := by decide +kernel
theorem dX3_init_9 : decode cX3_init 9 = .ok (.putfield 9, 3) := by decide +kernel
theorem dX3_init_12 : decode cX3_init 12 = .ok (.aload_n 0, 1) := by decide +kernel
theorem dX3_init_13 : decode cX3_init 13 = .ok (.bipush 12, 2) := by decide +kernel
theorem dX3_init_15 : decode cX3_init 15 = .ok (.newarray .int, 2) := by decide +kernel
theorem dX3_init_17 : decode cX3_init 17 = .ok (.putfield 15, 3) := by decide +kernel
theorem dX3_init_20 : decode cX3_init 20 = .ok (.aload_n 0, 1) := by decide +kernel
theorem dX3_init_21 : decode cX3_init 21 = .ok (.bipush 12, 2) := by decide +kernel
theorem dX3_init_23 : decode cX3_init 23 = .ok (.newarray .int, 2) := by decide +kernel
theorem dX3_init_25 : decode cX3_init 25 = .ok (.putfield 18, 3) := by decide +kernel
theorem dX3_init_28 : decode cX3_init 28 = .ok (.aload_n 0, 1) := by decide +kernel
theorem dX3_init_29 : decode cX3_init 29 = .ok (.bipush 12, 2) := by decide +kernel
theorem dX3_init_31 : decode cX3_init 31 = .ok (.newarray .int, 2) := by decide +kernel
theorem dX3_init_33 : decode cX3_init 33 = .ok (.putfield 21, 3) := by decide +kernel
theorem dX3_init_36 : decode cX3_init 36 = .ok (.aload_n 0, 1) := by decide +kernel
theorem dX3_init_37 : decode cX3_init 37 = .ok (.bipush 12, 2) := by decide +kernel
theorem dX3_init_39 : decode cX3_init 39 = .ok (.newarray .int, 2) := by decide +kernel
theorem dX3_init_41 : decode cX3_init 41 = .ok (.putfield 24, 3) := by decide +kernel
theorem dX3_init_44 : decode cX3_init 44 = .ok (.aload_n 0, 1) := by decide +kernel
theorem dX3_init_45 : decode cX3_init 45 = .ok (.bipush 12, 2) := by decide +kernel
theorem dX3_init_47 : decode cX3_init 47 = .ok (.newarray .boolean, 2) := by decide +kernel
theorem dX3_init_49 : decode cX3_init 49 = .ok (.putfield 27, 3) := by decide +kernel
theorem dX3_init_52 : decode cX3_init 52 = .ok (.aload_n 0, 1) := by decide +kernel
theorem dX3_init_53 : decode cX3_init 53 = .ok (.bipush 9, 2) := by decide +kernel
theorem dX3_init_55 : decode cX3_init 55 = .ok (.newarray .int, 2) := by decide +kernel
theorem dX3_init_57 : decode cX3_init 57 = .ok (.putfield 31, 3) := by decide +kernel
theorem dX3_init_60 : decode cX3_init 60 = .ok (.aload_n 0, 1) := by decide +kernel
theorem dX3_init_61 : decode cX3_init 61 = .ok (.bipush 9, 2) := by decide +kernel
theorem dX3_init_63 : decode cX3_init 63 = .ok (.newarray .int, 2) := by decide +kernel
theorem dX3_init_65 : decode cX3_init 65 = .ok (.putfield 34, 3) := by decide +kernel
theorem dX3_init_68 : decode cX3_init 68 = .ok (.aload_n 0, 1) := by decide +kernel
theorem dX3_init_69 : decode cX3_init 69 = .ok (.bipush 9, 2) := by decide +kernel
theorem dX3_init_71 : decode cX3_init 71 = .ok (.newarray .int, 2) := by decide +kernel
theorem dX3_init_73 : decode cX3_init 73 = .ok (.putfield 37, 3) := by decide +kernel
theorem dX3_init_76 : decode cX3_init 76 = .ok (.aload_n 0, 1) := by decide +kernel
theorem dX3_init_77 : decode cX3_init 77 = .ok (.bipush 9, 2) := by decide +kernel
theorem dX3_init_79 : decode cX3_init 79 = .ok (.newarray .int, 2) := by decide +kernel
theorem dX3_init_81 : decode cX3_init 81 = .ok (.putfield 40, 3) := by decide +kernel
theorem dX3_init_84 : decode cX3_init 84 = .ok (.aload_n 0, 1) := by decide +kernel
theorem dX3_init_85 : decode cX3_init 85 = .ok (.aload_n 1, 1) := by decide +kernel
theorem dX3_init_86 : decode cX3_init 86 = .ok (.putfield 43, 3) := by decide +kernel
theorem dX3_init_89 : decode cX3_init 89 = .ok (.aload_n 0, 1) := by decide +kernel
theorem dX3_init_90 : decode cX3_init 90 = .ok (.aload_n 2, 1) := by decide +kernel
theorem dX3_init_91 : decode cX3_init 91 = .ok (.putfield 47, 3) := by decide +kernel
theorem dX3_init_94 : decode cX3_init 94 = .ok (.return_, 1) := by decide +kernel
theorem dX3_begin_0 : decode cX3_begin 0 = .ok (.aload_n 0, 1) := by decide +kernel
theorem dX3_begin_1 : decode cX3_begin 1 = .ok (.iconst 1, 1) := by decide +kernel
theorem dX3_begin_2 : decode cX3_begin 2 = .ok (.putfield 51, 3) := by decide +kernel
theorem dX3_begin_5 : decode cX3_begin 5 = .ok (.aload_n 0, 1) := by decide +kernel
theorem dX3_begin_6 : decode cX3_begin 6 = .ok (.iload_n 1, 1) := by decide +kernel
theorem dX3_begin_7 : decode cX3_begin 7 = .ok (.putfield 55, 3) := by decide +kernel
theorem dX3_begin_10 : decode cX3_begin 10 = .ok (.aload_n 0, 1) := by decide +kernel
theorem dX3_begin_11 : decode cX3_begin 11 = .ok (.iload_n 2, 1) := by decide +kernel
theorem dX3_begin_12 : decode cX3_begin 12 = .ok (.putfield 59, 3) := by decide +kernel
theorem dX3_begin_15 : decode cX3_begin 15 = .ok (.aload_n 0, 1) := by decide +kernel
theorem dX3_begin_16 : decode cX3_begin 16 = .ok (.iconst 0, 1) := by decide +kernel
theorem dX3_begin_17 : decode cX3_begin 17 = .ok (.putfield 62, 3) := by decide +kernel
theorem dX3_begin_20 : decode cX3_begin 20 = .ok (.return_, 1) := by decide +kernel
theorem dX3_end_0 : decode cX3_end 0 = .ok (.aload_n 0, 1) := by decide +kernel
theorem dX3_end_1 : decode cX3_end 1 = .ok (.iconst 0, 1) := by decide +kernel
theorem dX3_end_2 : decode cX3_end 2 = .ok (.putfield 51, 3) := by decide +kernel
theorem dX3_end_5 : decode cX3_end 5 = .ok (.aload_n 0, 1) := by decide +kernel
theorem dX3_end_6 : decode cX3_end 6 = .ok (.iconst 0, 1) := by decide +kernel
theorem dX3_end_7 : decode cX3_end 7 = .ok (.putfield 62, 3) := by decide +kernel
theorem dX3_end_10 : decode cX3_end 10 = .ok (.return_, 1) := by decide +kernel
theorem dX3_findReadings_0 : decode cX3_findReadings 0 = .ok (.aload_n 0, 1) := by decide +kernel
theorem dX3_findReadings_1 : decode cX3_findReadings 1 = .ok (.getfield 47, 3) := by decide +kernel
theorem dX3_findReadings_4 : decode cX3_findReadings 4 = .ok (.aload_n 0, 1) := by decide +kernel
theorem dX3_findReadings_5 : decode cX3_findReadings 5 = .ok (.getfield 31, 3) := by decide +kernel
theorem dX3_findReadings_8 : decode cX3_findReadings 8 = .ok (.invokevirtual 65, 3) := by decide +kernel
theorem dX3_findReadings_11 : decode cX3_findReadings 11 = .ok (.iconst 0, 1) := by decide +kernel
theorem dX3_findReadings_12 : decode cX3_findReadings 12 = .ok (.istore_n 2, 1) := by decide +kernel
theorem dX3_findReadings_13 : decode cX3_findReadings 13 = .ok (.iload_n 2, 1) := by decide +kernel
theorem dX3_findReadings_14 : decode cX3_findReadings 14 = .ok (.aload_n 0, 1) := by decide +kernel
theorem dX3_findReadings_15 : decode cX3_findReadings 15 = .ok (.getfield 47, 3) := by decide +kernel
theorem dX3_findReadings_18 : decode cX3_findReadings 18 = .ok (.getfield 71, 3) := by decide +kernel
theorem dX3_findReadings_21 : decode cX3_findReadings 21 = .ok (.if_icmp .ge 43, 3) := by decide +kernel
theorem dX3_findReadings_24 : decode cX3_findReadings 24 = .ok (.aload_n 0, 1) := by decide +kernel
theorem dX3_findReadings_25 : decode cX3_findReadings 25 = .ok (.getfield 47, 3) := by decide +kernel
theorem dX3_findReadings_28 : decode cX3_findReadings 28 = .ok (.getfield 72, 3) := by decide +kernel
theorem dX3_findReadings_31 : decode cX3_findReadings 31 = .ok (.iload_n 2, 1) := by decide +kernel
theorem dX3_findReadings_32 : decode cX3_findReadings 32 = .ok (.iaload, 1) := by decide +kernel
theorem dX3_findReadings_33 : decode cX3_findReadings 33 = .ok (.ifCond .ne 25, 3) := by decide +kernel
theorem dX3_findReadings_36 : decode cX3_findReadings 36 = .ok (.aload_n 0, 1) := by decide +kernel
theorem dX3_findReadings_37 : decode cX3_findReadings 37 = .ok (.getfield 47, 3) := by decide +kernel
theorem dX3_findReadings_40 : decode cX3_findReadings 40 = .ok (.aload_n 0, 1) := by decide +kernel
theorem dX3_findReadings_41 : decode cX3_findReadings 41 = .ok (.getfield 31, 3) := by decide +kernel
theorem dX3_findReadings_44 : decode cX3_findReadings 44 = .ok (.aload_n 0, 1) := by decide +kernel
theorem dX3_findReadings_45 : decode cX3_findReadings 45 = .ok (.getfield 34, 3) := by decide +kernel
theorem dX3_findReadings_48 : decode cX3_findReadings 48 = .ok (.iload_n 2, 1) := by decide +kernel
theorem dX3_findReadings_49 : decode cX3_findReadings 49 = .ok (.invokevirtual 75, 3) := by decide +kernel
theorem dX3_findReadings_52 : decode cX3_findReadings 52 = .ok (.aload_n 0, 1) := by decide +kernel
theorem dX3_findReadings_53 : decode cX3_findReadings 53 = .ok (.iload_n 2, 1) := by decide +kernel
theorem dX3_findReadings_54 : decode cX3_findReadings 54 = .ok (.iload_n 1, 1) := by decide +kernel
theorem dX3_findReadings_55 : decode cX3_findReadings 55 = .ok (.invokevirtual 79, 3) := by decide +kernel
theorem dX3_findReadings_58 : decode cX3_findReadings 58 = .ok (.iinc 2 1, 3) := by decide +kernel
theorem dX3_findReadings_61 : decode cX3_findReadings 61 = .ok (.goto (-48), 3) := by decide +kernel
theorem dX3_findReadings_64 : decode cX3_findReadings 64 = .ok (.return_, 1) := by decide +kernel
theorem dX3_offerWithVerb_0 : decode cX3_offerWithVerb 0 = .ok (.aload_n 0, 1) := by decide +kernel
theorem dX3_offerWithVerb_1 : decode cX3_offerWithVerb 1 = .ok (.getfield 47, 3) := by decide +kernel
theorem dX3_offerWithVerb_4 : decode cX3_offerWithVerb 4 = .ok (.getfield 83, 3) := by decide +kernel
theorem dX3_offerWithVerb_7 : decode cX3_offerWithVerb 7 = .ok (.istore_n 3, 1) := by decide +kernel
theorem dX3_offerWithVerb_8 : decode cX3_offerWithVerb 8 = .ok (.iconst 0, 1) := by decide +kernel
theorem dX3_offerWithVerb_9 : decode cX3_offerWithVerb 9 = .ok (.istore 4, 2) := by decide +kernel
theorem dX3_offerWithVerb_11 : decode cX3_offerWithVerb 11 = .ok (.iload 4, 2) := by decide +kernel
theorem dX3_offerWithVerb_13 : decode cX3_offerWithVerb 13 = .ok (.aload_n 0, 1) := by decide +kernel
theorem dX3_offerWithVerb_14 : decode cX3_offerWithVerb 14 = .ok (.getfield 47, 3) := by decide +kernel
theorem dX3_offerWithVerb_17 : decode cX3_offerWithVerb 17 = .ok (.getfield 71, 3) := by decide +kernel
theorem dX3_offerWithVerb_20 : decode cX3_offerWithVerb 20 = .ok (.if_icmp .ge 88, 3) := by decide +kernel
theorem dX3_offerWithVerb_23 : decode cX3_offerWithVerb 23 = .ok (.aload_n 0, 1) := by decide +kernel
theorem dX3_offerWithVerb_24 : decode cX3_offerWithVerb 24 = .ok (.getfield 47, 3) := by decide +kernel
theorem dX3_offerWithVerb_27 : decode cX3_offerWithVerb 27 = .ok (.getfield 72, 3) := by decide +kernel
theorem dX3_offerWithVerb_30 : decode cX3_offerWithVerb 30 = .ok (.iload 4, 2) := by decide +kernel
theorem dX3_offerWithVerb_32 : decode cX3_offerWithVerb 32 = .ok (.iaload, 1) := by decide +kernel
theorem dX3_offerWithVerb_33 : decode cX3_offerWithVerb 33 = .ok (.istore 5, 2) := by decide +kernel
theorem dX3_offerWithVerb_35 : decode cX3_offerWithVerb 35 = .ok (.iload 5, 2) := by decide +kernel
theorem dX3_offerWithVerb_37 : decode cX3_offerWithVerb 37 = .ok (.iconst 1, 1) := by decide +kernel
theorem dX3_offerWithVerb_38 : decode cX3_offerWithVerb 38 = .ok (.if_icmp .eq 9, 3) := by decide +kernel
theorem dX3_offerWithVerb_41 : decode cX3_offerWithVerb 41 = .ok (.iload 5, 2) := by decide +kernel
theorem dX3_offerWithVerb_43 : decode cX3_offerWithVerb 43 = .ok (.iconst 3, 1) := by decide +kernel
theorem dX3_offerWithVerb_44 : decode cX3_offerWithVerb 44 = .ok (.if_icmp .ne 44, 3) := by decide +kernel
theorem dX3_offerWithVerb_47 : decode cX3_offerWithVerb 47 = .ok (.aload_n 0, 1) := by decide +kernel
theorem dX3_offerWithVerb_48 : decode cX3_offerWithVerb 48 = .ok (.getfield 47, 3) := by decide +kernel
theorem dX3_offerWithVerb_51 : decode cX3_offerWithVerb 51 = .ok (.aload_n 0, 1) := by decide +kernel
theorem dX3_offerWithVerb_52 : decode cX3_offerWithVerb 52 = .ok (.getfield 34, 3) := by decide +kernel
theorem dX3_offerWithVerb_55 : decode cX3_offerWithVerb 55 = .ok (.aload_n 0, 1) := by decide +kernel
theorem dX3_offerWithVerb_56 : decode cX3_offerWithVerb 56 = .ok (.getfield 37, 3) := by decide +kernel
theorem dX3_offerWithVerb_59 : decode cX3_offerWithVerb 59 = .ok (.iload 4, 2) := by decide +kernel
theorem dX3_offerWithVerb_61 : decode cX3_offerWithVerb 61 = .ok (.invokevirtual 75, 3) := by decide +kernel
theorem dX3_offerWithVerb_64 : decode cX3_offerWithVerb 64 = .ok (.aload_n 0, 1) := by decide +kernel
theorem dX3_offerWithVerb_65 : decode cX3_offerWithVerb 65 = .ok (.getfield 37, 3) := by decide +kernel
theorem dX3_offerWithVerb_68 : decode cX3_offerWithVerb 68 = .ok (.iload_n 3, 1) := by decide +kernel
theorem dX3_offerWithVerb_69 : decode cX3_offerWithVerb 69 = .ok (.iaload, 1) := by decide +kernel
theorem dX3_offerWithVerb_70 : decode cX3_offerWithVerb 70 = .ok (.iload_n 2, 1) := by decide +kernel
theorem dX3_offerWithVerb_71 : decode cX3_offerWithVerb 71 = .ok (.if_icmp .gt 17, 3) := by decide +kernel
theorem dX3_offerWithVerb_74 : decode cX3_offerWithVerb 74 = .ok (.aload_n 0, 1) := by decide +kernel
theorem dX3_offerWithVerb_75 : decode cX3_offerWithVerb 75 = .ok (.aload_n 0, 1) := by decide +kernel
theorem dX3_offerWithVerb_76 : decode cX3_offerWithVerb 76 = .ok (.getfield 37, 3) := by decide +kernel
theorem dX3_offerWithVerb_79 : decode cX3_offerWithVerb 79 = .ok (.iload_n 3, 1) := by decide +kernel
theorem dX3_offerWithVerb_80 : decode cX3_offerWithVerb 80 = .ok (.iaload, 1) := by decide +kernel
theorem dX3_offerWithVerb_81 : decode cX3_offerWithVerb 81 = .ok (.iload_n 1, 1) := by decide +kernel
theorem dX3_offerWithVerb_82 : decode cX3_offerWithVerb 82 = .ok (.iload 4, 2) := by decide +kernel
theorem dX3_offerWithVerb_84 : decode cX3_offerWithVerb 84 = .ok (.iconst (-1), 1) := by decide +kernel
theorem dX3_offerWithVerb_85 : decode cX3_offerWithVerb 85 = .ok (.invokevirtual 86, 3) := by decide +kernel
theorem dX3_offerWithVerb_88 : decode cX3_offerWithVerb 88 = .ok (.iload 5, 2) := by decide +kernel
theorem dX3_offerWithVerb_90 : decode cX3_offerWithVerb 90 = .ok (.iconst 1, 1) := by decide +kernel
theorem dX3_offerWithVerb_91 : decode cX3_offerWithVerb 91 = .ok (.if_icmp .ne 11, 3) := by decide +kernel
theorem dX3_offerWithVerb_94 : decode cX3_offerWithVerb 94 = .ok (.aload_n 0, 1) := by decide +kernel
theorem dX3_offerWithVerb_95 : decode cX3_offerWithVerb 95 = .ok (.iload_n 1, 1) := by decide +kernel
theorem dX3_offerWithVerb_96 : decode cX3_offerWithVerb 96 = .ok (.iload 4, 2) := by decide +kernel
theorem dX3_offerWithVerb_98 : decode cX3_offerWithVerb 98 = .ok (.iload_n 2, 1) := by decide +kernel
theorem dX3_offerWithVerb_99 : decode cX3_offerWithVerb 99 = .ok (.invokevirtual 90, 3) := by decide +kernel
theorem dX3_offerWithVerb_102 : decode cX3_offerWithVerb 102 = .ok (.iinc 4 1, 3) := by decide +kernel
theorem dX3_offerWithVerb_105 : decode cX3_offerWithVerb 105 = .ok (.goto (-94), 3) := by decide +kernel
theorem dX3_offerWithVerb_108 : decode cX3_offerWithVerb 108 = .ok (.return_, 1) := by decide +kernel
theorem dX3_offerWithSort_0 : decode cX3_offerWithSort 0 = .ok (.aload_n 0, 1) := by decide +kernel
theorem dX3_offerWithSort_1 : decode cX3_offerWithSort 1 = .ok (.getfield 47, 3) := by decide +kernel
theorem dX3_offerWithSort_4 : decode cX3_offerWithSort 4 = .ok (.getfield 83, 3) := by decide +kernel
theorem dX3_offerWithSort_7 : decode cX3_offerWithSort 7 = .ok (.istore 4, 2) := by decide +kernel
theorem dX3_offerWithSort_9 : decode cX3_offerWithSort 9 = .ok (.iconst 0, 1) := by decide +kernel
theorem dX3_offerWithSort_10 : decode cX3_offerWithSort 10 = .ok (.istore 5, 2) := by decide +kernel
theorem dX3_offerWithSort_12 : decode cX3_offerWithSort 12 = .ok (.iload 5, 2) := by decide +kernel
theorem dX3_offerWithSort_14 : decode cX3_offerWithSort 14 = .ok (.aload_n 0, 1) := by decide +kernel
theorem dX3_offerWithSort_15 : decode cX3_offerWithSort 15 = .ok (.getfield 47, 3) := by decide +kernel
theorem dX3_offerWithSort_18 : decode cX3_offerWithSort 18 = .ok (.getfield 71, 3) := by decide +kernel
theorem dX3_offerWithSort_21 : decode cX3_offerWithSort 21 = .ok (.if_icmp .ge 66, 3) := by decide +kernel
theorem dX3_offerWithSort_24 : decode cX3_offerWithSort 24 = .ok (.aload_n 0, 1) := by decide +kernel
theorem dX3_offerWithSort_25 : decode cX3_offerWithSort 25 = .ok (.getfield 47, 3) := by decide +kernel
theorem dX3_offerWithSort_28 : decode cX3_offerWithSort 28 = .ok (.getfield 72, 3) := by decide +kernel
theorem dX3_offerWithSort_31 : decode cX3_offerWithSort 31 = .ok (.iload 5, 2) := by decide +kernel
theorem dX3_offerWithSort_33 : decode cX3_offerWithSort 33 = .ok (.iaload, 1) := by decide +kernel
theorem dX3_offerWithSort_34 : decode cX3_offerWithSort 34 = .ok (.iconst 2, 1) := by decide +kernel
theorem dX3_offerWithSort_35 : decode cX3_offerWithSort 35 = .ok (.if_icmp .ne 46, 3) := by decide +kernel
theorem dX3_offerWithSort_38 : decode cX3_offerWithSort 38 = .ok (.aload_n 0, 1) := by decide +kernel
theorem dX3_offerWithSort_39 : decode cX3_offerWithSort 39 = .ok (.getfield 47, 3) := by decide +kernel
theorem dX3_offerWithSort_42 : decode cX3_offerWithSort 42 = .ok (.aload_n 0, 1) := by decide +kernel
theorem dX3_offerWithSort_43 : decode cX3_offerWithSort 43 = .ok (.getfield 37, 3) := by decide +kernel
theorem dX3_offerWithSort_46 : decode cX3_offerWithSort 46 = .ok (.aload_n 0, 1) := by decide +kernel
theorem dX3_offerWithSort_47 : decode cX3_offerWithSort 47 = .ok (.getfield 40, 3) := by decide +kernel
theorem dX3_offerWithSort_50 : decode cX3_offerWithSort 50 = .ok (.iload 5, 2) := by decide +kernel
theorem dX3_offerWithSort_52 : decode cX3_offerWithSort 52 = .ok (.invokevirtual 75, 3) := by decide +kernel
theorem dX3_offerWithSort_55 : decode cX3_offerWithSort 55 = .ok (.aload_n 0, 1) := by decide +kernel
theorem dX3_offerWithSort_56 : decode cX3_offerWithSort 56 = .ok (.getfield 40, 3) := by decide +kernel
theorem dX3_offerWithSort_59 : decode cX3_offerWithSort 59 = .ok (.iload 4, 2) := by decide +kernel
theorem dX3_offerWithSort_61 : decode cX3_offerWithSort 61 = .ok (.iaload, 1) := by decide +kernel
theorem dX3_offerWithSort_62 : decode cX3_offerWithSort 62 = .ok (.iload_n 3, 1) := by decide +kernel
theorem dX3_offerWithSort_63 : decode cX3_offerWithSort 63 = .ok (.if_icmp .gt 18, 3) := by decide +kernel
theorem dX3_offerWithSort_66 : decode cX3_offerWithSort 66 = .ok (.aload_n 0, 1) := by decide +kernel
theorem dX3_offerWithSort_67 : decode cX3_offerWithSort 67 = .ok (.aload_n 0, 1) := by decide +kernel
theorem dX3_offerWithSort_68 : decode cX3_offerWithSort 68 = .ok (.getfield 40, 3) := by decide +kernel
theorem dX3_offerWithSort_71 : decode cX3_offerWithSort 71 = .ok (.iload 4, 2) := by decide +kernel
theorem dX3_offerWithSort_73 : decode cX3_offerWithSort 73 = .ok (.iaload, 1) := by decide +kernel
theorem dX3_offerWithSort_74 : decode cX3_offerWithSort 74 = .ok (.iload_n 1, 1) := by decide +kernel
theorem dX3_offerWithSort_75 : decode cX3_offerWithSort 75 = .ok (.iload_n 2, 1) := by decide +kernel
theorem dX3_offerWithSort_76 : decode cX3_offerWithSort 76 = .ok (.iload 5, 2) := by decide +kernel
theorem dX3_offerWithSort_78 : decode cX3_offerWithSort 78 = .ok (.invokevirtual 86, 3) := by decide +kernel
theorem dX3_offerWithSort_81 : decode cX3_offerWithSort 81 = .ok (.iinc 5 1, 3) := by decide +kernel
theorem dX3_offerWithSort_84 : decode cX3_offerWithSort 84 = .ok (.goto (-72), 3) := by decide +kernel
theorem dX3_offerWithSort_87 : decode cX3_offerWithSort 87 = .ok (.return_, 1) := by decide +kernel
theorem dX3_offer_0 : decode cX3_offer 0 = .ok (.aload_n 0, 1) := by decide +kernel
theorem dX3_offer_1 : decode cX3_offer 1 = .ok (.getfield 62, 3) := by decide +kernel
theorem dX3_offer_4 : decode cX3_offer 4 = .ok (.istore 5, 2) := by decide +kernel
theorem dX3_offer_6 : decode cX3_offer 6 = .ok (.iload 5, 2) := by decide +kernel
theorem dX3_offer_8 : decode cX3_offer 8 = .ok (.ifCond .le 22, 3) := by decide +kernel
theorem dX3_offer_11 : decode cX3_offer 11 = .ok (.aload_n 0, 1) := by decide +kernel
theorem dX3_offer_12 : decode cX3_offer 12 = .ok (.getfield 9, 3) := by decide +kernel
theorem dX3_offer_15 : decode cX3_offer 15 = .ok (.iload 5, 2) := by decide +kernel
theorem dX3_offer_17 : decode cX3_offer 17 = .ok (.iconst 1, 1) := by decide +kernel
theorem dX3_offer_18 : decode cX3_offer 18 = .ok (.isub, 1) := by decide +kernel
theorem dX3_offer_19 : decode cX3_offer 19 = .ok (.iaload, 1) := by decide +kernel
theorem dX3_offer_20 : decode cX3_offer 20 = .ok (.iload_n 1, 1) := by decide +kernel
theorem dX3_offer_21 : decode cX3_offer 21 = .ok (.if_icmp .le 9, 3) := by decide +kernel
theorem dX3_offer_24 : decode cX3_offer 24 = .ok (.iinc 5 (-1), 3) := by decide +kernel
theorem dX3_offer_27 : decode cX3_offer 27 = .ok (.goto (-21), 3) := by decide +kernel
theorem dX3_offer_30 : decode cX3_offer 30 = .ok (.iload 5, 2) := by decide +kernel
theorem dX3_offer_32 : decode cX3_offer 32 = .ok (.bipush 12, 2) := by decide +kernel
theorem dX3_offer_34 : decode cX3_offer 34 = .ok (.if_icmp .lt 4, 3) := by decide +kernel
theorem dX3_offer_37 : decode cX3_offer 37 = .ok (.return_, 1) := by decide +kernel
theorem dX3_offer_38 : decode cX3_offer 38 = .ok (.aload_n 0, 1) := by decide +kernel
theorem dX3_offer_39 : decode cX3_offer 39 = .ok (.getfield 62, 3) := by decide +kernel
theorem dX3_offer_42 : decode cX3_offer 42 = .ok (.bipush 12, 2) := by decide +kernel
theorem dX3_offer_44 : decode cX3_offer 44 = .ok (.if_icmp .ge 13, 3) := by decide +kernel
theorem dX3_offer_47 : decode cX3_offer 47 = .ok (.aload_n 0, 1) := by decide +kernel
theorem dX3_offer_48 : decode cX3_offer 48 = .ok (.dup, 1) := by decide +kernel
theorem dX3_offer_49 : decode cX3_offer 49 = .ok (.getfield 62, 3) := by decide +kernel
theorem dX3_offer_52 : decode cX3_offer 52 = .ok (.iconst 1, 1) := by decide +kernel
theorem dX3_offer_53 : decode cX3_offer 53 = .ok (.iadd, 1) := by decide +kernel
theorem dX3_offer_54 : decode cX3_offer 54 = .ok (.putfield 62, 3) := by decide +kernel
theorem dX3_offer_57 : decode cX3_offer 57 = .ok (.aload_n 0, 1) := by decide +kernel
theorem dX3_offer_58 : decode cX3_offer 58 = .ok (.getfield 62, 3) := by decide +kernel
theorem dX3_offer_61 : decode cX3_offer 61 = .ok (.iconst 1, 1) := by decide +kernel
theorem dX3_offer_62 : decode cX3_offer 62 = .ok (.isub, 1) := by decide +kernel
theorem dX3_offer_63 : decode cX3_offer 63 = .ok (.istore 6, 2) := by decide +kernel
theorem dX3_offer_65 : decode cX3_offer 65 = .ok (.iload 6, 2) := by decide +kernel
theorem dX3_offer_67 : decode cX3_offer 67 = .ok (.iload 5, 2) := by decide +kernel
theorem dX3_offer_69 : decode cX3_offer 69 = .ok (.if_icmp .le 73, 3) := by decide +kernel
theorem dX3_offer_72 : decode cX3_offer 72 = .ok (.aload_n 0, 1) := by decide +kernel
theorem dX3_offer_73 : decode cX3_offer 73 = .ok (.getfield 9, 3) := by decide +kernel
theorem dX3_offer_76 : decode cX3_offer 76 = .ok (.iload 6, 2) := by decide +kernel
theorem dX3_offer_78 : decode cX3_offer 78 = .ok (.aload_n 0, 1) := by decide +kernel
theorem dX3_offer_79 : decode cX3_offer 79 = .ok (.getfield 9, 3) := by decide +kernel
theorem dX3_offer_82 : decode cX3_offer 82 = .ok (.iload 6, 2) := by decide +kernel
theorem dX3_offer_84 : decode cX3_offer 84 = .ok (.iconst 1, 1) := by decide +kernel
theorem dX3_offer_85 : decode cX3_offer 85 = .ok (.isub, 1) := by decide +kernel
theorem dX3_offer_86 : decode cX3_offer 86 = .ok (.iaload, 1) := by decide +kernel
theorem dX3_offer_87 : decode cX3_offer 87 = .ok (.iastore, 1) := by decide +kernel
theorem dX3_offer_88 : decode cX3_offer 88 = .ok (.aload_n 0, 1) := by decide +kernel
theorem dX3_offer_89 : decode cX3_offer 89 = .ok (.getfield 15, 3) := by decide +kernel
theorem dX3_offer_92 : decode cX3_offer 92 = .ok (.iload 6, 2) := by decide +kernel
theorem dX3_offer_94 : decode cX3_offer 94 = .ok (.aload_n 0, 1) := by decide +kernel
theorem dX3_offer_95 : decode cX3_offer 95 = .ok (.getfield 15, 3) := by decide +kernel
theorem dX3_offer_98 : decode cX3_offer 98 = .ok (.iload 6, 2) := by decide +kernel
theorem dX3_offer_100 : decode cX3_offer 100 = .ok (.iconst 1, 1) := by decide +kernel
theorem dX3_offer_101 : decode cX3_offer 101 = .ok (.isub, 1) := by decide +kernel
theorem dX3_offer_102 : decode cX3_offer 102 = .ok (.iaload, 1) := by decide +kernel
theorem dX3_offer_103 : decode cX3_offer 103 = .ok (.iastore, 1) := by decide +kernel
theorem dX3_offer_104 : decode cX3_offer 104 = .ok (.aload_n 0, 1) := by decide +kernel
theorem dX3_offer_105 : decode cX3_offer 105 = .ok (.getfield 18, 3) := by decide +kernel
theorem dX3_offer_108 : decode cX3_offer 108 = .ok (.iload 6, 2) := by decide +kernel
theorem dX3_offer_110 : decode cX3_offer 110 = .ok (.aload_n 0, 1) := by decide +kernel
theorem dX3_offer_111 : decode cX3_offer 111 = .ok (.getfield 18, 3) := by decide +kernel
theorem dX3_offer_114 : decode cX3_offer 114 = .ok (.iload 6, 2) := by decide +kernel
theorem dX3_offer_116 : decode cX3_offer 116 = .ok (.iconst 1, 1) := by decide +kernel
theorem dX3_offer_117 : decode cX3_offer 117 = .ok (.isub, 1) := by decide +kernel
theorem dX3_offer_118 : decode cX3_offer 118 = .ok (.iaload, 1) := by decide +kernel
theorem dX3_offer_119 : decode cX3_offer 119 = .ok (.iastore, 1) := by decide +kernel
theorem dX3_offer_120 : decode cX3_offer 120 = .ok (.aload_n 0, 1) := by decide +kernel
theorem dX3_offer_121 : decode cX3_offer 121 = .ok (.getfield 21, 3) := by decide +kernel
theorem dX3_offer_124 : decode cX3_offer 124 = .ok (.iload 6, 2) := by decide +kernel
theorem dX3_offer_126 : decode cX3_offer 126 = .ok (.aload_n 0, 1) := by decide +kernel
theorem dX3_offer_127 : decode cX3_offer 127 = .ok (.getfield 21, 3) := by decide +kernel
theorem dX3_offer_130 : decode cX3_offer 130 = .ok (.iload 6, 2) := by decide +kernel
theorem dX3_offer_132 : decode cX3_offer 132 = .ok (.iconst 1, 1) := by decide +kernel
theorem dX3_offer_133 : decode cX3_offer 133 = .ok (.isub, 1) := by decide +kernel
theorem dX3_offer_134 : decode cX3_offer 134 = .ok (.iaload, 1) := by decide +kernel
theorem dX3_offer_135 : decode cX3_offer 135 = .ok (.iastore, 1) := by decide +kernel
theorem dX3_offer_136 : decode cX3_offer 136 = .ok (.iinc 6 (-1), 3) := by decide +kernel
theorem dX3_offer_139 : decode cX3_offer 139 = .ok (.goto (-74), 3) := by decide +kernel
theorem dX3_offer_142 : decode cX3_offer 142 = .ok (.aload_n 0, 1) := by decide +kernel
theorem dX3_offer_143 : decode cX3_offer 143 = .ok (.getfield 9, 3) := by decide +kernel
theorem dX3_offer_146 : decode cX3_offer 146 = .ok (.iload 5, 2) := by decide +kernel
theorem dX3_offer_148 : decode cX3_offer 148 = .ok (.iload_n 1, 1) := by decide +kernel
theorem dX3_offer_149 : decode cX3_offer 149 = .ok (.iastore, 1) := by decide +kernel
theorem dX3_offer_150 : decode cX3_offer 150 = .ok (.aload_n 0, 1) := by decide +kernel
theorem dX3_offer_151 : decode cX3_offer 151 = .ok (.getfield 15, 3) := by decide +kernel
theorem dX3_offer_154 : decode cX3_offer 154 = .ok (.iload 5, 2) := by decide +kernel
theorem dX3_offer_156 : decode cX3_offer 156 = .ok (.iload_n 2, 1) := by decide +kernel
theorem dX3_offer_157 : decode cX3_offer 157 = .ok (.iastore, 1) := by decide +kernel
theorem dX3_offer_158 : decode cX3_offer 158 = .ok (.aload_n 0, 1) := by decide +kernel
theorem dX3_offer_159 : decode cX3_offer 159 = .ok (.getfield 18, 3) := by decide +kernel
theorem dX3_offer_162 : decode cX3_offer 162 = .ok (.iload 5, 2) := by decide +kernel
theorem dX3_offer_164 : decode cX3_offer 164 = .ok (.iload_n 3, 1) := by decide +kernel
theorem dX3_offer_165 : decode cX3_offer 165 = .ok (.iastore, 1) := by decide +kernel
theorem dX3_offer_166 : decode cX3_offer 166 = .ok (.aload_n 0, 1) := by decide +kernel
theorem dX3_offer_167 : decode cX3_offer 167 = .ok (.getfield 21, 3) := by decide +kernel
theorem dX3_offer_170 : decode cX3_offer 170 = .ok (.iload 5, 2) := by decide +kernel
theorem dX3_offer_172 : decode cX3_offer 172 = .ok (.iload 4, 2) := by decide +kernel
theorem dX3_offer_174 : decode cX3_offer 174 = .ok (.iastore, 1) := by decide +kernel
theorem dX3_offer_175 : decode cX3_offer 175 = .ok (.return_, 1) := by decide +kernel
theorem dX3_findMeant_0 : decode cX3_findMeant 0 = .ok (.iconst 0, 1) := by decide +kernel
theorem dX3_findMeant_1 : decode cX3_findMeant 1 = .ok (.istore_n 2, 1) := by decide +kernel
theorem dX3_findMeant_2 : decode cX3_findMeant 2 = .ok (.iload_n 2, 1) := by decide +kernel
theorem dX3_findMeant_3 : decode cX3_findMeant 3 = .ok (.aload_n 0, 1) := by decide +kernel
theorem dX3_findMeant_4 : decode cX3_findMeant 4 = .ok (.getfield 62, 3) := by decide +kernel
theorem dX3_findMeant_7 : decode cX3_findMeant 7 = .ok (.if_icmp .ge 64, 3) := by decide +kernel
theorem dX3_findMeant_10 : decode cX3_findMeant 10 = .ok (.aload_n 0, 1) := by decide +kernel
theorem dX3_findMeant_11 : decode cX3_findMeant 11 = .ok (.getfield 47, 3) := by decide +kernel
theorem dX3_findMeant_14 : decode cX3_findMeant 14 = .ok (.getfield 72, 3) := by decide +kernel
theorem dX3_findMeant_17 : decode cX3_findMeant 17 = .ok (.aload_n 0, 1) := by decide +kernel
theorem dX3_findMeant_18 : decode cX3_findMeant 18 = .ok (.getfield 18, 3) := by decide +kernel
theorem dX3_findMeant_21 : decode cX3_findMeant 21 = .ok (.iload_n 2, 1) := by decide +kernel
theorem dX3_findMeant_22 : decode cX3_findMeant 22 = .ok (.iaload, 1) := by decide +kernel
theorem dX3_findMeant_23 : decode cX3_findMeant 23 = .ok (.iaload, 1) := by decide +kernel
theorem dX3_findMeant_24 : decode cX3_findMeant 24 = .ok (.iconst 3, 1) := by decide +kernel
theorem dX3_findMeant_25 : decode cX3_findMeant 25 = .ok (.if_icmp .ne 7, 3) := by decide +kernel
theorem dX3_findMeant_28 : decode cX3_findMeant 28 = .ok (.iload_n 1, 1) := by decide +kernel
theorem dX3_findMeant_29 : decode cX3_findMeant 29 = .ok (.goto 8, 3) := by decide +kernel
theorem dX3_findMeant_32 : decode cX3_findMeant 32 = .ok (.aload_n 0, 1) := by decide +kernel
theorem dX3_findMeant_33 : decode cX3_findMeant 33 = .ok (.iload_n 2, 1) := by decide +kernel
theorem dX3_findMeant_34 : decode cX3_findMeant 34 = .ok (.invokevirtual 94, 3) := by decide +kernel
theorem dX3_findMeant_37 : decode cX3_findMeant 37 = .ok (.istore_n 3, 1) := by decide +kernel
theorem dX3_findMeant_38 : decode cX3_findMeant 38 = .ok (.aload_n 0, 1) := by decide +kernel
theorem dX3_findMeant_39 : decode cX3_findMeant 39 = .ok (.getfield 24, 3) := by decide +kernel
theorem dX3_findMeant_42 : decode cX3_findMeant 42 = .ok (.iload_n 2, 1) := by decide +kernel
theorem dX3_findMeant_43 : decode cX3_findMeant 43 = .ok (.aload_n 0, 1) := by decide +kernel
theorem dX3_findMeant_44 : decode cX3_findMeant 44 = .ok (.getfield 43, 3) := by decide +kernel
theorem dX3_findMeant_47 : decode cX3_findMeant 47 = .ok (.iload_n 3, 1) := by decide +kernel
theorem dX3_findMeant_48 : decode cX3_findMeant 48 = .ok (.aload_n 0, 1) := by decide +kernel
theorem dX3_findMeant_49 : decode cX3_findMeant 49 = .ok (.getfield 47, 3) := by decide +kernel
theorem dX3_findMeant_52 : decode cX3_findMeant 52 = .ok (.aload_n 0, 1) := by decide +kernel
theorem dX3_findMeant_53 : decode cX3_findMeant 53 = .ok (.getfield 15, 3) := by decide +kernel
theorem dX3_findMeant_56 : decode cX3_findMeant 56 = .ok (.iload_n 2, 1) := by decide +kernel
theorem dX3_findMeant_57 : decode cX3_findMeant 57 = .ok (.iaload, 1) := by decide +kernel
theorem dX3_findMeant_58 : decode cX3_findMeant 58 = .ok (.invokevirtual 98, 3) := by decide +kernel
theorem dX3_findMeant_61 : decode cX3_findMeant 61 = .ok (.invokevirtual 101, 3) := by decide +kernel
theorem dX3_findMeant_64 : decode cX3_findMeant 64 = .ok (.iastore, 1) := by decide +kernel
theorem dX3_findMeant_65 : decode cX3_findMeant 65 = .ok (.iinc 2 1, 3) := by decide +kernel
theorem dX3_findMeant_68 : decode cX3_findMeant 68 = .ok (.goto (-66), 3) := by decide +kernel
theorem dX3_findMeant_71 : decode cX3_findMeant 71 = .ok (.return_, 1) := by decide +kernel
theorem dX3_thingsNamed_0 : decode cX3_thingsNamed 0 = .ok (.aload_n 0, 1) := by decide +kernel
theorem dX3_thingsNamed_1 : decode cX3_thingsNamed 1 = .ok (.getfield 21, 3) := by decide +kernel
theorem dX3_thingsNamed_4 : decode cX3_thingsNamed 4 = .ok (.iload_n 1, 1) := by decide +kernel
theorem dX3_thingsNamed_5 : decode cX3_thingsNamed 5 = .ok (.iaload, 1) := by decide +kernel
theorem dX3_thingsNamed_6 : decode cX3_thingsNamed 6 = .ok (.iconst (-1), 1) := by decide +kernel
theorem dX3_thingsNamed_7 : decode cX3_thingsNamed 7 = .ok (.if_icmp .ne 18, 3) := by decide +kernel
theorem dX3_thingsNamed_10 : decode cX3_thingsNamed 10 = .ok (.aload_n 0, 1) := by decide +kernel
theorem dX3_thingsNamed_11 : decode cX3_thingsNamed 11 = .ok (.getfield 43, 3) := by decide +kernel
theorem dX3_thingsNamed_14 : decode cX3_thingsNamed 14 = .ok (.getfield 107, 3) := by decide +kernel
theorem dX3_thingsNamed_17 : decode cX3_thingsNamed 17 = .ok (.aload_n 0, 1) := by decide +kernel
theorem dX3_thingsNamed_18 : decode cX3_thingsNamed 18 = .ok (.getfield 55, 3) := by decide +kernel
theorem dX3_thingsNamed_21 : decode cX3_thingsNamed 21 = .ok (.iaload, 1) := by decide +kernel
theorem dX3_thingsNamed_22 : decode cX3_thingsNamed 22 = .ok (.goto 16, 3) := by decide +kernel
theorem dX3_thingsNamed_25 : decode cX3_thingsNamed 25 = .ok (.aload_n 0, 1) := by decide +kernel
theorem dX3_thingsNamed_26 : decode cX3_thingsNamed 26 = .ok (.getfield 47, 3) := by decide +kernel
theorem dX3_thingsNamed_29 : decode cX3_thingsNamed 29 = .ok (.aload_n 0, 1) := by decide +kernel
theorem dX3_thingsNamed_30 : decode cX3_thingsNamed 30 = .ok (.getfield 21, 3) := by decide +kernel
theorem dX3_thingsNamed_33 : decode cX3_thingsNamed 33 = .ok (.iload_n 1, 1) := by decide +kernel
theorem dX3_thingsNamed_34 : decode cX3_thingsNamed 34 = .ok (.iaload, 1) := by decide +kernel
theorem dX3_thingsNamed_35 : decode cX3_thingsNamed 35 = .ok (.invokevirtual 98, 3) := by decide +kernel
theorem dX3_thingsNamed_38 : decode cX3_thingsNamed 38 = .ok (.istore_n 2, 1) := by decide +kernel
theorem dX3_thingsNamed_39 : decode cX3_thingsNamed 39 = .ok (.aload_n 0, 1) := by decide +kernel
theorem dX3_thingsNamed_40 : decode cX3_thingsNamed 40 = .ok (.getfield 43, 3) := by decide +kernel
theorem dX3_thingsNamed_43 : decode cX3_thingsNamed 43 = .ok (.aload_n 0, 1) := by decide +kernel
theorem dX3_thingsNamed_44 : decode cX3_thingsNamed 44 = .ok (.getfield 47, 3) := by decide +kernel
theorem dX3_thingsNamed_47 : decode cX3_thingsNamed 47 = .ok (.aload_n 0, 1) := by decide +kernel
theorem dX3_thingsNamed_48 : decode cX3_thingsNamed 48 = .ok (.getfield 18, 3) := by decide +kernel
theorem dX3_thingsNamed_51 : decode cX3_thingsNamed 51 = .ok (.iload_n 1, 1) := by decide +kernel
theorem dX3_thingsNamed_52 : decode cX3_thingsNamed 52 = .ok (.iaload, 1) := by decide +kernel
theorem dX3_thingsNamed_53 : decode cX3_thingsNamed 53 = .ok (.invokevirtual 98, 3) := by decide +kernel
theorem dX3_thingsNamed_56 : decode cX3_thingsNamed 56 = .ok (.iload_n 2, 1) := by decide +kernel
theorem dX3_thingsNamed_57 : decode cX3_thingsNamed 57 = .ok (.invokevirtual 110, 3) := by decide +kernel
theorem dX3_thingsNamed_60 : decode cX3_thingsNamed 60 = .ok (.ireturn, 1) := by decide +kernel
theorem dX3_findOpen_0 : decode cX3_findOpen 0 = .ok (.iconst 0, 1) := by decide +kernel
theorem dX3_findOpen_1 : decode cX3_findOpen 1 = .ok (.istore_n 2, 1) := by decide +kernel
theorem dX3_findOpen_2 : decode cX3_findOpen 2 = .ok (.iconst 0, 1) := by decide +kernel
theorem dX3_findOpen_3 : decode cX3_findOpen 3 = .ok (.istore_n 3, 1) := by decide +kernel
theorem dX3_findOpen_4 : decode cX3_findOpen 4 = .ok (.iconst 0, 1) := by decide +kernel
theorem dX3_findOpen_5 : decode cX3_findOpen 5 = .ok (.istore 4, 2) := by decide +kernel
theorem dX3_findOpen_7 : decode cX3_findOpen 7 = .ok (.iload 4, 2) := by decide +kernel
theorem dX3_findOpen_9 : decode cX3_findOpen 9 = .ok (.aload_n 0, 1) := by decide +kernel
theorem dX3_findOpen_10 : decode cX3_findOpen 10 = .ok (.getfield 62, 3) := by decide +kernel
theorem dX3_findOpen_13 : decode cX3_findOpen 13 = .ok (.if_icmp .ge 68, 3) := by decide +kernel
theorem dX3_findOpen_16 : decode cX3_findOpen 16 = .ok (.iload_n 2, 1) := by decide +kernel
theorem dX3_findOpen_17 : decode cX3_findOpen 17 = .ok (.ifCond .ne 25, 3) := by decide +kernel
theorem dX3_findOpen_20 : decode cX3_findOpen 20 = .ok (.aload_n 0, 1) := by decide +kernel
theorem dX3_findOpen_21 : decode cX3_findOpen 21 = .ok (.getfield 24, 3) := by decide +kernel
theorem dX3_findOpen_24 : decode cX3_findOpen 24 = .ok (.iload 4, 2) := by decide +kernel
theorem dX3_findOpen_26 : decode cX3_findOpen 26 = .ok (.iaload, 1) := by decide +kernel
theorem dX3_findOpen_27 : decode cX3_findOpen 27 = .ok (.ifCond .eq 15, 3) := by decide +kernel
theorem dX3_findOpen_30 : decode cX3_findOpen 30 = .ok (.iconst 1, 1) := by decide +kernel
theorem dX3_findOpen_31 : decode cX3_findOpen 31 = .ok (.istore_n 2, 1) := by decide +kernel
theorem dX3_findOpen_32 : decode cX3_findOpen 32 = .ok (.aload_n 0, 1) := by decide +kernel
theorem dX3_findOpen_33 : decode cX3_findOpen 33 = .ok (.getfield 9, 3) := by decide +kernel
theorem dX3_findOpen_36 : decode cX3_findOpen 36 = .ok (.iload 4, 2) := by decide +kernel
theorem dX3_findOpen_38 : decode cX3_findOpen 38 = .ok (.iaload, 1) := by decide +kernel
theorem dX3_findOpen_39 : decode cX3_findOpen 39 = .ok (.iload_n 1, 1) := by decide +kernel
theorem dX3_findOpen_40 : decode cX3_findOpen 40 = .ok (.iadd, 1) := by decide +kernel
theorem dX3_findOpen_41 : decode cX3_findOpen 41 = .ok (.istore_n 3, 1) := by decide +kernel
theorem dX3_findOpen_42 : decode cX3_findOpen 42 = .ok (.aload_n 0, 1) := by decide +kernel
theorem dX3_findOpen_43 : decode cX3_findOpen 43 = .ok (.getfield 27, 3) := by decide +kernel
theorem dX3_findOpen_46 : decode cX3_findOpen 46 = .ok (.iload 4, 2) := by decide +kernel
theorem dX3_findOpen_48 : decode cX3_findOpen 48 = .ok (.aload_n 0, 1) := by decide +kernel
theorem dX3_findOpen_49 : decode cX3_findOpen 49 = .ok (.getfield 24, 3) := by decide +kernel
theorem dX3_findOpen_52 : decode cX3_findOpen 52 = .ok (.iload 4, 2) := by decide +kernel
theorem dX3_findOpen_54 : decode cX3_findOpen 54 = .ok (.iaload, 1) := by decide +kernel
theorem dX3_findOpen_55 : decode cX3_findOpen 55 = .ok (.ifCond .eq 18, 3) := by decide +kernel
theorem dX3_findOpen_58 : decode cX3_findOpen 58 = .ok (.aload_n 0, 1) := by decide +kernel
theorem dX3_findOpen_59 : decode cX3_findOpen 59 = .ok (.getfield 9, 3) := by decide +kernel
theorem dX3_findOpen_62 : decode cX3_findOpen 62 = .ok (.iload 4, 2) := by decide +kernel
theorem dX3_findOpen_64 : decode cX3_findOpen 64 = .ok (.iaload, 1) := by decide +kernel
theorem dX3_findOpen_65 : decode cX3_findOpen 65 = .ok (.iload_n 3, 1) := by decide +kernel
theorem dX3_findOpen_66 : decode cX3_findOpen 66 = .ok (.if_icmp .gt 7, 3) := by decide +kernel
theorem dX3_findOpen_69 : decode cX3_findOpen 69 = .ok (.iconst 1, 1) := by decide +kernel
theorem dX3_findOpen_70 : decode cX3_findOpen 70 = .ok (.goto 4, 3) := by decide +kernel
theorem dX3_findOpen_73 : decode cX3_findOpen 73 = .ok (.iconst 0, 1) := by decide +kernel
theorem dX3_findOpen_74 : decode cX3_findOpen 74 = .ok (.bastore, 1) := by decide +kernel
theorem dX3_findOpen_75 : decode cX3_findOpen 75 = .ok (.iinc 4 1, 3) := by decide +kernel
theorem dX3_findOpen_78 : decode cX3_findOpen 78 = .ok (.goto (-71), 3) := by decide +kernel
theorem dX3_findOpen_81 : decode cX3_findOpen 81 = .ok (.return_, 1) := by decide +kernel
theorem dX3_tell_0 : decode cX3_tell 0 = .ok (.aload_n 0, 1) := by decide +kernel
theorem dX3_tell_1 : decode cX3_tell 1 = .ok (.getfield 51, 3) := by decide +kernel
theorem dX3_tell_4 : decode cX3_tell 4 = .ok (.ifCond .eq 11, 3) := by decide +kernel
theorem dX3_tell_7 : decode cX3_tell 7 = .ok (.iload_n 1, 1) := by decide +kernel
theorem dX3_tell_8 : decode cX3_tell 8 = .ok (.aload_n 0, 1) := by decide +kernel
theorem dX3_tell_9 : decode cX3_tell 9 = .ok (.getfield 62, 3) := by decide +kernel
theorem dX3_tell_12 : decode cX3_tell 12 = .ok (.if_icmp .lt 6, 3) := by decide +kernel
theorem dX3_tell_15 : decode cX3_tell 15 = .ok (.bipush (-4), 2) := by decide +kernel
theorem dX3_tell_17 : decode cX3_tell 17 = .ok (.ireturn, 1) := by decide +kernel
theorem dX3_tell_18 : decode cX3_tell 18 = .ok (.iload_n 2, 1) := by decide +kernel
theorem dX3_tell_19 : decode cX3_tell 19 = .ok (.tableswitch 72 0 3 #[29, 36, 43, 50], 29) := by decide +kernel
theorem dX3_tell_48 : decode cX3_tell 48 = .ok (.aload_n 0, 1) := by decide +kernel
theorem dX3_tell_49 : decode cX3_tell 49 = .ok (.getfield 9, 3) := by decide +kernel
theorem dX3_tell_52 : decode cX3_tell 52 = .ok (.iload_n 1, 1) := by decide +kernel
theorem dX3_tell_53 : decode cX3_tell 53 = .ok (.iaload, 1) := by decide +kernel
theorem dX3_tell_54 : decode cX3_tell 54 = .ok (.ireturn, 1) := by decide +kernel
theorem dX3_tell_55 : decode cX3_tell 55 = .ok (.aload_n 0, 1) := by decide +kernel
theorem dX3_tell_56 : decode cX3_tell 56 = .ok (.getfield 15, 3) := by decide +kernel
theorem dX3_tell_59 : decode cX3_tell 59 = .ok (.iload_n 1, 1) := by decide +kernel
theorem dX3_tell_60 : decode cX3_tell 60 = .ok (.iaload, 1) := by decide +kernel
theorem dX3_tell_61 : decode cX3_tell 61 = .ok (.ireturn, 1) := by decide +kernel
theorem dX3_tell_62 : decode cX3_tell 62 = .ok (.aload_n 0, 1) := by decide +kernel
theorem dX3_tell_63 : decode cX3_tell 63 = .ok (.getfield 18, 3) := by decide +kernel
theorem dX3_tell_66 : decode cX3_tell 66 = .ok (.iload_n 1, 1) := by decide +kernel
theorem dX3_tell_67 : decode cX3_tell 67 = .ok (.iaload, 1) := by decide +kernel
theorem dX3_tell_68 : decode cX3_tell 68 = .ok (.ireturn, 1) := by decide +kernel
theorem dX3_tell_69 : decode cX3_tell 69 = .ok (.aload_n 0, 1) := by decide +kernel
theorem dX3_tell_70 : decode cX3_tell 70 = .ok (.getfield 21, 3) := by decide +kernel
theorem dX3_tell_73 : decode cX3_tell 73 = .ok (.iload_n 1, 1) := by decide +kernel
theorem dX3_tell_74 : decode cX3_tell 74 = .ok (.iaload, 1) := by decide +kernel
theorem dX3_tell_75 : decode cX3_tell 75 = .ok (.iconst (-1), 1) := by decide +kernel
theorem dX3_tell_76 : decode cX3_tell 76 = .ok (.if_icmp .ne 8, 3) := by decide +kernel
theorem dX3_tell_79 : decode cX3_tell 79 = .ok (.bipush (-4), 2) := by decide +kernel
theorem dX3_tell_81 : decode cX3_tell 81 = .ok (.goto 9, 3) := by decide +kernel
theorem dX3_tell_84 : decode cX3_tell 84 = .ok (.aload_n 0, 1) := by decide +kernel
theorem dX3_tell_85 : decode cX3_tell 85 = .ok (.getfield 21, 3) := by decide +kernel
theorem dX3_tell_88 : decode cX3_tell 88 = .ok (.iload_n 1, 1) := by decide +kernel
theorem dX3_tell_89 : decode cX3_tell 89 = .ok (.iaload, 1) := by decide +kernel
theorem dX3_tell_90 : decode cX3_tell 90 = .ok (.ireturn, 1) := by decide +kernel
theorem dX3_tell_91 : decode cX3_tell 91 = .ok (.aload_n 0, 1) := by decide +kernel
theorem dX3_tell_92 : decode cX3_tell 92 = .ok (.getfield 24, 3) := by decide +kernel
theorem dX3_tell_95 : decode cX3_tell 95 = .ok (.iload_n 1, 1) := by decide +kernel
theorem dX3_tell_96 : decode cX3_tell 96 = .ok (.iaload, 1) := by decide +kernel
theorem dX3_tell_97 : decode cX3_tell 97 = .ok (.ireturn, 1) := by decide +kernel
theorem dX3_unlike_0 : decode cX3_unlike 0 = .ok (.iconst 0, 1) := by decide +kernel
theorem dX3_unlike_1 : decode cX3_unlike 1 = .ok (.istore_n 1, 1) := by decide +kernel
theorem dX3_unlike_2 : decode cX3_unlike 2 = .ok (.iconst 0, 1) := by decide +kernel
theorem dX3_unlike_3 : decode cX3_unlike 3 = .ok (.istore_n 2, 1) := by decide +kernel
theorem dX3_unlike_4 : decode cX3_unlike 4 = .ok (.iload_n 2, 1) := by decide +kernel
theorem dX3_unlike_5 : decode cX3_unlike 5 = .ok (.aload_n 0, 1) := by decide +kernel
theorem dX3_unlike_6 : decode cX3_unlike 6 = .ok (.getfield 62, 3) := by decide +kernel
theorem dX3_unlike_9 : decode cX3_unlike 9 = .ok (.if_icmp .ge 29, 3) := by decide +kernel
theorem dX3_unlike_12 : decode cX3_unlike 12 = .ok (.aload_n 0, 1) := by decide +kernel
theorem dX3_unlike_13 : decode cX3_unlike 13 = .ok (.getfield 27, 3) := by decide +kernel
theorem dX3_unlike_16 : decode cX3_unlike 16 = .ok (.iload_n 2, 1) := by decide +kernel
theorem dX3_unlike_17 : decode cX3_unlike 17 = .ok (.baload, 1) := by decide +kernel
theorem dX3_unlike_18 : decode cX3_unlike 18 = .ok (.ifCond .eq 14, 3) := by decide +kernel
theorem dX3_unlike_21 : decode cX3_unlike 21 = .ok (.aload_n 0, 1) := by decide +kernel
theorem dX3_unlike_22 : decode cX3_unlike 22 = .ok (.iload_n 2, 1) := by decide +kernel
theorem dX3_unlike_23 : decode cX3_unlike 23 = .ok (.invokevirtual 113, 3) := by decide +kernel
theorem dX3_unlike_26 : decode cX3_unlike 26 = .ok (.ifCond .eq 6, 3) := by decide +kernel
theorem dX3_unlike_29 : decode cX3_unlike 29 = .ok (.iinc 1 1, 3) := by decide +kernel
theorem dX3_unlike_32 : decode cX3_unlike 32 = .ok (.iinc 2 1, 3) := by decide +kernel
theorem dX3_unlike_35 : decode cX3_unlike 35 = .ok (.goto (-31), 3) := by decide +kernel
theorem dX3_unlike_38 : decode cX3_unlike 38 = .ok (.iload_n 1, 1) := by decide +kernel
theorem dX3_unlike_39 : decode cX3_unlike 39 = .ok (.ireturn, 1) := by decide +kernel
theorem dX3_isFirstToDoSo_0 : decode cX3_isFirstToDoSo 0 = .ok (.aload_n 0, 1) := by decide +kernel
theorem dX3_isFirstToDoSo_1 : decode cX3_isFirstToDoSo 1 = .ok (.iload_n 1, 1) := by decide +kernel
theorem dX3_isFirstToDoSo_2 : decode cX3_isFirstToDoSo 2 = .ok (.invokevirtual 117, 3) := by decide +kernel
theorem dX3_isFirstToDoSo_5 : decode cX3_isFirstToDoSo 5 = .ok (.istore_n 2, 1) := by decide +kernel
theorem dX3_isFirstToDoSo_6 : decode cX3_isFirstToDoSo 6 = .ok (.iconst 0, 1) := by decide +kernel
theorem dX3_isFirstToDoSo_7 : decode cX3_isFirstToDoSo 7 = .ok (.istore_n 3, 1) := by decide +kernel
theorem dX3_isFirstToDoSo_8 : decode cX3_isFirstToDoSo 8 = .ok (.iload_n 3, 1) := by decide +kernel
theorem dX3_isFirstToDoSo_9 : decode cX3_isFirstToDoSo 9 = .ok (.iload_n 1, 1) := by decide +kernel
theorem dX3_isFirstToDoSo_10 : decode cX3_isFirstToDoSo 10 = .ok (.if_icmp .ge 29, 3) := by decide +kernel
theorem dX3_isFirstToDoSo_13 : decode cX3_isFirstToDoSo 13 = .ok (.aload_n 0, 1) := by decide +kernel
theorem dX3_isFirstToDoSo_14 : decode cX3_isFirstToDoSo 14 = .ok (.getfield 27, 3) := by decide +kernel
theorem dX3_isFirstToDoSo_17 : decode cX3_isFirstToDoSo 17 = .ok (.iload_n 3, 1) := by decide +kernel
theorem dX3_isFirstToDoSo_18 : decode cX3_isFirstToDoSo 18 = .ok (.baload, 1) := by decide +kernel
theorem dX3_isFirstToDoSo_19 : decode cX3_isFirstToDoSo 19 = .ok (.ifCond .eq 14, 3) := by decide +kernel
theorem dX3_isFirstToDoSo_22 : decode cX3_isFirstToDoSo 22 = .ok (.aload_n 0, 1) := by decide +kernel
theorem dX3_isFirstToDoSo_23 : decode cX3_isFirstToDoSo 23 = .ok (.iload_n 3, 1) := by decide +kernel
theorem dX3_isFirstToDoSo_24 : decode cX3_isFirstToDoSo 24 = .ok (.invokevirtual 117, 3) := by decide +kernel
theorem dX3_isFirstToDoSo_27 : decode cX3_isFirstToDoSo 27 = .ok (.iload_n 2, 1) := by decide +kernel
theorem dX3_isFirstToDoSo_28 : decode cX3_isFirstToDoSo 28 = .ok (.if_icmp .ne 5, 3) := by decide +kernel
theorem dX3_isFirstToDoSo_31 : decode cX3_isFirstToDoSo 31 = .ok (.iconst 0, 1) := by decide +kernel
theorem dX3_isFirstToDoSo_32 : decode cX3_isFirstToDoSo 32 = .ok (.ireturn, 1) := by decide +kernel
theorem dX3_isFirstToDoSo_33 : decode cX3_isFirstToDoSo 33 = .ok (.iinc 3 1, 3) := by decide +kernel
theorem dX3_isFirstToDoSo_36 : decode cX3_isFirstToDoSo 36 = .ok (.goto (-28), 3) := by decide +kernel
theorem dX3_isFirstToDoSo_39 : decode cX3_isFirstToDoSo 39 = .ok (.iconst 1, 1) := by decide +kernel
theorem dX3_isFirstToDoSo_40 : decode cX3_isFirstToDoSo 40 = .ok (.ireturn, 1) := by decide +kernel
theorem dX3_statesBy_0 : decode cX3_statesBy 0 = .ok (.aload_n 0, 1) := by decide +kernel
theorem dX3_statesBy_1 : decode cX3_statesBy 1 = .ok (.getfield 43, 3) := by decide +kernel
theorem dX3_statesBy_4 : decode cX3_statesBy 4 = .ok (.getfield 120, 3) := by decide +kernel
theorem dX3_statesBy_7 : decode cX3_statesBy 7 = .ok (.aload_n 0, 1) := by decide +kernel
theorem dX3_statesBy_8 : decode cX3_statesBy 8 = .ok (.getfield 24, 3) := by decide +kernel
theorem dX3_statesBy_11 : decode cX3_statesBy 11 = .ok (.iload_n 1, 1) := by decide +kernel
theorem dX3_statesBy_12 : decode cX3_statesBy 12 = .ok (.iaload, 1) := by decide +kernel
theorem dX3_statesBy_13 : decode cX3_statesBy 13 = .ok (.aload_n 0, 1) := by decide +kernel
theorem dX3_statesBy_14 : decode cX3_statesBy 14 = .ok (.getfield 47, 3) := by decide +kernel
theorem dX3_statesBy_17 : decode cX3_statesBy 17 = .ok (.aload_n 0, 1) := by decide +kernel
theorem dX3_statesBy_18 : decode cX3_statesBy 18 = .ok (.getfield 15, 3) := by decide +kernel
theorem dX3_statesBy_21 : decode cX3_statesBy 21 = .ok (.iload_n 1, 1) := by decide +kernel
theorem dX3_statesBy_22 : decode cX3_statesBy 22 = .ok (.iaload, 1) := by decide +kernel
theorem dX3_statesBy_23 : decode cX3_statesBy 23 = .ok (.invokevirtual 98, 3) := by decide +kernel
theorem dX3_statesBy_26 : decode cX3_statesBy 26 = .ok (.invokestatic 123, 3) := by decide +kernel
theorem dX3_statesBy_29 : decode cX3_statesBy 29 = .ok (.ireturn, 1) := by decide +kernel
theorem dX3_taken_0 : decode cX3_taken 0 = .ok (.aload_n 0, 1) := by decide +kernel
theorem dX3_taken_1 : decode cX3_taken 1 = .ok (.getfield 51, 3) := by decide +kernel
theorem dX3_taken_4 : decode cX3_taken 4 = .ok (.ifCond .eq 11, 3) := by decide +kernel
theorem dX3_taken_7 : decode cX3_taken 7 = .ok (.aload_n 0, 1) := by decide +kernel
theorem dX3_taken_8 : decode cX3_taken 8 = .ok (.invokevirtual 127, 3) := by decide +kernel
theorem dX3_taken_11 : decode cX3_taken 11 = .ok (.iconst 1, 1) := by decide +kernel
theorem dX3_taken_12 : decode cX3_taken 12 = .ok (.if_icmp .eq 5, 3) := by decide +kernel
theorem dX3_taken_15 : decode cX3_taken 15 = .ok (.iconst (-1), 1) := by decide +kernel
theorem dX3_taken_16 : decode cX3_taken 16 = .ok (.ireturn, 1) := by decide +kernel
theorem dX3_taken_17 : decode cX3_taken 17 = .ok (.iconst 0, 1) := by decide +kernel
theorem dX3_taken_18 : decode cX3_taken 18 = .ok (.istore_n 1, 1) := by decide +kernel
theorem dX3_taken_19 : decode cX3_taken 19 = .ok (.iload_n 1, 1) := by decide +kernel
theorem dX3_taken_20 : decode cX3_taken 20 = .ok (.aload_n 0, 1) := by decide +kernel
theorem dX3_taken_21 : decode cX3_taken 21 = .ok (.getfield 62, 3) := by decide +kernel
theorem dX3_taken_24 : decode cX3_taken 24 = .ok (.if_icmp .ge 20, 3) := by decide +kernel
theorem dX3_taken_27 : decode cX3_taken 27 = .ok (.aload_n 0, 1) := by decide +kernel
theorem dX3_taken_28 : decode cX3_taken 28 = .ok (.getfield 27, 3) := by decide +kernel
theorem dX3_taken_31 : decode cX3_taken 31 = .ok (.iload_n 1, 1) := by decide +kernel
theorem dX3_taken_32 : decode cX3_taken 32 = .ok (.baload, 1) := by decide +kernel
theorem dX3_taken_33 : decode cX3_taken 33 = .ok (.ifCond .eq 5, 3) := by decide +kernel
theorem dX3_taken_36 : decode cX3_taken 36 = .ok (.iload_n 1, 1) := by decide +kernel
theorem dX3_taken_37 : decode cX3_taken 37 = .ok (.ireturn, 1) := by decide +kernel
theorem dX3_taken_38 : decode cX3_taken 38 = .ok (.iinc 1 1, 3) := by decide +kernel
theorem dX3_taken_41 : decode cX3_taken 41 = .ok (.goto (-22), 3) := by decide +kernel
theorem dX3_taken_44 : decode cX3_taken 44 = .ok (.iconst (-1), 1) := by decide +kernel
theorem dX3_taken_45 : decode cX3_taken 45 = .ok (.ireturn, 1) := by decide +kernel
theorem dX3_partToAsk_0 : decode cX3_partToAsk 0 = .ok (.iconst 0, 1) := by decide +kernel
theorem dX3_partToAsk_1 : decode cX3_partToAsk 1 = .ok (.istore_n 1, 1) := by decide +kernel
theorem dX3_partToAsk_2 : decode cX3_partToAsk 2 = .ok (.iconst 1, 1) := by decide +kernel
theorem dX3_partToAsk_3 : decode cX3_partToAsk 3 = .ok (.istore_n 2, 1) := by decide +kernel
theorem dX3_partToAsk_4 : decode cX3_partToAsk 4 = .ok (.iload_n 2, 1) := by decide +kernel
theorem dX3_partToAsk_5 : decode cX3_partToAsk 5 = .ok (.iconst 3, 1) := by decide +kernel
theorem dX3_partToAsk_6 : decode cX3_partToAsk 6 = .ok (.if_icmp .ge 24, 3) := by decide +kernel
theorem dX3_partToAsk_9 : decode cX3_partToAsk 9 = .ok (.aload_n 0, 1) := by decide +kernel
theorem dX3_partToAsk_10 : decode cX3_partToAsk 10 = .ok (.iload_n 2, 1) := by decide +kernel
theorem dX3_partToAsk_11 : decode cX3_partToAsk 11 = .ok (.invokevirtual 131, 3) := by decide +kernel
theorem dX3_partToAsk_14 : decode cX3_partToAsk 14 = .ok (.aload_n 0, 1) := by decide +kernel
theorem dX3_partToAsk_15 : decode cX3_partToAsk 15 = .ok (.iload_n 1, 1) := by decide +kernel
theorem dX3_partToAsk_16 : decode cX3_partToAsk 16 = .ok (.invokevirtual 131, 3) := by decide +kernel
theorem dX3_partToAsk_19 : decode cX3_partToAsk 19 = .ok (.if_icmp .ge 5, 3) := by decide +kernel
theorem dX3_partToAsk_22 : decode cX3_partToAsk 22 = .ok (.iload_n 2, 1) := by decide +kernel
theorem dX3_partToAsk_23 : decode cX3_partToAsk 23 = .ok (.istore_n 1, 1) := by decide +kernel
theorem dX3_partToAsk_24 : decode cX3_partToAsk 24 = .ok (.iinc 2 1, 3) := by decide +kernel
theorem dX3_partToAsk_27 : decode cX3_partToAsk 27 = .ok (.goto (-23), 3) := by decide +kernel
theorem dX3_partToAsk_30 : decode cX3_partToAsk 30 = .ok (.iload_n 1, 1) := by decide +kernel
theorem dX3_partToAsk_31 : decode cX3_partToAsk 31 = .ok (.ireturn, 1) := by decide +kernel
theorem dX3_greatestWithOneAnswer_0 : decode cX3_greatestWithOneAnswer 0 = .ok (.iconst 0, 1) := by decide +kernel
theorem dX3_greatestWithOneAnswer_1 : decode cX3_greatestWithOneAnswer 1 = .ok (.istore_n 2, 1) := by decide +kernel
theorem dX3_greatestWithOneAnswer_2 : decode cX3_greatestWithOneAnswer 2 = .ok (.iconst 0, 1) := by decide +kernel
theorem dX3_greatestWithOneAnswer_3 : decode cX3_greatestWithOneAnswer 3 = .ok (.istore_n 3, 1) := by decide +kernel
theorem dX3_greatestWithOneAnswer_4 : decode cX3_greatestWithOneAnswer 4 = .ok (.iload_n 3, 1) := by decide +kernel
theorem dX3_greatestWithOneAnswer_5 : decode cX3_greatestWithOneAnswer 5 = .ok (.aload_n 0, 1) := by decide +kernel
theorem dX3_greatestWithOneAnswer_6 : decode cX3_greatestWithOneAnswer 6 = .ok (.getfield 62, 3) := by decide +kernel
theorem dX3_greatestWithOneAnswer_9 : decode cX3_greatestWithOneAnswer 9 = .ok (.if_icmp .ge 34, 3) := by decide +kernel
theorem dX3_greatestWithOneAnswer_12 : decode cX3_greatestWithOneAnswer 12 = .ok (.aload_n 0, 1) := by decide +kernel
theorem dX3_greatestWithOneAnswer_13 : decode cX3_greatestWithOneAnswer 13 = .ok (.getfield 27, 3) := by decide +kernel
theorem dX3_greatestWithOneAnswer_16 : decode cX3_greatestWithOneAnswer 16 = .ok (.iload_n 3, 1) := by decide +kernel
theorem dX3_greatestWithOneAnswer_17 : decode cX3_greatestWithOneAnswer 17 = .ok (.baload, 1) := by decide +kernel
theorem dX3_greatestWithOneAnswer_18 : decode cX3_greatestWithOneAnswer 18 = .ok (.ifCond .eq 19, 3) := by decide +kernel
theorem dX3_greatestWithOneAnswer_21 : decode cX3_greatestWithOneAnswer 21 = .ok (.iload_n 2, 1) := by decide +kernel
theorem dX3_greatestWithOneAnswer_22 : decode cX3_greatestWithOneAnswer 22 = .ok (.aload_n 0, 1) := by decide +kernel
theorem dX3_greatestWithOneAnswer_23 : decode cX3_greatestWithOneAnswer 23 = .ok (.iload_n 1, 1) := by decide +kernel
theorem dX3_greatestWithOneAnswer_24 : decode cX3_greatestWithOneAnswer 24 = .ok (.aload_n 0, 1) := by decide +kernel
theorem dX3_greatestWithOneAnswer_25 : decode cX3_greatestWithOneAnswer 25 = .ok (.iload_n 3, 1) := by decide +kernel
theorem dX3_greatestWithOneAnswer_26 : decode cX3_greatestWithOneAnswer 26 = .ok (.iload_n 1, 1) := by decide +kernel
theorem dX3_greatestWithOneAnswer_27 : decode cX3_greatestWithOneAnswer 27 = .ok (.invokevirtual 134, 3) := by decide +kernel
theorem dX3_greatestWithOneAnswer_30 : decode cX3_greatestWithOneAnswer 30 = .ok (.invokevirtual 137, 3) := by decide +kernel
theorem dX3_greatestWithOneAnswer_33 : decode cX3_greatestWithOneAnswer 33 = .ok (.invokestatic 140, 3) := by decide +kernel
theorem dX3_greatestWithOneAnswer_36 : decode cX3_greatestWithOneAnswer 36 = .ok (.istore_n 2, 1) := by decide +kernel
theorem dX3_greatestWithOneAnswer_37 : decode cX3_greatestWithOneAnswer 37 = .ok (.iinc 3 1, 3) := by decide +kernel
theorem dX3_greatestWithOneAnswer_40 : decode cX3_greatestWithOneAnswer 40 = .ok (.goto (-36), 3) := by decide +kernel
theorem dX3_greatestWithOneAnswer_43 : decode cX3_greatestWithOneAnswer 43 = .ok (.iload_n 2, 1) := by decide +kernel
theorem dX3_greatestWithOneAnswer_44 : decode cX3_greatestWithOneAnswer 44 = .ok (.ireturn, 1) := by decide +kernel
theorem dX3_openWith_0 : decode cX3_openWith 0 = .ok (.iconst 0, 1) := by decide +kernel
theorem dX3_openWith_1 : decode cX3_openWith 1 = .ok (.istore_n 3, 1) := by decide +kernel
theorem dX3_openWith_2 : decode cX3_openWith 2 = .ok (.iconst 0, 1) := by decide +kernel
theorem dX3_openWith_3 : decode cX3_openWith 3 = .ok (.istore 4, 2) := by decide +kernel
theorem dX3_openWith_5 : decode cX3_openWith 5 = .ok (.iload 4, 2) := by decide +kernel
theorem dX3_openWith_7 : decode cX3_openWith 7 = .ok (.aload_n 0, 1) := by decide +kernel
theorem dX3_openWith_8 : decode cX3_openWith 8 = .ok (.getfield 62, 3) := by decide +kernel
theorem dX3_openWith_11 : decode cX3_openWith 11 = .ok (.if_icmp .ge 33, 3) := by decide +kernel
theorem dX3_openWith_14 : decode cX3_openWith 14 = .ok (.aload_n 0, 1) := by decide +kernel
theorem dX3_openWith_15 : decode cX3_openWith 15 = .ok (.getfield 27, 3) := by decide +kernel
theorem dX3_openWith_18 : decode cX3_openWith 18 = .ok (.iload 4, 2) := by decide +kernel
theorem dX3_openWith_20 : decode cX3_openWith 20 = .ok (.baload, 1) := by decide +kernel
theorem dX3_openWith_21 : decode cX3_openWith 21 = .ok (.ifCond .eq 17, 3) := by decide +kernel
theorem dX3_openWith_24 : decode cX3_openWith 24 = .ok (.aload_n 0, 1) := by decide +kernel
theorem dX3_openWith_25 : decode cX3_openWith 25 = .ok (.iload 4, 2) := by decide +kernel
theorem dX3_openWith_27 : decode cX3_openWith 27 = .ok (.iload_n 1, 1) := by decide +kernel
theorem dX3_openWith_28 : decode cX3_openWith 28 = .ok (.invokevirtual 134, 3) := by decide +kernel
theorem dX3_openWith_31 : decode cX3_openWith 31 = .ok (.iload_n 2, 1) := by decide +kernel
theorem dX3_openWith_32 : decode cX3_openWith 32 = .ok (.if_icmp .ne 6, 3) := by decide +kernel
theorem dX3_openWith_35 : decode cX3_openWith 35 = .ok (.iinc 3 1, 3) := by decide +kernel
theorem dX3_openWith_38 : decode cX3_openWith 38 = .ok (.iinc 4 1, 3) := by decide +kernel
theorem dX3_openWith_41 : decode cX3_openWith 41 = .ok (.goto (-36), 3) := by decide +kernel
theorem dX3_openWith_44 : decode cX3_openWith 44 = .ok (.iload_n 3, 1) := by decide +kernel
theorem dX3_openWith_45 : decode cX3_openWith 45 = .ok (.ireturn, 1) := by decide +kernel
theorem dX3_wordAt_0 : decode cX3_wordAt 0 = .ok (.iload_n 2, 1) := by decide +kernel
theorem dX3_wordAt_1 : decode cX3_wordAt 1 = .ok (.lookupswitch 41 #[(0, 27), (1, 34)], 27) := by decide +kernel
theorem dX3_wordAt_28 : decode cX3_wordAt 28 = .ok (.aload_n 0, 1) := by decide +kernel
theorem dX3_wordAt_29 : decode cX3_wordAt 29 = .ok (.getfield 15, 3) := by decide +kernel
theorem dX3_wordAt_32 : decode cX3_wordAt 32 = .ok (.iload_n 1, 1) := by decide +kernel
theorem dX3_wordAt_33 : decode cX3_wordAt 33 = .ok (.iaload, 1) := by decide +kernel
theorem dX3_wordAt_34 : decode cX3_wordAt 34 = .ok (.ireturn, 1) := by decide +kernel
theorem dX3_wordAt_35 : decode cX3_wordAt 35 = .ok (.aload_n 0, 1) := by decide +kernel
theorem dX3_wordAt_36 : decode cX3_wordAt 36 = .ok (.getfield 18, 3) := by decide +kernel
theorem dX3_wordAt_39 : decode cX3_wordAt 39 = .ok (.iload_n 1, 1) := by decide +kernel
theorem dX3_wordAt_40 : decode cX3_wordAt 40 = .ok (.iaload, 1) := by decide +kernel
theorem dX3_wordAt_41 : decode cX3_wordAt 41 = .ok (.ireturn, 1) := by decide +kernel
theorem dX3_wordAt_42 : decode cX3_wordAt 42 = .ok (.aload_n 0, 1) := by decide +kernel
theorem dX3_wordAt_43 : decode cX3_wordAt 43 = .ok (.getfield 21, 3) := by decide +kernel
theorem dX3_wordAt_46 : decode cX3_wordAt 46 = .ok (.iload_n 1, 1) := by decide +kernel
theorem dX3_wordAt_47 : decode cX3_wordAt 47 = .ok (.iaload, 1) := by decide +kernel
theorem dX3_wordAt_48 : decode cX3_wordAt 48 = .ok (.ireturn, 1) := by decide +kernel
theorem dX3_keepOnly_0 : decode cX3_keepOnly 0 = .ok (.aload_n 0, 1) := by decide +kernel
theorem dX3_keepOnly_1 : decode cX3_keepOnly 1 = .ok (.getfield 51, 3) := by decide +kernel
theorem dX3_keepOnly_4 : decode cX3_keepOnly 4 = .ok (.ifCond .eq 12, 3) := by decide +kernel
theorem dX3_keepOnly_7 : decode cX3_keepOnly 7 = .ok (.aload_n 0, 1) := by decide +kernel
theorem dX3_keepOnly_8 : decode cX3_keepOnly 8 = .ok (.iload_n 1, 1) := by decide +kernel
theorem dX3_keepOnly_9 : decode cX3_keepOnly 9 = .ok (.iload_n 2, 1) := by decide +kernel
theorem dX3_keepOnly_10 : decode cX3_keepOnly 10 = .ok (.invokevirtual 137, 3) := by decide +kernel
theorem dX3_keepOnly_13 : decode cX3_keepOnly 13 = .ok (.goto 4, 3) := by decide +kernel
theorem dX3_keepOnly_16 : decode cX3_keepOnly 16 = .ok (.iconst 0, 1) := by decide +kernel
theorem dX3_keepOnly_17 : decode cX3_keepOnly 17 = .ok (.istore_n 3, 1) := by decide +kernel
theorem dX3_keepOnly_18 : decode cX3_keepOnly 18 = .ok (.iload_n 3, 1) := by decide +kernel
theorem dX3_keepOnly_19 : decode cX3_keepOnly 19 = .ok (.ifCond .ne 6, 3) := by decide +kernel
theorem dX3_keepOnly_22 : decode cX3_keepOnly 22 = .ok (.bipush (-2), 2) := by decide +kernel
theorem dX3_keepOnly_24 : decode cX3_keepOnly 24 = .ok (.ireturn, 1) := by decide +kernel
theorem dX3_keepOnly_25 : decode cX3_keepOnly 25 = .ok (.iconst 0, 1) := by decide +kernel
theorem dX3_keepOnly_26 : decode cX3_keepOnly 26 = .ok (.istore 4, 2) := by decide +kernel
theorem dX3_keepOnly_28 : decode cX3_keepOnly 28 = .ok (.iload 4, 2) := by decide +kernel
theorem dX3_keepOnly_30 : decode cX3_keepOnly 30 = .ok (.aload_n 0, 1) := by decide +kernel
theorem dX3_keepOnly_31 : decode cX3_keepOnly 31 = .ok (.getfield 62, 3) := by decide +kernel
theorem dX3_keepOnly_34 : decode cX3_keepOnly 34 = .ok (.if_icmp .ge 42, 3) := by decide +kernel
theorem dX3_keepOnly_37 : decode cX3_keepOnly 37 = .ok (.aload_n 0, 1) := by decide +kernel
theorem dX3_keepOnly_38 : decode cX3_keepOnly 38 = .ok (.getfield 27, 3) := by decide +kernel
theorem dX3_keepOnly_41 : decode cX3_keepOnly 41 = .ok (.iload 4, 2) := by decide +kernel
theorem dX3_keepOnly_43 : decode cX3_keepOnly 43 = .ok (.aload_n 0, 1) := by decide +kernel
theorem dX3_keepOnly_44 : decode cX3_keepOnly 44 = .ok (.getfield 27, 3) := by decide +kernel
theorem dX3_keepOnly_47 : decode cX3_keepOnly 47 = .ok (.iload 4, 2) := by decide +kernel
theorem dX3_keepOnly_49 : decode cX3_keepOnly 49 = .ok (.baload, 1) := by decide +kernel
theorem dX3_keepOnly_50 : decode cX3_keepOnly 50 = .ok (.ifCond .eq 18, 3) := by decide +kernel
theorem dX3_keepOnly_53 : decode cX3_keepOnly 53 = .ok (.aload_n 0, 1) := by decide +kernel
theorem dX3_keepOnly_54 : decode cX3_keepOnly 54 = .ok (.iload 4, 2) := by decide +kernel
theorem dX3_keepOnly_56 : decode cX3_keepOnly 56 = .ok (.iload_n 1, 1) := by decide +kernel
theorem dX3_keepOnly_57 : decode cX3_keepOnly 57 = .ok (.invokevirtual 134, 3) := by decide +kernel
theorem dX3_keepOnly_60 : decode cX3_keepOnly 60 = .ok (.iload_n 2, 1) := by decide +kernel
theorem dX3_keepOnly_61 : decode cX3_keepOnly 61 = .ok (.if_icmp .ne 7, 3) := by decide +kernel
theorem dX3_keepOnly_64 : decode cX3_keepOnly 64 = .ok (.iconst 1, 1) := by decide +kernel
theorem dX3_keepOnly_65 : decode cX3_keepOnly 65 = .ok (.goto 4, 3) := by decide +kernel
theorem dX3_keepOnly_68 : decode cX3_keepOnly 68 = .ok (.iconst 0, 1) := by decide +kernel
theorem dX3_keepOnly_69 : decode cX3_keepOnly 69 = .ok (.bastore, 1) := by decide +kernel
theorem dX3_keepOnly_70 : decode cX3_keepOnly 70 = .ok (.iinc 4 1, 3) := by decide +kernel
theorem dX3_keepOnly_73 : decode cX3_keepOnly 73 = .ok (.goto (-45), 3) := by decide +kernel
theorem dX3_keepOnly_76 : decode cX3_keepOnly 76 = .ok (.iload_n 3, 1) := by decide +kernel
theorem dX3_keepOnly_77 : decode cX3_keepOnly 77 = .ok (.ireturn, 1) := by decide +kernel
theorem dX4_init_0 : decode cX4_init 0 = .ok (.aload_n 0, 1) := by decide +kernel
theorem dX4_init_1 : decode cX4_init 1 = .ok (.invokespecial 3, 3) := by decide +kernel
theorem dX4_init_4 : decode cX4_init 4 = .ok (.aload_n 0, 1) := by decide +kernel
theorem dX4_init_5 : decode cX4_init 5 = .ok (.bipush 10, 2) := by decide +kernel
theorem dX4_init_7 : decode cX4_init 7 = .ok (.newarray .int, 2) := by decide +kernel
theorem dX4_init_9 : decode cX4_init 9 = .ok (.putfield 9, 3) := by decide +kernel
theorem dX4_init_12 : decode cX4_init 12 = .ok (.aload_n 0, 1) := by decide +kernel
theorem dX4_init_13 : decode cX4_init 13 = .ok (.bipush 10, 2) := by decide +kernel
theorem dX4_init_15 : decode cX4_init 15 = .ok (.newarray .int, 2) := by decide +kernel
theorem dX4_init_17 : decode cX4_init 17 = .ok (.putfield 15, 3) := by decide +kernel
theorem dX4_init_20 : decode cX4_init 20 = .ok (.aload_n 0, 1) := by decide +kernel
theorem dX4_init_21 : decode cX4_init 21 = .ok (.bipush 10, 2) := by decide +kernel
theorem dX4_init_23 : decode cX4_init 23 = .ok (.newarray .int, 2) := by decide +kernel
theorem dX4_init_25 : decode cX4_init 25 = .ok (.putfield 18, 3) := by decide +kernel
theorem dX4_init_28 : decode cX4_init 28 = .ok (.aload_n 0, 1) := by decide +kernel
theorem dX4_init_29 : decode cX4_init 29 = .ok (.bipush 10, 2) := by decide +kernel
theorem dX4_init_31 : decode cX4_init 31 = .ok (.newarray .int, 2) := by decide +kernel
theorem dX4_init_33 : decode cX4_init 33 = .ok (.putfield 21, 3) := by decide +kernel
theorem dX4_init_36 : decode cX4_init 36 = .ok (.aload_n 0, 1) := by decide +kernel
theorem dX4_init_37 : decode cX4_init 37 = .ok (.bipush 10, 2) := by decide +kernel
theorem dX4_init_39 : decode cX4_init 39 = .ok (.newarray .int, 2) := by decide +kernel
theorem dX4_init_41 : decode cX4_init 41 = .ok (.putfield 24, 3) := by decide +kernel
theorem dX4_init_44 : decode cX4_init 44 = .ok (.aload_n 0, 1) := by decide +kernel
theorem dX4_init_45 : decode cX4_init 45 = .ok (.bipush 6, 2) := by decide +kernel
theorem dX4_init_47 : decode cX4_init 47 = .ok (.newarray .int, 2) := by decide +kernel
theorem dX4_init_49 : decode cX4_init 49 = .ok (.putfield 27, 3) := by decide +kernel
theorem dX4_init_52 : decode cX4_init 52 = .ok (.aload_n 0, 1) := by decide +kernel
theorem dX4_init_53 : decode cX4_init 53 = .ok (.iconst 5, 1) := by decide +kernel
theorem dX4_init_54 : decode cX4_init 54 = .ok (.newarray .int, 2) := by decide +kernel
theorem dX4_init_56 : decode cX4_init 56 = .ok (.putfield 30, 3) := by decide +kernel
theorem dX4_init_59 : decode cX4_init 59 = .ok (.aload_n 0, 1) := by decide +kernel
theorem dX4_init_60 : decode cX4_init 60 = .ok (.getfield 24, 3) := by decide +kernel
theorem dX4_init_63 : decode cX4_init 63 = .ok (.bipush (-4), 2) := by decide +kernel
theorem dX4_init_65 : decode cX4_init 65 = .ok (.invokestatic 33, 3) := by decide +kernel
theorem dX4_init_68 : decode cX4_init 68 = .ok (.aload_n 0, 1) := by decide +kernel
theorem dX4_init_69 : decode cX4_init 69 = .ok (.getfield 27, 3) := by decide +kernel
theorem dX4_init_72 : decode cX4_init 72 = .ok (.iconst (-1), 1) := by decide +kernel
theorem dX4_init_73 : decode cX4_init 73 = .ok (.invokestatic 33, 3) := by decide +kernel
theorem dX4_init_76 : decode cX4_init 76 = .ok (.return_, 1) := by decide +kernel
theorem dX4_addThing_0 : decode cX4_addThing 0 = .ok (.aload_n 0, 1) := by decide +kernel
theorem dX4_addThing_1 : decode cX4_addThing 1 = .ok (.getfield 39, 3) := by decide +kernel
theorem dX4_addThing_4 : decode cX4_addThing 4 = .ok (.bipush 10, 2) := by decide +kernel
theorem dX4_addThing_6 : decode cX4_addThing 6 = .ok (.if_icmp .lt 6, 3) := by decide +kernel
theorem dX4_addThing_9 : decode cX4_addThing 9 = .ok (.bipush (-3), 2) := by decide +kernel
theorem dX4_addThing_11 : decode cX4_addThing 11 = .ok (.ireturn, 1) := by decide +kernel
theorem dX4_addThing_12 : decode cX4_addThing 12 = .ok (.aload_n 0, 1) := by decide +kernel
theorem dX4_addThing_13 : decode cX4_addThing 13 = .ok (.getfield 9, 3) := by decide +kernel
theorem dX4_addThing_16 : decode cX4_addThing 16 = .ok (.aload_n 0, 1) := by decide +kernel
theorem dX4_addThing_17 : decode cX4_addThing 17 = .ok (.getfield 39, 3) := by decide +kernel
theorem dX4_addThing_20 : decode cX4_addThing 20 = .ok (.iload_n 1, 1) := by decide +kernel
theorem dX4_addThing_21 : decode cX4_addThing 21 = .ok (.iastore, 1) := by decide +kernel
theorem dX4_addThing_22 : decode cX4_addThing 22 = .ok (.aload_n 0, 1) := by decide +kernel
theorem dX4_addThing_23 : decode cX4_addThing 23 = .ok (.getfield 15, 3) := by decide +kernel
theorem dX4_addThing_26 : decode cX4_addThing 26 = .ok (.aload_n 0, 1) := by decide +kernel
theorem dX4_addThing_27 : decode cX4_addThing 27 = .ok (.getfield 39, 3) := by decide +kernel
theorem dX4_addThing_30 : decode cX4_addThing 30 = .ok (.iload_n 2, 1) := by decide +kernel
theorem dX4_addThing_31 : decode cX4_addThing 31 = .ok (.iastore, 1) := by decide +kernel
theorem dX4_addThing_32 : decode cX4_addThing 32 = .ok (.aload_n 0, 1) := by decide +kernel
theorem dX4_addThing_33 : decode cX4_addThing 33 = .ok (.getfield 18, 3) := by decide +kernel
theorem dX4_addThing_36 : decode cX4_addThing 36 = .ok (.aload_n 0, 1) := by decide +kernel
theorem dX4_addThing_37 : decode cX4_addThing 37 = .ok (.getfield 39, 3) := by decide +kernel
theorem dX4_addThing_40 : decode cX4_addThing 40 = .ok (.iload_n 3, 1) := by decide +kernel
theorem dX4_addThing_41 : decode cX4_addThing 41 = .ok (.iastore, 1) := by decide +kernel
theorem dX4_addThing_42 : decode cX4_addThing 42 = .ok (.aload_n 0, 1) := by decide +kernel
theorem dX4_addThing_43 : decode cX4_addThing 43 = .ok (.dup, 1) := by decide +kernel
theorem dX4_addThing_44 : decode cX4_addThing 44 = .ok (.getfield 39, 3) := by decide +kernel
theorem dX4_addThing_47 : decode cX4_addThing 47 = .ok (.iconst 1, 1) := by decide +kernel
theorem dX4_addThing_48 : decode cX4_addThing 48 = .ok (.iadd, 1) := by decide +kernel
theorem dX4_addThing_49 : decode cX4_addThing 49 = .ok (.putfield 39, 3) := by decide +kernel
theorem dX4_addThing_52 : decode cX4_addThing 52 = .ok (.aload_n 0, 1) := by decide +kernel
theorem dX4_addThing_53 : decode cX4_addThing 53 = .ok (.getfield 39, 3) := by decide +kernel
theorem dX4_addThing_56 : decode cX4_addThing 56 = .ok (.iconst 1, 1) := by decide +kernel
theorem dX4_addThing_57 : decode cX4_addThing 57 = .ok (.isub, 1) := by decide +kernel
theorem dX4_addThing_58 : decode cX4_addThing 58 = .ok (.ireturn, 1) := by decide +kernel
theorem dX4_isThing_0 : decode cX4_isThing 0 = .ok (.iload_n 1, 1) := by decide +kernel
theorem dX4_isThing_1 : decode cX4_isThing 1 = .ok (.ifCond .lt 15, 3) := by decide +kernel
theorem dX4_isThing_4 : decode cX4_isThing 4 = .ok (.iload_n 1, 1) := by decide +kernel
theorem dX4_isThing_5 : decode cX4_isThing 5 = .ok (.aload_n 0, 1) := by decide +kernel
theorem dX4_isThing_6 : decode cX4_isThing 6 = .ok (.getfield 39, 3) := by decide +kernel
theorem dX4_isThing_9 : decode cX4_isThing 9 = .ok (.if_icmp .ge 7, 3) := by decide +kernel
theorem dX4_isThing_12 : decode cX4_isThing 12 = .ok (.iconst 1, 1) := by decide +kernel
theorem dX4_isThing_13 : decode cX4_isThing 13 = .ok (.goto 4, 3) := by decide +kernel
theorem dX4_isThing_16 : decode cX4_isThing 16 = .ok (.iconst 0, 1) := by decide +kernel
theorem dX4_isThing_17 : decode cX4_isThing 17 = .ok (.ireturn, 1) := by decide +kernel
theorem dX4_canBe_0 : decode cX4_canBe 0 = .ok (.aload_n 0, 1) := by decide +kernel
theorem dX4_canBe_1 : decode cX4_canBe 1 = .ok (.iload_n 1, 1) := by decide +kernel
theorem dX4_canBe_2 : decode cX4_canBe 2 = .ok (.invokevirtual 43, 3) := by decide +kernel
theorem dX4_canBe_5 : decode cX4_canBe 5 = .ok (.ifCond .eq 25, 3) := by decide +kernel
theorem dX4_canBe_8 : decode cX4_canBe 8 = .ok (.iload_n 2, 1) := by decide +kernel
theorem dX4_canBe_9 : decode cX4_canBe 9 = .ok (.ifCond .lt 21, 3) := by decide +kernel
theorem dX4_canBe_12 : decode cX4_canBe 12 = .ok (.iload_n 2, 1) := by decide +kernel
theorem dX4_canBe_13 : decode cX4_canBe 13 = .ok (.getstatic 47, 3) := by decide +kernel
theorem dX4_canBe_16 : decode cX4_canBe 16 = .ok (.aload_n 0, 1) := by decide +kernel
theorem dX4_canBe_17 : decode cX4_canBe 17 = .ok (.getfield 15, 3) := by decide +kernel
theorem dX4_canBe_20 : decode cX4_canBe 20 = .ok (.iload_n 1, 1) := by decide +kernel
theorem dX4_canBe_21 : decode cX4_canBe 21 = .ok (.iaload, 1) := by decide +kernel
theorem dX4_canBe_22 : decode cX4_canBe 22 = .ok (.iaload, 1) := by decide +kernel
theorem dX4_canBe_23 : decode cX4_canBe 23 = .ok (.if_icmp .gt 7, 3) := by decide +kernel
theorem dX4_canBe_26 : decode cX4_canBe 26 = .ok (.iconst 1, 1) := by decide +kernel
theorem dX4_canBe_27 : decode cX4_canBe 27 = .ok (.goto 4, 3) := by decide +kernel
theorem dX4_canBe_30 : decode cX4_canBe 30 = .ok (.iconst 0, 1) := by decide +kernel
theorem dX4_canBe_31 : decode cX4_canBe 31 = .ok (.ireturn, 1) := by decide +kernel
theorem dX4_move_0 : decode cX4_move 0 = .ok (.aload_n 0, 1) := by decide +kernel
theorem dX4_move_1 : decode cX4_move 1 = .ok (.getfield 27, 3) := by decide +kernel
theorem dX4_move_4 : decode cX4_move 4 = .ok (.iload_n 1, 1) := by decide +kernel
theorem dX4_move_5 : decode cX4_move 5 = .ok (.iaload, 1) := by decide +kernel
theorem dX4_move_6 : decode cX4_move 6 = .ok (.istore_n 3, 1) := by decide +kernel
theorem dX4_move_7 : decode cX4_move 7 = .ok (.iload_n 3, 1) := by decide +kernel
theorem dX4_move_8 : decode cX4_move 8 = .ok (.iconst (-1), 1) := by decide +kernel
theorem dX4_move_9 : decode cX4_move 9 = .ok (.if_icmp .eq 13, 3) := by decide +kernel
theorem dX4_move_12 : decode cX4_move 12 = .ok (.aload_n 0, 1) := by decide +kernel
theorem dX4_move_13 : decode cX4_move 13 = .ok (.getfield 30, 3) := by decide +kernel
theorem dX4_move_16 : decode cX4_move 16 = .ok (.iload_n 3, 1) := by decide +kernel
theorem dX4_move_17 : decode cX4_move 17 = .ok (.dup2, 1) := by decide +kernel
theorem dX4_move_18 : decode cX4_move 18 = .ok (.iaload, 1) := by decide +kernel
theorem dX4_move_19 : decode cX4_move 19 = .ok (.iconst 1, 1) := by decide +kernel
theorem dX4_move_20 : decode cX4_move 20 = .ok (.isub, 1) := by decide +kernel
theorem dX4_move_21 : decode cX4_move 21 = .ok (.iastore, 1) := by decide +kernel
theorem dX4_move_22 : decode cX4_move 22 = .ok (.iload_n 2, 1) := by decide +kernel
theorem dX4_move_23 : decode cX4_move 23 = .ok (.iconst (-1), 1) := by decide +kernel
theorem dX4_move_24 : decode cX4_move 24 = .ok (.if_icmp .eq 13, 3) := by decide +kernel
theorem dX4_move_27 : decode cX4_move 27 = .ok (.aload_n 0, 1) := by decide +kernel
theorem dX4_move_28 : decode cX4_move 28 = .ok (.getfield 30, 3) := by decide +kernel
theorem dX4_move_31 : decode cX4_move 31 = .ok (.iload_n 2, 1) := by decide +kernel
theorem dX4_move_32 : decode cX4_move 32 = .ok (.dup2, 1) := by decide +kernel
theorem dX4_move_33 : decode cX4_move 33 = .ok (.iaload, 1) := by decide +kernel
theorem dX4_move_34 : decode cX4_move 34 = .ok (.iconst 1, 1) := by decide +kernel
theorem dX4_move_35 : decode cX4_move 35 = .ok (.iadd, 1) := by decide +kernel
theorem dX4_move_36 : decode cX4_move 36 = .ok (.iastore, 1) := by decide +kernel
theorem dX4_move_37 : decode cX4_move 37 = .ok (.aload_n 0, 1) := by decide +kernel
theorem dX4_move_38 : decode cX4_move 38 = .ok (.getfield 27, 3) := by decide +kernel
theorem dX4_move_41 : decode cX4_move 41 = .ok (.iload_n 1, 1) := by decide +kernel
theorem dX4_move_42 : decode cX4_move 42 = .ok (.iload_n 2, 1) := by decide +kernel
theorem dX4_move_43 : decode cX4_move 43 = .ok (.iastore, 1) := by decide +kernel
theorem dX4_move_44 : decode cX4_move 44 = .ok (.iload_n 3, 1) := by decide +kernel
theorem dX4_move_45 : decode cX4_move 45 = .ok (.ireturn, 1) := by decide +kernel
theorem dX4_change_0 : decode cX4_change 0 = .ok (.aload_n 0, 1) := by decide +kernel
theorem dX4_change_1 : decode cX4_change 1 = .ok (.aload_n 0, 1) := by decide +kernel
theorem dX4_change_2 : decode cX4_change 2 = .ok (.getfield 50, 3) := by decide +kernel
theorem dX4_change_5 : decode cX4_change 5 = .ok (.iload_n 1, 1) := by decide +kernel
theorem dX4_change_6 : decode cX4_change 6 = .ok (.iload_n 2, 1) := by decide +kernel
theorem dX4_change_7 : decode cX4_change 7 = .ok (.invokestatic 53, 3) := by decide +kernel
theorem dX4_change_10 : decode cX4_change 10 = .ok (.putfield 50, 3) := by decide +kernel
theorem dX4_change_13 : decode cX4_change 13 = .ok (.aload_n 0, 1) := by decide +kernel
theorem dX4_change_14 : decode cX4_change 14 = .ok (.getfield 24, 3) := by decide +kernel
theorem dX4_change_17 : decode cX4_change 17 = .ok (.iload_n 1, 1) := by decide +kernel
theorem dX4_change_18 : decode cX4_change 18 = .ok (.iload_n 3, 1) := by decide +kernel
theorem dX4_change_19 : decode cX4_change 19 = .ok (.iastore, 1) := by decide +kernel
theorem dX4_change_20 : decode cX4_change 20 = .ok (.return_, 1) := by decide +kernel
theorem dX4_thingsUnlike_0 : decode cX4_thingsUnlike 0 = .ok (.iconst 0, 1) := by decide +kernel
theorem dX4_thingsUnlike_1 : decode cX4_thingsUnlike 1 = .ok (.istore_n 3, 1) := by decide +kernel
theorem dX4_thingsUnlike_2 : decode cX4_thingsUnlike 2 = .ok (.iconst 0, 1) := by decide +kernel
theorem dX4_thingsUnlike_3 : decode cX4_thingsUnlike 3 = .ok (.istore 4, 2) := by decide +kernel
theorem dX4_thingsUnlike_5 : decode cX4_thingsUnlike 5 = .ok (.iload 4, 2) := by decide +kernel
theorem dX4_thingsUnlike_7 : decode cX4_thingsUnlike 7 = .ok (.aload_n 0, 1) := by decide +kernel
theorem dX4_thingsUnlike_8 : decode cX4_thingsUnlike 8 = .ok (.getfield 39, 3) := by decide +kernel
theorem dX4_thingsUnlike_11 : decode cX4_thingsUnlike 11 = .ok (.if_icmp .ge 38, 3) := by decide +kernel
theorem dX4_thingsUnlike_14 : decode cX4_thingsUnlike 14 = .ok (.iload_n 1, 1) := by decide +kernel
theorem dX4_thingsUnlike_15 : decode cX4_thingsUnlike 15 = .ok (.iload 4, 2) := by decide +kernel
theorem dX4_thingsUnlike_17 : decode cX4_thingsUnlike 17 = .ok (.invokestatic 57, 3) := by decide +kernel
theorem dX4_thingsUnlike_20 : decode cX4_thingsUnlike 20 = .ok (.ifCond .eq 23, 3) := by decide +kernel
theorem dX4_thingsUnlike_23 : decode cX4_thingsUnlike 23 = .ok (.aload_n 0, 1) := by decide +kernel
theorem dX4_thingsUnlike_24 : decode cX4_thingsUnlike 24 = .ok (.getfield 50, 3) := by decide +kernel
