theorem dX4_thingsUnlike_27 : decode cX4_thingsUnlike 27 = .ok (.iload 4, 2) := by decide +kernel
theorem dX4_thingsUnlike_29 : decode cX4_thingsUnlike 29 = .ok (.invokestatic 61, 3) := by decide +kernel
theorem dX4_thingsUnlike_32 : decode cX4_thingsUnlike 32 = .ok (.iload_n 2, 1) := by decide +kernel
theorem dX4_thingsUnlike_33 : decode cX4_thingsUnlike 33 = .ok (.if_icmp .eq 10, 3) := by decide +kernel
theorem dX4_thingsUnlike_36 : decode cX4_thingsUnlike 36 = .ok (.iload_n 3, 1) := by decide +kernel
theorem dX4_thingsUnlike_37 : decode cX4_thingsUnlike 37 = .ok (.iconst 1, 1) := by decide +kernel
theorem dX4_thingsUnlike_38 : decode cX4_thingsUnlike 38 = .ok (.iload 4, 2) := by decide +kernel
theorem dX4_thingsUnlike_40 : decode cX4_thingsUnlike 40 = .ok (.ishl, 1) := by decide +kernel
theorem dX4_thingsUnlike_41 : decode cX4_thingsUnlike 41 = .ok (.ior, 1) := by decide +kernel
theorem dX4_thingsUnlike_42 : decode cX4_thingsUnlike 42 = .ok (.istore_n 3, 1) := by decide +kernel
theorem dX4_thingsUnlike_43 : decode cX4_thingsUnlike 43 = .ok (.iinc 4 1, 3) := by decide +kernel
theorem dX4_thingsUnlike_46 : decode cX4_thingsUnlike 46 = .ok (.goto (-41), 3) := by decide +kernel
theorem dX4_thingsUnlike_49 : decode cX4_thingsUnlike 49 = .ok (.iload_n 3, 1) := by decide +kernel
theorem dX4_thingsUnlike_50 : decode cX4_thingsUnlike 50 = .ok (.ireturn, 1) := by decide +kernel
theorem dX4_thingsThere_0 : decode cX4_thingsThere 0 = .ok (.iconst 0, 1) := by decide +kernel
theorem dX4_thingsThere_1 : decode cX4_thingsThere 1 = .ok (.istore_n 3, 1) := by decide +kernel
theorem dX4_thingsThere_2 : decode cX4_thingsThere 2 = .ok (.iconst 0, 1) := by decide +kernel
theorem dX4_thingsThere_3 : decode cX4_thingsThere 3 = .ok (.istore 4, 2) := by decide +kernel
theorem dX4_thingsThere_5 : decode cX4_thingsThere 5 = .ok (.iload 4, 2) := by decide +kernel
theorem dX4_thingsThere_7 : decode cX4_thingsThere 7 = .ok (.aload_n 0, 1) := by decide +kernel
theorem dX4_thingsThere_8 : decode cX4_thingsThere 8 = .ok (.getfield 39, 3) := by decide +kernel
theorem dX4_thingsThere_11 : decode cX4_thingsThere 11 = .ok (.if_icmp .ge 38, 3) := by decide +kernel
theorem dX4_thingsThere_14 : decode cX4_thingsThere 14 = .ok (.aload_n 0, 1) := by decide +kernel
theorem dX4_thingsThere_15 : decode cX4_thingsThere 15 = .ok (.getfield 15, 3) := by decide +kernel
theorem dX4_thingsThere_18 : decode cX4_thingsThere 18 = .ok (.iload 4, 2) := by decide +kernel
theorem dX4_thingsThere_20 : decode cX4_thingsThere 20 = .ok (.iaload, 1) := by decide +kernel
theorem dX4_thingsThere_21 : decode cX4_thingsThere 21 = .ok (.iload_n 1, 1) := by decide +kernel
theorem dX4_thingsThere_22 : decode cX4_thingsThere 22 = .ok (.if_icmp .ne 21, 3) := by decide +kernel
theorem dX4_thingsThere_25 : decode cX4_thingsThere 25 = .ok (.aload_n 0, 1) := by decide +kernel
theorem dX4_thingsThere_26 : decode cX4_thingsThere 26 = .ok (.getfield 9, 3) := by decide +kernel
theorem dX4_thingsThere_29 : decode cX4_thingsThere 29 = .ok (.iload 4, 2) := by decide +kernel
theorem dX4_thingsThere_31 : decode cX4_thingsThere 31 = .ok (.iaload, 1) := by decide +kernel
theorem dX4_thingsThere_32 : decode cX4_thingsThere 32 = .ok (.iload_n 2, 1) := by decide +kernel
theorem dX4_thingsThere_33 : decode cX4_thingsThere 33 = .ok (.if_icmp .ne 10, 3) := by decide +kernel
theorem dX4_thingsThere_36 : decode cX4_thingsThere 36 = .ok (.iload_n 3, 1) := by decide +kernel
theorem dX4_thingsThere_37 : decode cX4_thingsThere 37 = .ok (.iconst 1, 1) := by decide +kernel
theorem dX4_thingsThere_38 : decode cX4_thingsThere 38 = .ok (.iload 4, 2) := by decide +kernel
theorem dX4_thingsThere_40 : decode cX4_thingsThere 40 = .ok (.ishl, 1) := by decide +kernel
theorem dX4_thingsThere_41 : decode cX4_thingsThere 41 = .ok (.ior, 1) := by decide +kernel
theorem dX4_thingsThere_42 : decode cX4_thingsThere 42 = .ok (.istore_n 3, 1) := by decide +kernel
theorem dX4_thingsThere_43 : decode cX4_thingsThere 43 = .ok (.iinc 4 1, 3) := by decide +kernel
theorem dX4_thingsThere_46 : decode cX4_thingsThere 46 = .ok (.goto (-41), 3) := by decide +kernel
theorem dX4_thingsThere_49 : decode cX4_thingsThere 49 = .ok (.iload_n 3, 1) := by decide +kernel
theorem dX4_thingsThere_50 : decode cX4_thingsThere 50 = .ok (.ireturn, 1) := by decide +kernel
theorem dX4_thingsThatCanBe_0 : decode cX4_thingsThatCanBe 0 = .ok (.iconst 0, 1) := by decide +kernel
theorem dX4_thingsThatCanBe_1 : decode cX4_thingsThatCanBe 1 = .ok (.istore_n 3, 1) := by decide +kernel
theorem dX4_thingsThatCanBe_2 : decode cX4_thingsThatCanBe 2 = .ok (.iconst 0, 1) := by decide +kernel
theorem dX4_thingsThatCanBe_3 : decode cX4_thingsThatCanBe 3 = .ok (.istore 4, 2) := by decide +kernel
theorem dX4_thingsThatCanBe_5 : decode cX4_thingsThatCanBe 5 = .ok (.iload 4, 2) := by decide +kernel
theorem dX4_thingsThatCanBe_7 : decode cX4_thingsThatCanBe 7 = .ok (.aload_n 0, 1) := by decide +kernel
theorem dX4_thingsThatCanBe_8 : decode cX4_thingsThatCanBe 8 = .ok (.getfield 39, 3) := by decide +kernel
theorem dX4_thingsThatCanBe_11 : decode cX4_thingsThatCanBe 11 = .ok (.if_icmp .ge 35, 3) := by decide +kernel
theorem dX4_thingsThatCanBe_14 : decode cX4_thingsThatCanBe 14 = .ok (.iload_n 1, 1) := by decide +kernel
theorem dX4_thingsThatCanBe_15 : decode cX4_thingsThatCanBe 15 = .ok (.iload 4, 2) := by decide +kernel
theorem dX4_thingsThatCanBe_17 : decode cX4_thingsThatCanBe 17 = .ok (.invokestatic 57, 3) := by decide +kernel
theorem dX4_thingsThatCanBe_20 : decode cX4_thingsThatCanBe 20 = .ok (.ifCond .eq 20, 3) := by decide +kernel
theorem dX4_thingsThatCanBe_23 : decode cX4_thingsThatCanBe 23 = .ok (.aload_n 0, 1) := by decide +kernel
theorem dX4_thingsThatCanBe_24 : decode cX4_thingsThatCanBe 24 = .ok (.iload 4, 2) := by decide +kernel
theorem dX4_thingsThatCanBe_26 : decode cX4_thingsThatCanBe 26 = .ok (.iload_n 2, 1) := by decide +kernel
theorem dX4_thingsThatCanBe_27 : decode cX4_thingsThatCanBe 27 = .ok (.invokevirtual 65, 3) := by decide +kernel
theorem dX4_thingsThatCanBe_30 : decode cX4_thingsThatCanBe 30 = .ok (.ifCond .eq 10, 3) := by decide +kernel
theorem dX4_thingsThatCanBe_33 : decode cX4_thingsThatCanBe 33 = .ok (.iload_n 3, 1) := by decide +kernel
theorem dX4_thingsThatCanBe_34 : decode cX4_thingsThatCanBe 34 = .ok (.iconst 1, 1) := by decide +kernel
theorem dX4_thingsThatCanBe_35 : decode cX4_thingsThatCanBe 35 = .ok (.iload 4, 2) := by decide +kernel
theorem dX4_thingsThatCanBe_37 : decode cX4_thingsThatCanBe 37 = .ok (.ishl, 1) := by decide +kernel
theorem dX4_thingsThatCanBe_38 : decode cX4_thingsThatCanBe 38 = .ok (.ior, 1) := by decide +kernel
theorem dX4_thingsThatCanBe_39 : decode cX4_thingsThatCanBe 39 = .ok (.istore_n 3, 1) := by decide +kernel
theorem dX4_thingsThatCanBe_40 : decode cX4_thingsThatCanBe 40 = .ok (.iinc 4 1, 3) := by decide +kernel
theorem dX4_thingsThatCanBe_43 : decode cX4_thingsThatCanBe 43 = .ok (.goto (-38), 3) := by decide +kernel
theorem dX4_thingsThatCanBe_46 : decode cX4_thingsThatCanBe 46 = .ok (.iload_n 3, 1) := by decide +kernel
theorem dX4_thingsThatCanBe_47 : decode cX4_thingsThatCanBe 47 = .ok (.ireturn, 1) := by decide +kernel
theorem dX4_passHour_0 : decode cX4_passHour 0 = .ok (.iconst 0, 1) := by decide +kernel
theorem dX4_passHour_1 : decode cX4_passHour 1 = .ok (.istore_n 1, 1) := by decide +kernel
theorem dX4_passHour_2 : decode cX4_passHour 2 = .ok (.iload_n 1, 1) := by decide +kernel
theorem dX4_passHour_3 : decode cX4_passHour 3 = .ok (.aload_n 0, 1) := by decide +kernel
theorem dX4_passHour_4 : decode cX4_passHour 4 = .ok (.getfield 39, 3) := by decide +kernel
theorem dX4_passHour_7 : decode cX4_passHour 7 = .ok (.if_icmp .ge 33, 3) := by decide +kernel
theorem dX4_passHour_10 : decode cX4_passHour 10 = .ok (.aload_n 0, 1) := by decide +kernel
theorem dX4_passHour_11 : decode cX4_passHour 11 = .ok (.getfield 21, 3) := by decide +kernel
theorem dX4_passHour_14 : decode cX4_passHour 14 = .ok (.iload_n 1, 1) := by decide +kernel
theorem dX4_passHour_15 : decode cX4_passHour 15 = .ok (.dup2, 1) := by decide +kernel
theorem dX4_passHour_16 : decode cX4_passHour 16 = .ok (.iaload, 1) := by decide +kernel
theorem dX4_passHour_17 : decode cX4_passHour 17 = .ok (.aload_n 0, 1) := by decide +kernel
theorem dX4_passHour_18 : decode cX4_passHour 18 = .ok (.getfield 50, 3) := by decide +kernel
theorem dX4_passHour_21 : decode cX4_passHour 21 = .ok (.iload_n 1, 1) := by decide +kernel
theorem dX4_passHour_22 : decode cX4_passHour 22 = .ok (.invokestatic 61, 3) := by decide +kernel
theorem dX4_passHour_25 : decode cX4_passHour 25 = .ok (.aload_n 0, 1) := by decide +kernel
theorem dX4_passHour_26 : decode cX4_passHour 26 = .ok (.getfield 18, 3) := by decide +kernel
theorem dX4_passHour_29 : decode cX4_passHour 29 = .ok (.iload_n 1, 1) := by decide +kernel
theorem dX4_passHour_30 : decode cX4_passHour 30 = .ok (.iaload, 1) := by decide +kernel
theorem dX4_passHour_31 : decode cX4_passHour 31 = .ok (.imul, 1) := by decide +kernel
theorem dX4_passHour_32 : decode cX4_passHour 32 = .ok (.iadd, 1) := by decide +kernel
theorem dX4_passHour_33 : decode cX4_passHour 33 = .ok (.iastore, 1) := by decide +kernel
theorem dX4_passHour_34 : decode cX4_passHour 34 = .ok (.iinc 1 1, 3) := by decide +kernel
theorem dX4_passHour_37 : decode cX4_passHour 37 = .ok (.goto (-35), 3) := by decide +kernel
theorem dX4_passHour_40 : decode cX4_passHour 40 = .ok (.aload_n 0, 1) := by decide +kernel
theorem dX4_passHour_41 : decode cX4_passHour 41 = .ok (.dup, 1) := by decide +kernel
theorem dX4_passHour_42 : decode cX4_passHour 42 = .ok (.getfield 68, 3) := by decide +kernel
theorem dX4_passHour_45 : decode cX4_passHour 45 = .ok (.iconst 1, 1) := by decide +kernel
theorem dX4_passHour_46 : decode cX4_passHour 46 = .ok (.iadd, 1) := by decide +kernel
theorem dX4_passHour_47 : decode cX4_passHour 47 = .ok (.putfield 68, 3) := by decide +kernel
theorem dX4_passHour_50 : decode cX4_passHour 50 = .ok (.return_, 1) := by decide +kernel
theorem dX4_hourOfDay_0 : decode cX4_hourOfDay 0 = .ok (.aload_n 0, 1) := by decide +kernel
theorem dX4_hourOfDay_1 : decode cX4_hourOfDay 1 = .ok (.getfield 68, 3) := by decide +kernel
theorem dX4_hourOfDay_4 : decode cX4_hourOfDay 4 = .ok (.bipush 24, 2) := by decide +kernel
theorem dX4_hourOfDay_6 : decode cX4_hourOfDay 6 = .ok (.invokestatic 71, 3) := by decide +kernel
theorem dX4_hourOfDay_9 : decode cX4_hourOfDay 9 = .ok (.ireturn, 1) := by decide +kernel
theorem dX4_day_0 : decode cX4_day 0 = .ok (.aload_n 0, 1) := by decide +kernel
theorem dX4_day_1 : decode cX4_day 1 = .ok (.getfield 68, 3) := by decide +kernel
theorem dX4_day_4 : decode cX4_day 4 = .ok (.bipush 24, 2) := by decide +kernel
theorem dX4_day_6 : decode cX4_day 6 = .ok (.invokestatic 76, 3) := by decide +kernel
theorem dX4_day_9 : decode cX4_day 9 = .ok (.ireturn, 1) := by decide +kernel
theorem dX4_spentInAll_0 : decode cX4_spentInAll 0 = .ok (.iconst 0, 1) := by decide +kernel
theorem dX4_spentInAll_1 : decode cX4_spentInAll 1 = .ok (.istore_n 1, 1) := by decide +kernel
theorem dX4_spentInAll_2 : decode cX4_spentInAll 2 = .ok (.iconst 0, 1) := by decide +kernel
theorem dX4_spentInAll_3 : decode cX4_spentInAll 3 = .ok (.istore_n 2, 1) := by decide +kernel
theorem dX4_spentInAll_4 : decode cX4_spentInAll 4 = .ok (.iload_n 2, 1) := by decide +kernel
theorem dX4_spentInAll_5 : decode cX4_spentInAll 5 = .ok (.aload_n 0, 1) := by decide +kernel
theorem dX4_spentInAll_6 : decode cX4_spentInAll 6 = .ok (.getfield 39, 3) := by decide +kernel
theorem dX4_spentInAll_9 : decode cX4_spentInAll 9 = .ok (.if_icmp .ge 18, 3) := by decide +kernel
theorem dX4_spentInAll_12 : decode cX4_spentInAll 12 = .ok (.iload_n 1, 1) := by decide +kernel
theorem dX4_spentInAll_13 : decode cX4_spentInAll 13 = .ok (.aload_n 0, 1) := by decide +kernel
theorem dX4_spentInAll_14 : decode cX4_spentInAll 14 = .ok (.getfield 21, 3) := by decide +kernel
theorem dX4_spentInAll_17 : decode cX4_spentInAll 17 = .ok (.iload_n 2, 1) := by decide +kernel
theorem dX4_spentInAll_18 : decode cX4_spentInAll 18 = .ok (.iaload, 1) := by decide +kernel
theorem dX4_spentInAll_19 : decode cX4_spentInAll 19 = .ok (.iadd, 1) := by decide +kernel
theorem dX4_spentInAll_20 : decode cX4_spentInAll 20 = .ok (.istore_n 1, 1) := by decide +kernel
theorem dX4_spentInAll_21 : decode cX4_spentInAll 21 = .ok (.iinc 2 1, 3) := by decide +kernel
theorem dX4_spentInAll_24 : decode cX4_spentInAll 24 = .ok (.goto (-20), 3) := by decide +kernel
theorem dX4_spentInAll_27 : decode cX4_spentInAll 27 = .ok (.iload_n 1, 1) := by decide +kernel
theorem dX4_spentInAll_28 : decode cX4_spentInAll 28 = .ok (.ireturn, 1) := by decide +kernel
theorem dX5_init_0 : decode cX5_init 0 = .ok (.aload_n 0, 1) := by decide +kernel
theorem dX5_init_1 : decode cX5_init 1 = .ok (.invokespecial 3, 3) := by decide +kernel
theorem dX5_init_4 : decode cX5_init 4 = .ok (.aload_n 0, 1) := by decide +kernel
theorem dX5_init_5 : decode cX5_init 5 = .ok (.sipush 200, 3) := by decide +kernel
theorem dX5_init_8 : decode cX5_init 8 = .ok (.newarray .int, 2) := by decide +kernel
theorem dX5_init_10 : decode cX5_init 10 = .ok (.putfield 9, 3) := by decide +kernel
theorem dX5_init_13 : decode cX5_init 13 = .ok (.aload_n 0, 1) := by decide +kernel
theorem dX5_init_14 : decode cX5_init 14 = .ok (.iconst 5, 1) := by decide +kernel
theorem dX5_init_15 : decode cX5_init 15 = .ok (.newarray .int, 2) := by decide +kernel
theorem dX5_init_17 : decode cX5_init 17 = .ok (.putfield 15, 3) := by decide +kernel
theorem dX5_init_20 : decode cX5_init 20 = .ok (.aload_n 0, 1) := by decide +kernel
theorem dX5_init_21 : decode cX5_init 21 = .ok (.bipush 40, 2) := by decide +kernel
theorem dX5_init_23 : decode cX5_init 23 = .ok (.newarray .int, 2) := by decide +kernel
theorem dX5_init_25 : decode cX5_init 25 = .ok (.putfield 18, 3) := by decide +kernel
theorem dX5_init_28 : decode cX5_init 28 = .ok (.aload_n 0, 1) := by decide +kernel
theorem dX5_init_29 : decode cX5_init 29 = .ok (.sipush 200, 3) := by decide +kernel
theorem dX5_init_32 : decode cX5_init 32 = .ok (.newarray .int, 2) := by decide +kernel
theorem dX5_init_34 : decode cX5_init 34 = .ok (.putfield 21, 3) := by decide +kernel
theorem dX5_init_37 : decode cX5_init 37 = .ok (.aload_n 0, 1) := by decide +kernel
theorem dX5_init_38 : decode cX5_init 38 = .ok (.aload_n 1, 1) := by decide +kernel
theorem dX5_init_39 : decode cX5_init 39 = .ok (.putfield 24, 3) := by decide +kernel
theorem dX5_init_42 : decode cX5_init 42 = .ok (.return_, 1) := by decide +kernel
theorem dX5_append_0 : decode cX5_append 0 = .ok (.aload_n 0, 1) := by decide +kernel
theorem dX5_append_1 : decode cX5_append 1 = .ok (.getfield 28, 3) := by decide +kernel
theorem dX5_append_4 : decode cX5_append 4 = .ok (.iload_n 1, 1) := by decide +kernel
theorem dX5_append_5 : decode cX5_append 5 = .ok (.iadd, 1) := by decide +kernel
theorem dX5_append_6 : decode cX5_append 6 = .ok (.sipush 200, 3) := by decide +kernel
theorem dX5_append_9 : decode cX5_append 9 = .ok (.if_icmp .le 6, 3) := by decide +kernel
theorem dX5_append_12 : decode cX5_append 12 = .ok (.bipush (-3), 2) := by decide +kernel
theorem dX5_append_14 : decode cX5_append 14 = .ok (.ireturn, 1) := by decide +kernel
theorem dX5_append_15 : decode cX5_append 15 = .ok (.iload_n 1, 1) := by decide +kernel
theorem dX5_append_16 : decode cX5_append 16 = .ok (.iconst 1, 1) := by decide +kernel
theorem dX5_append_17 : decode cX5_append 17 = .ok (.isub, 1) := by decide +kernel
theorem dX5_append_18 : decode cX5_append 18 = .ok (.istore 4, 2) := by decide +kernel
theorem dX5_append_20 : decode cX5_append 20 = .ok (.iload 4, 2) := by decide +kernel
theorem dX5_append_22 : decode cX5_append 22 = .ok (.ifCond .lt 40, 3) := by decide +kernel
theorem dX5_append_25 : decode cX5_append 25 = .ok (.aload_n 0, 1) := by decide +kernel
theorem dX5_append_26 : decode cX5_append 26 = .ok (.getfield 9, 3) := by decide +kernel
theorem dX5_append_29 : decode cX5_append 29 = .ok (.aload_n 0, 1) := by decide +kernel
theorem dX5_append_30 : decode cX5_append 30 = .ok (.getfield 28, 3) := by decide +kernel
theorem dX5_append_33 : decode cX5_append 33 = .ok (.lload_n 2, 1) := by decide +kernel
theorem dX5_append_34 : decode cX5_append 34 = .ok (.bipush 8, 2) := by decide +kernel
theorem dX5_append_36 : decode cX5_append 36 = .ok (.iload 4, 2) := by decide +kernel
theorem dX5_append_38 : decode cX5_append 38 = .ok (.imul, 1) := by decide +kernel
theorem dX5_append_39 : decode cX5_append 39 = .ok (.lushr, 1) := by decide +kernel
theorem dX5_append_40 : decode cX5_append 40 = .ok (.l2i, 1) := by decide +kernel
theorem dX5_append_41 : decode cX5_append 41 = .ok (.sipush 255, 3) := by decide +kernel
theorem dX5_append_44 : decode cX5_append 44 = .ok (.iand, 1) := by decide +kernel
theorem dX5_append_45 : decode cX5_append 45 = .ok (.iastore, 1) := by decide +kernel
theorem dX5_append_46 : decode cX5_append 46 = .ok (.aload_n 0, 1) := by decide +kernel
theorem dX5_append_47 : decode cX5_append 47 = .ok (.dup, 1) := by decide +kernel
theorem dX5_append_48 : decode cX5_append 48 = .ok (.getfield 28, 3) := by decide +kernel
theorem dX5_append_51 : decode cX5_append 51 = .ok (.iconst 1, 1) := by decide +kernel
theorem dX5_append_52 : decode cX5_append 52 = .ok (.iadd, 1) := by decide +kernel
theorem dX5_append_53 : decode cX5_append 53 = .ok (.putfield 28, 3) := by decide +kernel
theorem dX5_append_56 : decode cX5_append 56 = .ok (.iinc 4 (-1), 3) := by decide +kernel
theorem dX5_append_59 : decode cX5_append 59 = .ok (.goto (-39), 3) := by decide +kernel
theorem dX5_append_62 : decode cX5_append 62 = .ok (.aload_n 0, 1) := by decide +kernel
theorem dX5_append_63 : decode cX5_append 63 = .ok (.getfield 28, 3) := by decide +kernel
theorem dX5_append_66 : decode cX5_append 66 = .ok (.ireturn, 1) := by decide +kernel
theorem dX5_clearText_0 : decode cX5_clearText 0 = .ok (.aload_n 0, 1) := by decide +kernel
theorem dX5_clearText_1 : decode cX5_clearText 1 = .ok (.getfield 28, 3) := by decide +kernel
theorem dX5_clearText_4 : decode cX5_clearText 4 = .ok (.istore_n 1, 1) := by decide +kernel
theorem dX5_clearText_5 : decode cX5_clearText 5 = .ok (.aload_n 0, 1) := by decide +kernel
theorem dX5_clearText_6 : decode cX5_clearText 6 = .ok (.iconst 0, 1) := by decide +kernel
theorem dX5_clearText_7 : decode cX5_clearText 7 = .ok (.putfield 28, 3) := by decide +kernel
theorem dX5_clearText_10 : decode cX5_clearText 10 = .ok (.iload_n 1, 1) := by decide +kernel
theorem dX5_clearText_11 : decode cX5_clearText 11 = .ok (.ireturn, 1) := by decide +kernel
theorem dX5_firstFault_0 : decode cX5_firstFault 0 = .ok (.iconst 0, 1) := by decide +kernel
theorem dX5_firstFault_1 : decode cX5_firstFault 1 = .ok (.istore_n 1, 1) := by decide +kernel
theorem dX5_firstFault_2 : decode cX5_firstFault 2 = .ok (.iconst 0, 1) := by decide +kernel
theorem dX5_firstFault_3 : decode cX5_firstFault 3 = .ok (.istore_n 2, 1) := by decide +kernel
theorem dX5_firstFault_4 : decode cX5_firstFault 4 = .ok (.iload_n 2, 1) := by decide +kernel
theorem dX5_firstFault_5 : decode cX5_firstFault 5 = .ok (.sipush 200, 3) := by decide +kernel
theorem dX5_firstFault_8 : decode cX5_firstFault 8 = .ok (.if_icmp .ge 31, 3) := by decide +kernel
theorem dX5_firstFault_11 : decode cX5_firstFault 11 = .ok (.iload_n 1, 1) := by decide +kernel
theorem dX5_firstFault_12 : decode cX5_firstFault 12 = .ok (.aload_n 0, 1) := by decide +kernel
theorem dX5_firstFault_13 : decode cX5_firstFault 13 = .ok (.getfield 28, 3) := by decide +kernel
theorem dX5_firstFault_16 : decode cX5_firstFault 16 = .ok (.if_icmp .ge 23, 3) := by decide +kernel
theorem dX5_firstFault_19 : decode cX5_firstFault 19 = .ok (.aload_n 0, 1) := by decide +kernel
theorem dX5_firstFault_20 : decode cX5_firstFault 20 = .ok (.iload_n 1, 1) := by decide +kernel
theorem dX5_firstFault_21 : decode cX5_firstFault 21 = .ok (.invokevirtual 32, 3) := by decide +kernel
theorem dX5_firstFault_24 : decode cX5_firstFault 24 = .ok (.istore_n 3, 1) := by decide +kernel
theorem dX5_firstFault_25 : decode cX5_firstFault 25 = .ok (.iload_n 3, 1) := by decide +kernel
theorem dX5_firstFault_26 : decode cX5_firstFault 26 = .ok (.ifCond .ge 5, 3) := by decide +kernel
theorem dX5_firstFault_29 : decode cX5_firstFault 29 = .ok (.iload_n 1, 1) := by decide +kernel
theorem dX5_firstFault_30 : decode cX5_firstFault 30 = .ok (.ireturn, 1) := by decide +kernel
theorem dX5_firstFault_31 : decode cX5_firstFault 31 = .ok (.iload_n 3, 1) := by decide +kernel
theorem dX5_firstFault_32 : decode cX5_firstFault 32 = .ok (.istore_n 1, 1) := by decide +kernel
theorem dX5_firstFault_33 : decode cX5_firstFault 33 = .ok (.iinc 2 1, 3) := by decide +kernel
theorem dX5_firstFault_36 : decode cX5_firstFault 36 = .ok (.goto (-32), 3) := by decide +kernel
theorem dX5_firstFault_39 : decode cX5_firstFault 39 = .ok (.bipush (-4), 2) := by decide +kernel
theorem dX5_firstFault_41 : decode cX5_firstFault 41 = .ok (.ireturn, 1) := by decide +kernel
theorem dX5_putInForce_0 : decode cX5_putInForce 0 = .ok (.aload_n 0, 1) := by decide +kernel
theorem dX5_putInForce_1 : decode cX5_putInForce 1 = .ok (.invokevirtual 36, 3) := by decide +kernel
theorem dX5_putInForce_4 : decode cX5_putInForce 4 = .ok (.bipush (-4), 2) := by decide +kernel
theorem dX5_putInForce_6 : decode cX5_putInForce 6 = .ok (.if_icmp .eq 6, 3) := by decide +kernel
theorem dX5_putInForce_9 : decode cX5_putInForce 9 = .ok (.bipush (-2), 2) := by decide +kernel
theorem dX5_putInForce_11 : decode cX5_putInForce 11 = .ok (.ireturn, 1) := by decide +kernel
theorem dX5_putInForce_12 : decode cX5_putInForce 12 = .ok (.aload_n 0, 1) := by decide +kernel
theorem dX5_putInForce_13 : decode cX5_putInForce 13 = .ok (.iconst 0, 1) := by decide +kernel
theorem dX5_putInForce_14 : decode cX5_putInForce 14 = .ok (.putfield 40, 3) := by decide +kernel
theorem dX5_putInForce_17 : decode cX5_putInForce 17 = .ok (.iconst 0, 1) := by decide +kernel
theorem dX5_putInForce_18 : decode cX5_putInForce 18 = .ok (.istore_n 1, 1) := by decide +kernel
theorem dX5_putInForce_19 : decode cX5_putInForce 19 = .ok (.iconst 0, 1) := by decide +kernel
theorem dX5_putInForce_20 : decode cX5_putInForce 20 = .ok (.istore_n 2, 1) := by decide +kernel
theorem dX5_putInForce_21 : decode cX5_putInForce 21 = .ok (.iload_n 2, 1) := by decide +kernel
theorem dX5_putInForce_22 : decode cX5_putInForce 22 = .ok (.bipush 40, 2) := by decide +kernel
theorem dX5_putInForce_24 : decode cX5_putInForce 24 = .ok (.if_icmp .ge 67, 3) := by decide +kernel
theorem dX5_putInForce_27 : decode cX5_putInForce 27 = .ok (.iload_n 1, 1) := by decide +kernel
theorem dX5_putInForce_28 : decode cX5_putInForce 28 = .ok (.ifCond .lt 63, 3) := by decide +kernel
theorem dX5_putInForce_31 : decode cX5_putInForce 31 = .ok (.iload_n 1, 1) := by decide +kernel
theorem dX5_putInForce_32 : decode cX5_putInForce 32 = .ok (.aload_n 0, 1) := by decide +kernel
theorem dX5_putInForce_33 : decode cX5_putInForce 33 = .ok (.getfield 28, 3) := by decide +kernel
theorem dX5_putInForce_36 : decode cX5_putInForce 36 = .ok (.if_icmp .ge 55, 3) := by decide +kernel
theorem dX5_putInForce_39 : decode cX5_putInForce 39 = .ok (.aload_n 0, 1) := by decide +kernel
theorem dX5_putInForce_40 : decode cX5_putInForce 40 = .ok (.iload_n 1, 1) := by decide +kernel
theorem dX5_putInForce_41 : decode cX5_putInForce 41 = .ok (.invokevirtual 32, 3) := by decide +kernel
theorem dX5_putInForce_44 : decode cX5_putInForce 44 = .ok (.istore_n 3, 1) := by decide +kernel
theorem dX5_putInForce_45 : decode cX5_putInForce 45 = .ok (.aload_n 0, 1) := by decide +kernel
theorem dX5_putInForce_46 : decode cX5_putInForce 46 = .ok (.getfield 18, 3) := by decide +kernel
theorem dX5_putInForce_49 : decode cX5_putInForce 49 = .ok (.iload_n 2, 1) := by decide +kernel
theorem dX5_putInForce_50 : decode cX5_putInForce 50 = .ok (.aload_n 0, 1) := by decide +kernel
theorem dX5_putInForce_51 : decode cX5_putInForce 51 = .ok (.getfield 9, 3) := by decide +kernel
theorem dX5_putInForce_54 : decode cX5_putInForce 54 = .ok (.iload_n 1, 1) := by decide +kernel
theorem dX5_putInForce_55 : decode cX5_putInForce 55 = .ok (.iaload, 1) := by decide +kernel
theorem dX5_putInForce_56 : decode cX5_putInForce 56 = .ok (.iastore, 1) := by decide +kernel
theorem dX5_putInForce_57 : decode cX5_putInForce 57 = .ok (.aload_n 0, 1) := by decide +kernel
theorem dX5_putInForce_58 : decode cX5_putInForce 58 = .ok (.getfield 15, 3) := by decide +kernel
theorem dX5_putInForce_61 : decode cX5_putInForce 61 = .ok (.iconst 0, 1) := by decide +kernel
theorem dX5_putInForce_62 : decode cX5_putInForce 62 = .ok (.aload_n 0, 1) := by decide +kernel
theorem dX5_putInForce_63 : decode cX5_putInForce 63 = .ok (.getfield 21, 3) := by decide +kernel
theorem dX5_putInForce_66 : decode cX5_putInForce 66 = .ok (.iload_n 2, 1) := by decide +kernel
theorem dX5_putInForce_67 : decode cX5_putInForce 67 = .ok (.iconst 5, 1) := by decide +kernel
theorem dX5_putInForce_68 : decode cX5_putInForce 68 = .ok (.imul, 1) := by decide +kernel
theorem dX5_putInForce_69 : decode cX5_putInForce 69 = .ok (.iconst 5, 1) := by decide +kernel
theorem dX5_putInForce_70 : decode cX5_putInForce 70 = .ok (.invokestatic 43, 3) := by decide +kernel
theorem dX5_putInForce_73 : decode cX5_putInForce 73 = .ok (.aload_n 0, 1) := by decide +kernel
theorem dX5_putInForce_74 : decode cX5_putInForce 74 = .ok (.dup, 1) := by decide +kernel
theorem dX5_putInForce_75 : decode cX5_putInForce 75 = .ok (.getfield 40, 3) := by decide +kernel
theorem dX5_putInForce_78 : decode cX5_putInForce 78 = .ok (.iconst 1, 1) := by decide +kernel
theorem dX5_putInForce_79 : decode cX5_putInForce 79 = .ok (.iadd, 1) := by decide +kernel
theorem dX5_putInForce_80 : decode cX5_putInForce 80 = .ok (.putfield 40, 3) := by decide +kernel
theorem dX5_putInForce_83 : decode cX5_putInForce 83 = .ok (.iload_n 3, 1) := by decide +kernel
theorem dX5_putInForce_84 : decode cX5_putInForce 84 = .ok (.istore_n 1, 1) := by decide +kernel
theorem dX5_putInForce_85 : decode cX5_putInForce 85 = .ok (.iinc 2 1, 3) := by decide +kernel
theorem dX5_putInForce_88 : decode cX5_putInForce 88 = .ok (.goto (-67), 3) := by decide +kernel
theorem dX5_putInForce_91 : decode cX5_putInForce 91 = .ok (.aload_n 0, 1) := by decide +kernel
theorem dX5_putInForce_92 : decode cX5_putInForce 92 = .ok (.getfield 40, 3) := by decide +kernel
theorem dX5_putInForce_95 : decode cX5_putInForce 95 = .ok (.ireturn, 1) := by decide +kernel
theorem dX5_readItem_0 : decode cX5_readItem 0 = .ok (.aload_n 0, 1) := by decide +kernel
theorem dX5_readItem_1 : decode cX5_readItem 1 = .ok (.getfield 9, 3) := by decide +kernel
theorem dX5_readItem_4 : decode cX5_readItem 4 = .ok (.iload_n 1, 1) := by decide +kernel
theorem dX5_readItem_5 : decode cX5_readItem 5 = .ok (.iaload, 1) := by decide +kernel
theorem dX5_readItem_6 : decode cX5_readItem 6 = .ok (.invokestatic 49, 3) := by decide +kernel
theorem dX5_readItem_9 : decode cX5_readItem 9 = .ok (.istore_n 2, 1) := by decide +kernel
theorem dX5_readItem_10 : decode cX5_readItem 10 = .ok (.iload_n 1, 1) := by decide +kernel
theorem dX5_readItem_11 : decode cX5_readItem 11 = .ok (.iconst 1, 1) := by decide +kernel
theorem dX5_readItem_12 : decode cX5_readItem 12 = .ok (.iadd, 1) := by decide +kernel
theorem dX5_readItem_13 : decode cX5_readItem 13 = .ok (.istore_n 3, 1) := by decide +kernel
theorem dX5_readItem_14 : decode cX5_readItem 14 = .ok (.iconst 0, 1) := by decide +kernel
theorem dX5_readItem_15 : decode cX5_readItem 15 = .ok (.istore 4, 2) := by decide +kernel
theorem dX5_readItem_17 : decode cX5_readItem 17 = .ok (.iload 4, 2) := by decide +kernel
theorem dX5_readItem_19 : decode cX5_readItem 19 = .ok (.iload_n 2, 1) := by decide +kernel
theorem dX5_readItem_20 : decode cX5_readItem 20 = .ok (.if_icmp .ge 83, 3) := by decide +kernel
theorem dX5_readItem_23 : decode cX5_readItem 23 = .ok (.aload_n 0, 1) := by decide +kernel
theorem dX5_readItem_24 : decode cX5_readItem 24 = .ok (.iload_n 3, 1) := by decide +kernel
theorem dX5_readItem_25 : decode cX5_readItem 25 = .ok (.invokevirtual 52, 3) := by decide +kernel
theorem dX5_readItem_28 : decode cX5_readItem 28 = .ok (.istore 5, 2) := by decide +kernel
theorem dX5_readItem_30 : decode cX5_readItem 30 = .ok (.iload 5, 2) := by decide +kernel
theorem dX5_readItem_32 : decode cX5_readItem 32 = .ok (.ifCond .ne 5, 3) := by decide +kernel
theorem dX5_readItem_35 : decode cX5_readItem 35 = .ok (.iconst (-1), 1) := by decide +kernel
theorem dX5_readItem_36 : decode cX5_readItem 36 = .ok (.ireturn, 1) := by decide +kernel
theorem dX5_readItem_37 : decode cX5_readItem 37 = .ok (.aload_n 0, 1) := by decide +kernel
theorem dX5_readItem_38 : decode cX5_readItem 38 = .ok (.getfield 15, 3) := by decide +kernel
theorem dX5_readItem_41 : decode cX5_readItem 41 = .ok (.iload 4, 2) := by decide +kernel
theorem dX5_readItem_43 : decode cX5_readItem 43 = .ok (.aload_n 0, 1) := by decide +kernel
theorem dX5_readItem_44 : decode cX5_readItem 44 = .ok (.iload_n 3, 1) := by decide +kernel
theorem dX5_readItem_45 : decode cX5_readItem 45 = .ok (.iload 5, 2) := by decide +kernel
theorem dX5_readItem_47 : decode cX5_readItem 47 = .ok (.invokevirtual 55, 3) := by decide +kernel
theorem dX5_readItem_50 : decode cX5_readItem 50 = .ok (.iastore, 1) := by decide +kernel
theorem dX5_readItem_51 : decode cX5_readItem 51 = .ok (.iload_n 3, 1) := by decide +kernel
theorem dX5_readItem_52 : decode cX5_readItem 52 = .ok (.iload 5, 2) := by decide +kernel
theorem dX5_readItem_54 : decode cX5_readItem 54 = .ok (.iadd, 1) := by decide +kernel
theorem dX5_readItem_55 : decode cX5_readItem 55 = .ok (.istore_n 3, 1) := by decide +kernel
theorem dX5_readItem_56 : decode cX5_readItem 56 = .ok (.iload 4, 2) := by decide +kernel
theorem dX5_readItem_58 : decode cX5_readItem 58 = .ok (.iload_n 2, 1) := by decide +kernel
theorem dX5_readItem_59 : decode cX5_readItem 59 = .ok (.iconst 1, 1) := by decide +kernel
theorem dX5_readItem_60 : decode cX5_readItem 60 = .ok (.isub, 1) := by decide +kernel
theorem dX5_readItem_61 : decode cX5_readItem 61 = .ok (.if_icmp .ne 8, 3) := by decide +kernel
theorem dX5_readItem_64 : decode cX5_readItem 64 = .ok (.bipush 59, 2) := by decide +kernel
theorem dX5_readItem_66 : decode cX5_readItem 66 = .ok (.goto 5, 3) := by decide +kernel
theorem dX5_readItem_69 : decode cX5_readItem 69 = .ok (.bipush 44, 2) := by decide +kernel
theorem dX5_readItem_71 : decode cX5_readItem 71 = .ok (.istore 6, 2) := by decide +kernel
theorem dX5_readItem_73 : decode cX5_readItem 73 = .ok (.iload_n 3, 1) := by decide +kernel
theorem dX5_readItem_74 : decode cX5_readItem 74 = .ok (.aload_n 0, 1) := by decide +kernel
theorem dX5_readItem_75 : decode cX5_readItem 75 = .ok (.getfield 28, 3) := by decide +kernel
theorem dX5_readItem_78 : decode cX5_readItem 78 = .ok (.if_icmp .ge 14, 3) := by decide +kernel
theorem dX5_readItem_81 : decode cX5_readItem 81 = .ok (.aload_n 0, 1) := by decide +kernel
theorem dX5_readItem_82 : decode cX5_readItem 82 = .ok (.getfield 9, 3) := by decide +kernel
theorem dX5_readItem_85 : decode cX5_readItem 85 = .ok (.iload_n 3, 1) := by decide +kernel
theorem dX5_readItem_86 : decode cX5_readItem 86 = .ok (.iaload, 1) := by decide +kernel
theorem dX5_readItem_87 : decode cX5_readItem 87 = .ok (.iload 6, 2) := by decide +kernel
theorem dX5_readItem_89 : decode cX5_readItem 89 = .ok (.if_icmp .eq 5, 3) := by decide +kernel
theorem dX5_readItem_92 : decode cX5_readItem 92 = .ok (.iconst (-1), 1) := by decide +kernel
theorem dX5_readItem_93 : decode cX5_readItem 93 = .ok (.ireturn, 1) := by decide +kernel
theorem dX5_readItem_94 : decode cX5_readItem 94 = .ok (.iinc 3 1, 3) := by decide +kernel
theorem dX5_readItem_97 : decode cX5_readItem 97 = .ok (.iinc 4 1, 3) := by decide +kernel
theorem dX5_readItem_100 : decode cX5_readItem 100 = .ok (.goto (-83), 3) := by decide +kernel
theorem dX5_readItem_103 : decode cX5_readItem 103 = .ok (.aload_n 0, 1) := by decide +kernel
theorem dX5_readItem_104 : decode cX5_readItem 104 = .ok (.aload_n 0, 1) := by decide +kernel
theorem dX5_readItem_105 : decode cX5_readItem 105 = .ok (.getfield 9, 3) := by decide +kernel
theorem dX5_readItem_108 : decode cX5_readItem 108 = .ok (.iload_n 1, 1) := by decide +kernel
theorem dX5_readItem_109 : decode cX5_readItem 109 = .ok (.iaload, 1) := by decide +kernel
theorem dX5_readItem_110 : decode cX5_readItem 110 = .ok (.invokevirtual 59, 3) := by decide +kernel
theorem dX5_readItem_113 : decode cX5_readItem 113 = .ok (.ifCond .eq 7, 3) := by decide +kernel
theorem dX5_readItem_116 : decode cX5_readItem 116 = .ok (.iload_n 3, 1) := by decide +kernel
theorem dX5_readItem_117 : decode cX5_readItem 117 = .ok (.goto 4, 3) := by decide +kernel
theorem dX5_readItem_120 : decode cX5_readItem 120 = .ok (.iconst (-1), 1) := by decide +kernel
theorem dX5_readItem_121 : decode cX5_readItem 121 = .ok (.ireturn, 1) := by decide +kernel
theorem dX5_numbersWanted_0 : decode cX5_numbersWanted 0 = .ok (.iload_n 0, 1) := by decide +kernel
theorem dX5_numbersWanted_1 : decode cX5_numbersWanted 1 = .ok (.lookupswitch 41 #[(110, 39), (114, 35), (120, 37)], 35) := by decide +kernel
theorem dX5_numbersWanted_36 : decode cX5_numbersWanted 36 = .ok (.iconst 5, 1) := by decide +kernel
theorem dX5_numbersWanted_37 : decode cX5_numbersWanted 37 = .ok (.ireturn, 1) := by decide +kernel
theorem dX5_numbersWanted_38 : decode cX5_numbersWanted 38 = .ok (.iconst 4, 1) := by decide +kernel
theorem dX5_numbersWanted_39 : decode cX5_numbersWanted 39 = .ok (.ireturn, 1) := by decide +kernel
theorem dX5_numbersWanted_40 : decode cX5_numbersWanted 40 = .ok (.iconst 2, 1) := by decide +kernel
theorem dX5_numbersWanted_41 : decode cX5_numbersWanted 41 = .ok (.ireturn, 1) := by decide +kernel
theorem dX5_numbersWanted_42 : decode cX5_numbersWanted 42 = .ok (.iconst 0, 1) := by decide +kernel
theorem dX5_numbersWanted_43 : decode cX5_numbersWanted 43 = .ok (.ireturn, 1) := by decide +kernel
theorem dX5_isFigure_0 : decode cX5_isFigure 0 = .ok (.iload_n 1, 1) := by decide +kernel
theorem dX5_isFigure_1 : decode cX5_isFigure 1 = .ok (.aload_n 0, 1) := by decide +kernel
theorem dX5_isFigure_2 : decode cX5_isFigure 2 = .ok (.getfield 28, 3) := by decide +kernel
theorem dX5_isFigure_5 : decode cX5_isFigure 5 = .ok (.if_icmp .ge 29, 3) := by decide +kernel
theorem dX5_isFigure_8 : decode cX5_isFigure 8 = .ok (.aload_n 0, 1) := by decide +kernel
theorem dX5_isFigure_9 : decode cX5_isFigure 9 = .ok (.getfield 9, 3) := by decide +kernel
theorem dX5_isFigure_12 : decode cX5_isFigure 12 = .ok (.iload_n 1, 1) := by decide +kernel
theorem dX5_isFigure_13 : decode cX5_isFigure 13 = .ok (.iaload, 1) := by decide +kernel
theorem dX5_isFigure_14 : decode cX5_isFigure 14 = .ok (.bipush 48, 2) := by decide +kernel
theorem dX5_isFigure_16 : decode cX5_isFigure 16 = .ok (.if_icmp .lt 18, 3) := by decide +kernel
theorem dX5_isFigure_19 : decode cX5_isFigure 19 = .ok (.aload_n 0, 1) := by decide +kernel
theorem dX5_isFigure_20 : decode cX5_isFigure 20 = .ok (.getfield 9, 3) := by decide +kernel
theorem dX5_isFigure_23 : decode cX5_isFigure 23 = .ok (.iload_n 1, 1) := by decide +kernel
theorem dX5_isFigure_24 : decode cX5_isFigure 24 = .ok (.iaload, 1) := by decide +kernel
theorem dX5_isFigure_25 : decode cX5_isFigure 25 = .ok (.bipush 57, 2) := by decide +kernel
theorem dX5_isFigure_27 : decode cX5_isFigure 27 = .ok (.if_icmp .gt 7, 3) := by decide +kernel
theorem dX5_isFigure_30 : decode cX5_isFigure 30 = .ok (.iconst 1, 1) := by decide +kernel
theorem dX5_isFigure_31 : decode cX5_isFigure 31 = .ok (.goto 4, 3) := by decide +kernel
theorem dX5_isFigure_34 : decode cX5_isFigure 34 = .ok (.iconst 0, 1) := by decide +kernel
theorem dX5_isFigure_35 : decode cX5_isFigure 35 = .ok (.ireturn, 1) := by decide +kernel
theorem dX5_figuresAt_0 : decode cX5_figuresAt 0 = .ok (.aload_n 0, 1) := by decide +kernel
theorem dX5_figuresAt_1 : decode cX5_figuresAt 1 = .ok (.iload_n 1, 1) := by decide +kernel
theorem dX5_figuresAt_2 : decode cX5_figuresAt 2 = .ok (.invokevirtual 63, 3) := by decide +kernel
theorem dX5_figuresAt_5 : decode cX5_figuresAt 5 = .ok (.ifCond .ne 5, 3) := by decide +kernel
theorem dX5_figuresAt_8 : decode cX5_figuresAt 8 = .ok (.iconst 0, 1) := by decide +kernel
theorem dX5_figuresAt_9 : decode cX5_figuresAt 9 = .ok (.ireturn, 1) := by decide +kernel
theorem dX5_figuresAt_10 : decode cX5_figuresAt 10 = .ok (.aload_n 0, 1) := by decide +kernel
theorem dX5_figuresAt_11 : decode cX5_figuresAt 11 = .ok (.iload_n 1, 1) := by decide +kernel
theorem dX5_figuresAt_12 : decode cX5_figuresAt 12 = .ok (.iconst 1, 1) := by decide +kernel
theorem dX5_figuresAt_13 : decode cX5_figuresAt 13 = .ok (.iadd, 1) := by decide +kernel
theorem dX5_figuresAt_14 : decode cX5_figuresAt 14 = .ok (.invokevirtual 63, 3) := by decide +kernel
theorem dX5_figuresAt_17 : decode cX5_figuresAt 17 = .ok (.ifCond .eq 7, 3) := by decide +kernel
theorem dX5_figuresAt_20 : decode cX5_figuresAt 20 = .ok (.iconst 2, 1) := by decide +kernel
theorem dX5_figuresAt_21 : decode cX5_figuresAt 21 = .ok (.goto 4, 3) := by decide +kernel
theorem dX5_figuresAt_24 : decode cX5_figuresAt 24 = .ok (.iconst 1, 1) := by decide +kernel
theorem dX5_figuresAt_25 : decode cX5_figuresAt 25 = .ok (.ireturn, 1) := by decide +kernel
theorem dX5_valueAt_0 : decode cX5_valueAt 0 = .ok (.aload_n 0, 1) := by decide +kernel
theorem dX5_valueAt_1 : decode cX5_valueAt 1 = .ok (.getfield 9, 3) := by decide +kernel
theorem dX5_valueAt_4 : decode cX5_valueAt 4 = .ok (.iload_n 1, 1) := by decide +kernel
theorem dX5_valueAt_5 : decode cX5_valueAt 5 = .ok (.iaload, 1) := by decide +kernel
theorem dX5_valueAt_6 : decode cX5_valueAt 6 = .ok (.bipush 48, 2) := by decide +kernel
theorem dX5_valueAt_8 : decode cX5_valueAt 8 = .ok (.isub, 1) := by decide +kernel
theorem dX5_valueAt_9 : decode cX5_valueAt 9 = .ok (.istore_n 3, 1) := by decide +kernel
theorem dX5_valueAt_10 : decode cX5_valueAt 10 = .ok (.iload_n 2, 1) := by decide +kernel
theorem dX5_valueAt_11 : decode cX5_valueAt 11 = .ok (.iconst 1, 1) := by decide +kernel
theorem dX5_valueAt_12 : decode cX5_valueAt 12 = .ok (.if_icmp .ne 7, 3) := by decide +kernel
theorem dX5_valueAt_15 : decode cX5_valueAt 15 = .ok (.iload_n 3, 1) := by decide +kernel
theorem dX5_valueAt_16 : decode cX5_valueAt 16 = .ok (.goto 19, 3) := by decide +kernel
theorem dX5_valueAt_19 : decode cX5_valueAt 19 = .ok (.bipush 10, 2) := by decide +kernel
theorem dX5_valueAt_21 : decode cX5_valueAt 21 = .ok (.iload_n 3, 1) := by decide +kernel
theorem dX5_valueAt_22 : decode cX5_valueAt 22 = .ok (.imul, 1) := by decide +kernel
theorem dX5_valueAt_23 : decode cX5_valueAt 23 = .ok (.aload_n 0, 1) := by decide +kernel
theorem dX5_valueAt_24 : decode cX5_valueAt 24 = .ok (.getfield 9, 3) := by decide +kernel
theorem dX5_valueAt_27 : decode cX5_valueAt 27 = .ok (.iload_n 1, 1) := by decide +kernel
theorem dX5_valueAt_28 : decode cX5_valueAt 28 = .ok (.iconst 1, 1) := by decide +kernel
theorem dX5_valueAt_29 : decode cX5_valueAt 29 = .ok (.iadd, 1) := by decide +kernel
theorem dX5_valueAt_30 : decode cX5_valueAt 30 = .ok (.iaload, 1) := by decide +kernel
theorem dX5_valueAt_31 : decode cX5_valueAt 31 = .ok (.iadd, 1) := by decide +kernel
theorem dX5_valueAt_32 : decode cX5_valueAt 32 = .ok (.bipush 48, 2) := by decide +kernel
theorem dX5_valueAt_34 : decode cX5_valueAt 34 = .ok (.isub, 1) := by decide +kernel
theorem dX5_valueAt_35 : decode cX5_valueAt 35 = .ok (.ireturn, 1) := by decide +kernel
theorem dX5_numbersFit_0 : decode cX5_numbersFit 0 = .ok (.iload_n 1, 1) := by decide +kernel
theorem dX5_numbersFit_1 : decode cX5_numbersFit 1 = .ok (.lookupswitch 159 #[(110, 143), (114, 35), (120, 98)], 35) := by decide +kernel
theorem dX5_numbersFit_36 : decode cX5_numbersFit 36 = .ok (.aload_n 0, 1) := by decide +kernel
theorem dX5_numbersFit_37 : decode cX5_numbersFit 37 = .ok (.getfield 15, 3) := by decide +kernel
theorem dX5_numbersFit_40 : decode cX5_numbersFit 40 = .ok (.iconst 0, 1) := by decide +kernel
theorem dX5_numbersFit_41 : decode cX5_numbersFit 41 = .ok (.iaload, 1) := by decide +kernel
theorem dX5_numbersFit_42 : decode cX5_numbersFit 42 = .ok (.bipush 6, 2) := by decide +kernel
theorem dX5_numbersFit_44 : decode cX5_numbersFit 44 = .ok (.if_icmp .gt 53, 3) := by decide +kernel
theorem dX5_numbersFit_47 : decode cX5_numbersFit 47 = .ok (.aload_n 0, 1) := by decide +kernel
theorem dX5_numbersFit_48 : decode cX5_numbersFit 48 = .ok (.getfield 15, 3) := by decide +kernel
theorem dX5_numbersFit_51 : decode cX5_numbersFit 51 = .ok (.iconst 1, 1) := by decide +kernel
theorem dX5_numbersFit_52 : decode cX5_numbersFit 52 = .ok (.iaload, 1) := by decide +kernel
theorem dX5_numbersFit_53 : decode cX5_numbersFit 53 = .ok (.iconst 4, 1) := by decide +kernel
theorem dX5_numbersFit_54 : decode cX5_numbersFit 54 = .ok (.if_icmp .gt 43, 3) := by decide +kernel
theorem dX5_numbersFit_57 : decode cX5_numbersFit 57 = .ok (.aload_n 0, 1) := by decide +kernel
theorem dX5_numbersFit_58 : decode cX5_numbersFit 58 = .ok (.getfield 15, 3) := by decide +kernel
theorem dX5_numbersFit_61 : decode cX5_numbersFit 61 = .ok (.iconst 2, 1) := by decide +kernel
theorem dX5_numbersFit_62 : decode cX5_numbersFit 62 = .ok (.iaload, 1) := by decide +kernel
theorem dX5_numbersFit_63 : decode cX5_numbersFit 63 = .ok (.iconst 5, 1) := by decide +kernel
theorem dX5_numbersFit_64 : decode cX5_numbersFit 64 = .ok (.if_icmp .gt 33, 3) := by decide +kernel
theorem dX5_numbersFit_67 : decode cX5_numbersFit 67 = .ok (.aload_n 0, 1) := by decide +kernel
theorem dX5_numbersFit_68 : decode cX5_numbersFit 68 = .ok (.getfield 15, 3) := by decide +kernel
theorem dX5_numbersFit_71 : decode cX5_numbersFit 71 = .ok (.iconst 3, 1) := by decide +kernel
theorem dX5_numbersFit_72 : decode cX5_numbersFit 72 = .ok (.iaload, 1) := by decide +kernel
theorem dX5_numbersFit_73 : decode cX5_numbersFit 73 = .ok (.aload_n 0, 1) := by decide +kernel
theorem dX5_numbersFit_74 : decode cX5_numbersFit 74 = .ok (.getfield 15, 3) := by decide +kernel
theorem dX5_numbersFit_77 : decode cX5_numbersFit 77 = .ok (.iconst 4, 1) := by decide +kernel
theorem dX5_numbersFit_78 : decode cX5_numbersFit 78 = .ok (.iaload, 1) := by decide +kernel
theorem dX5_numbersFit_79 : decode cX5_numbersFit 79 = .ok (.if_icmp .gt 18, 3) := by decide +kernel
theorem dX5_numbersFit_82 : decode cX5_numbersFit 82 = .ok (.aload_n 0, 1) := by decide +kernel
theorem dX5_numbersFit_83 : decode cX5_numbersFit 83 = .ok (.getfield 15, 3) := by decide +kernel
theorem dX5_numbersFit_86 : decode cX5_numbersFit 86 = .ok (.iconst 4, 1) := by decide +kernel
theorem dX5_numbersFit_87 : decode cX5_numbersFit 87 = .ok (.iaload, 1) := by decide +kernel
theorem dX5_numbersFit_88 : decode cX5_numbersFit 88 = .ok (.bipush 24, 2) := by decide +kernel
theorem dX5_numbersFit_90 : decode cX5_numbersFit 90 = .ok (.if_icmp .ge 7, 3) := by decide +kernel
theorem dX5_numbersFit_93 : decode cX5_numbersFit 93 = .ok (.iconst 1, 1) := by decide +kernel
theorem dX5_numbersFit_94 : decode cX5_numbersFit 94 = .ok (.goto 4, 3) := by decide +kernel
theorem dX5_numbersFit_97 : decode cX5_numbersFit 97 = .ok (.iconst 0, 1) := by decide +kernel
theorem dX5_numbersFit_98 : decode cX5_numbersFit 98 = .ok (.ireturn, 1) := by decide +kernel
theorem dX5_numbersFit_99 : decode cX5_numbersFit 99 = .ok (.aload_n 0, 1) := by decide +kernel
theorem dX5_numbersFit_100 : decode cX5_numbersFit 100 = .ok (.getfield 15, 3) := by decide +kernel
theorem dX5_numbersFit_103 : decode cX5_numbersFit 103 = .ok (.iconst 0, 1) := by decide +kernel
theorem dX5_numbersFit_104 : decode cX5_numbersFit 104 = .ok (.iaload, 1) := by decide +kernel
theorem dX5_numbersFit_105 : decode cX5_numbersFit 105 = .ok (.aload_n 0, 1) := by decide +kernel
theorem dX5_numbersFit_106 : decode cX5_numbersFit 106 = .ok (.getfield 15, 3) := by decide +kernel
theorem dX5_numbersFit_109 : decode cX5_numbersFit 109 = .ok (.iconst 1, 1) := by decide +kernel
theorem dX5_numbersFit_110 : decode cX5_numbersFit 110 = .ok (.iaload, 1) := by decide +kernel
theorem dX5_numbersFit_111 : decode cX5_numbersFit 111 = .ok (.invokestatic 66, 3) := by decide +kernel
theorem dX5_numbersFit_114 : decode cX5_numbersFit 114 = .ok (.ifCond .eq 28, 3) := by decide +kernel
theorem dX5_numbersFit_117 : decode cX5_numbersFit 117 = .ok (.aload_n 0, 1) := by decide +kernel
theorem dX5_numbersFit_118 : decode cX5_numbersFit 118 = .ok (.getfield 15, 3) := by decide +kernel
theorem dX5_numbersFit_121 : decode cX5_numbersFit 121 = .ok (.iconst 2, 1) := by decide +kernel
theorem dX5_numbersFit_122 : decode cX5_numbersFit 122 = .ok (.iaload, 1) := by decide +kernel
theorem dX5_numbersFit_123 : decode cX5_numbersFit 123 = .ok (.bipush 10, 2) := by decide +kernel
theorem dX5_numbersFit_125 : decode cX5_numbersFit 125 = .ok (.if_icmp .ge 17, 3) := by decide +kernel
theorem dX5_numbersFit_128 : decode cX5_numbersFit 128 = .ok (.aload_n 0, 1) := by decide +kernel
theorem dX5_numbersFit_129 : decode cX5_numbersFit 129 = .ok (.getfield 15, 3) := by decide +kernel
theorem dX5_numbersFit_132 : decode cX5_numbersFit 132 = .ok (.iconst 3, 1) := by decide +kernel
theorem dX5_numbersFit_133 : decode cX5_numbersFit 133 = .ok (.iaload, 1) := by decide +kernel
theorem dX5_numbersFit_134 : decode cX5_numbersFit 134 = .ok (.iconst 3, 1) := by decide +kernel
theorem dX5_numbersFit_135 : decode cX5_numbersFit 135 = .ok (.if_icmp .gt 7, 3) := by decide +kernel
theorem dX5_numbersFit_138 : decode cX5_numbersFit 138 = .ok (.iconst 1, 1) := by decide +kernel
theorem dX5_numbersFit_139 : decode cX5_numbersFit 139 = .ok (.goto 4, 3) := by decide +kernel
theorem dX5_numbersFit_142 : decode cX5_numbersFit 142 = .ok (.iconst 0, 1) := by decide +kernel
theorem dX5_numbersFit_143 : decode cX5_numbersFit 143 = .ok (.ireturn, 1) := by decide +kernel
theorem dX5_numbersFit_144 : decode cX5_numbersFit 144 = .ok (.aload_n 0, 1) := by decide +kernel
theorem dX5_numbersFit_145 : decode cX5_numbersFit 145 = .ok (.getfield 15, 3) := by decide +kernel
theorem dX5_numbersFit_148 : decode cX5_numbersFit 148 = .ok (.iconst 0, 1) := by decide +kernel
theorem dX5_numbersFit_149 : decode cX5_numbersFit 149 = .ok (.iaload, 1) := by decide +kernel
theorem dX5_numbersFit_150 : decode cX5_numbersFit 150 = .ok (.aload_n 0, 1) := by decide +kernel
theorem dX5_numbersFit_151 : decode cX5_numbersFit 151 = .ok (.getfield 15, 3) := by decide +kernel
theorem dX5_numbersFit_154 : decode cX5_numbersFit 154 = .ok (.iconst 1, 1) := by decide +kernel
theorem dX5_numbersFit_155 : decode cX5_numbersFit 155 = .ok (.iaload, 1) := by decide +kernel
theorem dX5_numbersFit_156 : decode cX5_numbersFit 156 = .ok (.invokestatic 66, 3) := by decide +kernel
theorem dX5_numbersFit_159 : decode cX5_numbersFit 159 = .ok (.ireturn, 1) := by decide +kernel
theorem dX5_numbersFit_160 : decode cX5_numbersFit 160 = .ok (.iconst 0, 1) := by decide +kernel
theorem dX5_numbersFit_161 : decode cX5_numbersFit 161 = .ok (.ireturn, 1) := by decide +kernel
theorem dX5_isBarrable_0 : decode cX5_isBarrable 0 = .ok (.iload_n 0, 1) := by decide +kernel
theorem dX5_isBarrable_1 : decode cX5_isBarrable 1 = .ok (.bipush 10, 2) := by decide +kernel
theorem dX5_isBarrable_3 : decode cX5_isBarrable 3 = .ok (.if_icmp .ge 16, 3) := by decide +kernel
theorem dX5_isBarrable_6 : decode cX5_isBarrable 6 = .ok (.iload_n 1, 1) := by decide +kernel
theorem dX5_isBarrable_7 : decode cX5_isBarrable 7 = .ok (.iconst 1, 1) := by decide +kernel
theorem dX5_isBarrable_8 : decode cX5_isBarrable 8 = .ok (.iconst 3, 1) := by decide +kernel
theorem dX5_isBarrable_9 : decode cX5_isBarrable 9 = .ok (.invokestatic 70, 3) := by decide +kernel
theorem dX5_isBarrable_12 : decode cX5_isBarrable 12 = .ok (.ifCond .eq 7, 3) := by decide +kernel
theorem dX5_isBarrable_15 : decode cX5_isBarrable 15 = .ok (.iconst 1, 1) := by decide +kernel
theorem dX5_isBarrable_16 : decode cX5_isBarrable 16 = .ok (.goto 4, 3) := by decide +kernel
theorem dX5_isBarrable_19 : decode cX5_isBarrable 19 = .ok (.iconst 0, 1) := by decide +kernel
theorem dX5_isBarrable_20 : decode cX5_isBarrable 20 = .ok (.ireturn, 1) := by decide +kernel
theorem dX5_lets_0 : decode cX5_lets 0 = .ok (.iconst 0, 1) := by decide +kernel
theorem dX5_lets_1 : decode cX5_lets 1 = .ok (.istore 4, 2) := by decide +kernel
theorem dX5_lets_3 : decode cX5_lets 3 = .ok (.iload 4, 2) := by decide +kernel
theorem dX5_lets_5 : decode cX5_lets 5 = .ok (.aload_n 0, 1) := by decide +kernel
theorem dX5_lets_6 : decode cX5_lets 6 = .ok (.getfield 40, 3) := by decide +kernel
theorem dX5_lets_9 : decode cX5_lets 9 = .ok (.if_icmp .ge 37, 3) := by decide +kernel
theorem dX5_lets_12 : decode cX5_lets 12 = .ok (.aload_n 0, 1) := by decide +kernel
theorem dX5_lets_13 : decode cX5_lets 13 = .ok (.getfield 18, 3) := by decide +kernel
theorem dX5_lets_16 : decode cX5_lets 16 = .ok (.iload 4, 2) := by decide +kernel
theorem dX5_lets_18 : decode cX5_lets 18 = .ok (.iaload, 1) := by decide +kernel
theorem dX5_lets_19 : decode cX5_lets 19 = .ok (.bipush 114, 2) := by decide +kernel
theorem dX5_lets_21 : decode cX5_lets 21 = .ok (.if_icmp .ne 19, 3) := by decide +kernel
theorem dX5_lets_24 : decode cX5_lets 24 = .ok (.aload_n 0, 1) := by decide +kernel
theorem dX5_lets_25 : decode cX5_lets 25 = .ok (.iload 4, 2) := by decide +kernel
theorem dX5_lets_27 : decode cX5_lets 27 = .ok (.iconst 5, 1) := by decide +kernel
theorem dX5_lets_28 : decode cX5_lets 28 = .ok (.imul, 1) := by decide +kernel
theorem dX5_lets_29 : decode cX5_lets 29 = .ok (.iload_n 1, 1) := by decide +kernel
theorem dX5_lets_30 : decode cX5_lets 30 = .ok (.iload_n 2, 1) := by decide +kernel
theorem dX5_lets_31 : decode cX5_lets 31 = .ok (.iload_n 3, 1) := by decide +kernel
theorem dX5_lets_32 : decode cX5_lets 32 = .ok (.invokevirtual 74, 3) := by decide +kernel
theorem dX5_lets_35 : decode cX5_lets 35 = .ok (.ifCond .eq 5, 3) := by decide +kernel
theorem dX5_lets_38 : decode cX5_lets 38 = .ok (.iconst 1, 1) := by decide +kernel
theorem dX5_lets_39 : decode cX5_lets 39 = .ok (.ireturn, 1) := by decide +kernel
theorem dX5_lets_40 : decode cX5_lets 40 = .ok (.iinc 4 1, 3) := by decide +kernel
theorem dX5_lets_43 : decode cX5_lets 43 = .ok (.goto (-40), 3) := by decide +kernel
theorem dX5_lets_46 : decode cX5_lets 46 = .ok (.iconst 0, 1) := by decide +kernel
theorem dX5_lets_47 : decode cX5_lets 47 = .ok (.ireturn, 1) := by decide +kernel
theorem dX5_letsByItem_0 : decode cX5_letsByItem 0 = .ok (.aload_n 0, 1) := by decide +kernel
theorem dX5_letsByItem_1 : decode cX5_letsByItem 1 = .ok (.getfield 21, 3) := by decide +kernel
theorem dX5_letsByItem_4 : decode cX5_letsByItem 4 = .ok (.iload_n 1, 1) := by decide +kernel
theorem dX5_letsByItem_5 : decode cX5_letsByItem 5 = .ok (.iconst 1, 1) := by decide +kernel
theorem dX5_letsByItem_6 : decode cX5_letsByItem 6 = .ok (.iadd, 1) := by decide +kernel
theorem dX5_letsByItem_7 : decode cX5_letsByItem 7 = .ok (.iaload, 1) := by decide +kernel
theorem dX5_letsByItem_8 : decode cX5_letsByItem 8 = .ok (.istore 5, 2) := by decide +kernel
theorem dX5_letsByItem_10 : decode cX5_letsByItem 10 = .ok (.aload_n 0, 1) := by decide +kernel
theorem dX5_letsByItem_11 : decode cX5_letsByItem 11 = .ok (.getfield 21, 3) := by decide +kernel
theorem dX5_letsByItem_14 : decode cX5_letsByItem 14 = .ok (.iload_n 1, 1) := by decide +kernel
theorem dX5_letsByItem_15 : decode cX5_letsByItem 15 = .ok (.iconst 2, 1) := by decide +kernel
theorem dX5_letsByItem_16 : decode cX5_letsByItem 16 = .ok (.iadd, 1) := by decide +kernel
theorem dX5_letsByItem_17 : decode cX5_letsByItem 17 = .ok (.iaload, 1) := by decide +kernel
theorem dX5_letsByItem_18 : decode cX5_letsByItem 18 = .ok (.istore 6, 2) := by decide +kernel
theorem dX5_letsByItem_20 : decode cX5_letsByItem 20 = .ok (.aload_n 0, 1) := by decide +kernel
theorem dX5_letsByItem_21 : decode cX5_letsByItem 21 = .ok (.getfield 21, 3) := by decide +kernel
theorem dX5_letsByItem_24 : decode cX5_letsByItem 24 = .ok (.iload_n 1, 1) := by decide +kernel
theorem dX5_letsByItem_25 : decode cX5_letsByItem 25 = .ok (.iaload, 1) := by decide +kernel
theorem dX5_letsByItem_26 : decode cX5_letsByItem 26 = .ok (.iload_n 2, 1) := by decide +kernel
theorem dX5_letsByItem_27 : decode cX5_letsByItem 27 = .ok (.if_icmp .ne 71, 3) := by decide +kernel
theorem dX5_letsByItem_30 : decode cX5_letsByItem 30 = .ok (.iload 5, 2) := by decide +kernel
theorem dX5_letsByItem_32 : decode cX5_letsByItem 32 = .ok (.iconst 4, 1) := by decide +kernel
theorem dX5_letsByItem_33 : decode cX5_letsByItem 33 = .ok (.if_icmp .eq 17, 3) := by decide +kernel
theorem dX5_letsByItem_36 : decode cX5_letsByItem 36 = .ok (.iload 5, 2) := by decide +kernel
theorem dX5_letsByItem_38 : decode cX5_letsByItem 38 = .ok (.aload_n 0, 1) := by decide +kernel
theorem dX5_letsByItem_39 : decode cX5_letsByItem 39 = .ok (.getfield 24, 3) := by decide +kernel
theorem dX5_letsByItem_42 : decode cX5_letsByItem 42 = .ok (.getfield 78, 3) := by decide +kernel
theorem dX5_letsByItem_45 : decode cX5_letsByItem 45 = .ok (.iload_n 3, 1) := by decide +kernel
theorem dX5_letsByItem_46 : decode cX5_letsByItem 46 = .ok (.iaload, 1) := by decide +kernel
theorem dX5_letsByItem_47 : decode cX5_letsByItem 47 = .ok (.if_icmp .ne 51, 3) := by decide +kernel
theorem dX5_letsByItem_50 : decode cX5_letsByItem 50 = .ok (.iload 6, 2) := by decide +kernel
theorem dX5_letsByItem_52 : decode cX5_letsByItem 52 = .ok (.iconst 5, 1) := by decide +kernel
theorem dX5_letsByItem_53 : decode cX5_letsByItem 53 = .ok (.if_icmp .eq 17, 3) := by decide +kernel
theorem dX5_letsByItem_56 : decode cX5_letsByItem 56 = .ok (.iload 6, 2) := by decide +kernel
theorem dX5_letsByItem_58 : decode cX5_letsByItem 58 = .ok (.aload_n 0, 1) := by decide +kernel
theorem dX5_letsByItem_59 : decode cX5_letsByItem 59 = .ok (.getfield 24, 3) := by decide +kernel
theorem dX5_letsByItem_62 : decode cX5_letsByItem 62 = .ok (.getfield 83, 3) := by decide +kernel
theorem dX5_letsByItem_65 : decode cX5_letsByItem 65 = .ok (.iload_n 3, 1) := by decide +kernel
theorem dX5_letsByItem_66 : decode cX5_letsByItem 66 = .ok (.iaload, 1) := by decide +kernel
theorem dX5_letsByItem_67 : decode cX5_letsByItem 67 = .ok (.if_icmp .ne 31, 3) := by decide +kernel
theorem dX5_letsByItem_70 : decode cX5_letsByItem 70 = .ok (.iload 4, 2) := by decide +kernel
theorem dX5_letsByItem_72 : decode cX5_letsByItem 72 = .ok (.aload_n 0, 1) := by decide +kernel
theorem dX5_letsByItem_73 : decode cX5_letsByItem 73 = .ok (.getfield 21, 3) := by decide +kernel
theorem dX5_letsByItem_76 : decode cX5_letsByItem 76 = .ok (.iload_n 1, 1) := by decide +kernel
theorem dX5_letsByItem_77 : decode cX5_letsByItem 77 = .ok (.iconst 3, 1) := by decide +kernel
theorem dX5_letsByItem_78 : decode cX5_letsByItem 78 = .ok (.iadd, 1) := by decide +kernel
theorem dX5_letsByItem_79 : decode cX5_letsByItem 79 = .ok (.iaload, 1) := by decide +kernel
theorem dX5_letsByItem_80 : decode cX5_letsByItem 80 = .ok (.aload_n 0, 1) := by decide +kernel
theorem dX5_letsByItem_81 : decode cX5_letsByItem 81 = .ok (.getfield 21, 3) := by decide +kernel
theorem dX5_letsByItem_84 : decode cX5_letsByItem 84 = .ok (.iload_n 1, 1) := by decide +kernel
theorem dX5_letsByItem_85 : decode cX5_letsByItem 85 = .ok (.iconst 4, 1) := by decide +kernel
theorem dX5_letsByItem_86 : decode cX5_letsByItem 86 = .ok (.iadd, 1) := by decide +kernel
theorem dX5_letsByItem_87 : decode cX5_letsByItem 87 = .ok (.iaload, 1) := by decide +kernel
theorem dX5_letsByItem_88 : decode cX5_letsByItem 88 = .ok (.invokestatic 70, 3) := by decide +kernel
theorem dX5_letsByItem_91 : decode cX5_letsByItem 91 = .ok (.ifCond .eq 7, 3) := by decide +kernel
theorem dX5_letsByItem_94 : decode cX5_letsByItem 94 = .ok (.iconst 1, 1) := by decide +kernel
theorem dX5_letsByItem_95 : decode cX5_letsByItem 95 = .ok (.goto 4, 3) := by decide +kernel
theorem dX5_letsByItem_98 : decode cX5_letsByItem 98 = .ok (.iconst 0, 1) := by decide +kernel
theorem dX5_letsByItem_99 : decode cX5_letsByItem 99 = .ok (.ireturn, 1) := by decide +kernel
theorem dX5_barring_0 : decode cX5_barring 0 = .ok (.lconst 0, 1) := by decide +kernel
theorem dX5_barring_1 : decode cX5_barring 1 = .ok (.lstore_n 2, 1) := by decide +kernel
theorem dX5_barring_2 : decode cX5_barring 2 = .ok (.iconst 0, 1) := by decide +kernel
theorem dX5_barring_3 : decode cX5_barring 3 = .ok (.istore 4, 2) := by decide +kernel
theorem dX5_barring_5 : decode cX5_barring 5 = .ok (.iload 4, 2) := by decide +kernel
theorem dX5_barring_7 : decode cX5_barring 7 = .ok (.aload_n 0, 1) := by decide +kernel
theorem dX5_barring_8 : decode cX5_barring 8 = .ok (.getfield 40, 3) := by decide +kernel
theorem dX5_barring_11 : decode cX5_barring 11 = .ok (.if_icmp .ge 38, 3) := by decide +kernel
theorem dX5_barring_14 : decode cX5_barring 14 = .ok (.aload_n 0, 1) := by decide +kernel
theorem dX5_barring_15 : decode cX5_barring 15 = .ok (.getfield 18, 3) := by decide +kernel
theorem dX5_barring_18 : decode cX5_barring 18 = .ok (.iload 4, 2) := by decide +kernel
theorem dX5_barring_20 : decode cX5_barring 20 = .ok (.iaload, 1) := by decide +kernel
theorem dX5_barring_21 : decode cX5_barring 21 = .ok (.bipush 114, 2) := by decide +kernel
theorem dX5_barring_23 : decode cX5_barring 23 = .ok (.if_icmp .eq 20, 3) := by decide +kernel
theorem dX5_barring_26 : decode cX5_barring 26 = .ok (.aload_n 0, 1) := by decide +kernel
theorem dX5_barring_27 : decode cX5_barring 27 = .ok (.iload 4, 2) := by decide +kernel
theorem dX5_barring_29 : decode cX5_barring 29 = .ok (.iload_n 1, 1) := by decide +kernel
theorem dX5_barring_30 : decode cX5_barring 30 = .ok (.invokevirtual 86, 3) := by decide +kernel
theorem dX5_barring_33 : decode cX5_barring 33 = .ok (.ifCond .eq 10, 3) := by decide +kernel
theorem dX5_barring_36 : decode cX5_barring 36 = .ok (.lload_n 2, 1) := by decide +kernel
theorem dX5_barring_37 : decode cX5_barring 37 = .ok (.lconst 1, 1) := by decide +kernel
theorem dX5_barring_38 : decode cX5_barring 38 = .ok (.iload 4, 2) := by decide +kernel
theorem dX5_barring_40 : decode cX5_barring 40 = .ok (.lshl, 1) := by decide +kernel
theorem dX5_barring_41 : decode cX5_barring 41 = .ok (.lor, 1) := by decide +kernel
theorem dX5_barring_42 : decode cX5_barring 42 = .ok (.lstore_n 2, 1) := by decide +kernel
theorem dX5_barring_43 : decode cX5_barring 43 = .ok (.iinc 4 1, 3) := by decide +kernel
theorem dX5_barring_46 : decode cX5_barring 46 = .ok (.goto (-41), 3) := by decide +kernel
theorem dX5_barring_49 : decode cX5_barring 49 = .ok (.lload_n 2, 1) := by decide +kernel
theorem dX5_barring_50 : decode cX5_barring 50 = .ok (.lreturn, 1) := by decide +kernel
theorem dX5_barsByItem_0 : decode cX5_barsByItem 0 = .ok (.iload_n 1, 1) := by decide +kernel
theorem dX5_barsByItem_1 : decode cX5_barsByItem 1 = .ok (.iconst 5, 1) := by decide +kernel
theorem dX5_barsByItem_2 : decode cX5_barsByItem 2 = .ok (.imul, 1) := by decide +kernel
theorem dX5_barsByItem_3 : decode cX5_barsByItem 3 = .ok (.istore_n 3, 1) := by decide +kernel
theorem dX5_barsByItem_4 : decode cX5_barsByItem 4 = .ok (.aload_n 0, 1) := by decide +kernel
theorem dX5_barsByItem_5 : decode cX5_barsByItem 5 = .ok (.getfield 21, 3) := by decide +kernel
theorem dX5_barsByItem_8 : decode cX5_barsByItem 8 = .ok (.iload_n 3, 1) := by decide +kernel
theorem dX5_barsByItem_9 : decode cX5_barsByItem 9 = .ok (.iaload, 1) := by decide +kernel
theorem dX5_barsByItem_10 : decode cX5_barsByItem 10 = .ok (.istore 4, 2) := by decide +kernel
theorem dX5_barsByItem_12 : decode cX5_barsByItem 12 = .ok (.iload_n 2, 1) := by decide +kernel
theorem dX5_barsByItem_13 : decode cX5_barsByItem 13 = .ok (.iload 4, 2) := by decide +kernel
theorem dX5_barsByItem_15 : decode cX5_barsByItem 15 = .ok (.invokestatic 89, 3) := by decide +kernel
theorem dX5_barsByItem_18 : decode cX5_barsByItem 18 = .ok (.aload_n 0, 1) := by decide +kernel
theorem dX5_barsByItem_19 : decode cX5_barsByItem 19 = .ok (.getfield 21, 3) := by decide +kernel
theorem dX5_barsByItem_22 : decode cX5_barsByItem 22 = .ok (.iload_n 3, 1) := by decide +kernel
theorem dX5_barsByItem_23 : decode cX5_barsByItem 23 = .ok (.iconst 1, 1) := by decide +kernel
theorem dX5_barsByItem_24 : decode cX5_barsByItem 24 = .ok (.iadd, 1) := by decide +kernel
theorem dX5_barsByItem_25 : decode cX5_barsByItem 25 = .ok (.iaload, 1) := by decide +kernel
theorem dX5_barsByItem_26 : decode cX5_barsByItem 26 = .ok (.if_icmp .ge 5, 3) := by decide +kernel
theorem dX5_barsByItem_29 : decode cX5_barsByItem 29 = .ok (.iconst 0, 1) := by decide +kernel
theorem dX5_barsByItem_30 : decode cX5_barsByItem 30 = .ok (.ireturn, 1) := by decide +kernel
theorem dX5_barsByItem_31 : decode cX5_barsByItem 31 = .ok (.aload_n 0, 1) := by decide +kernel
theorem dX5_barsByItem_32 : decode cX5_barsByItem 32 = .ok (.getfield 18, 3) := by decide +kernel
theorem dX5_barsByItem_35 : decode cX5_barsByItem 35 = .ok (.iload_n 1, 1) := by decide +kernel
theorem dX5_barsByItem_36 : decode cX5_barsByItem 36 = .ok (.iaload, 1) := by decide +kernel
theorem dX5_barsByItem_37 : decode cX5_barsByItem 37 = .ok (.bipush 120, 2) := by decide +kernel
theorem dX5_barsByItem_39 : decode cX5_barsByItem 39 = .ok (.if_icmp .ne 32, 3) := by decide +kernel
theorem dX5_barsByItem_42 : decode cX5_barsByItem 42 = .ok (.iload_n 2, 1) := by decide +kernel
theorem dX5_barsByItem_43 : decode cX5_barsByItem 43 = .ok (.aload_n 0, 1) := by decide +kernel
theorem dX5_barsByItem_44 : decode cX5_barsByItem 44 = .ok (.getfield 21, 3) := by decide +kernel
theorem dX5_barsByItem_47 : decode cX5_barsByItem 47 = .ok (.iload_n 3, 1) := by decide +kernel
theorem dX5_barsByItem_48 : decode cX5_barsByItem 48 = .ok (.iconst 2, 1) := by decide +kernel
theorem dX5_barsByItem_49 : decode cX5_barsByItem 49 = .ok (.iadd, 1) := by decide +kernel
theorem dX5_barsByItem_50 : decode cX5_barsByItem 50 = .ok (.iaload, 1) := by decide +kernel
theorem dX5_barsByItem_51 : decode cX5_barsByItem 51 = .ok (.invokestatic 89, 3) := by decide +kernel
theorem dX5_barsByItem_54 : decode cX5_barsByItem 54 = .ok (.aload_n 0, 1) := by decide +kernel
theorem dX5_barsByItem_55 : decode cX5_barsByItem 55 = .ok (.getfield 21, 3) := by decide +kernel
theorem dX5_barsByItem_58 : decode cX5_barsByItem 58 = .ok (.iload_n 3, 1) := by decide +kernel
theorem dX5_barsByItem_59 : decode cX5_barsByItem 59 = .ok (.iconst 3, 1) := by decide +kernel
theorem dX5_barsByItem_60 : decode cX5_barsByItem 60 = .ok (.iadd, 1) := by decide +kernel
theorem dX5_barsByItem_61 : decode cX5_barsByItem 61 = .ok (.iaload, 1) := by decide +kernel
theorem dX5_barsByItem_62 : decode cX5_barsByItem 62 = .ok (.if_icmp .lt 7, 3) := by decide +kernel
theorem dX5_barsByItem_65 : decode cX5_barsByItem 65 = .ok (.iconst 1, 1) := by decide +kernel
theorem dX5_barsByItem_66 : decode cX5_barsByItem 66 = .ok (.goto 4, 3) := by decide +kernel
theorem dX5_barsByItem_69 : decode cX5_barsByItem 69 = .ok (.iconst 0, 1) := by decide +kernel
theorem dX5_barsByItem_70 : decode cX5_barsByItem 70 = .ok (.ireturn, 1) := by decide +kernel
theorem dX5_barsByItem_71 : decode cX5_barsByItem 71 = .ok (.aload_n 0, 1) := by decide +kernel
theorem dX5_barsByItem_72 : decode cX5_barsByItem 72 = .ok (.getfield 24, 3) := by decide +kernel
theorem dX5_barsByItem_75 : decode cX5_barsByItem 75 = .ok (.getfield 92, 3) := by decide +kernel
theorem dX5_barsByItem_78 : decode cX5_barsByItem 78 = .ok (.aload_n 0, 1) := by decide +kernel
theorem dX5_barsByItem_79 : decode cX5_barsByItem 79 = .ok (.getfield 24, 3) := by decide +kernel
theorem dX5_barsByItem_82 : decode cX5_barsByItem 82 = .ok (.getfield 83, 3) := by decide +kernel
theorem dX5_barsByItem_85 : decode cX5_barsByItem 85 = .ok (.iload 4, 2) := by decide +kernel
theorem dX5_barsByItem_87 : decode cX5_barsByItem 87 = .ok (.iaload, 1) := by decide +kernel
theorem dX5_barsByItem_88 : decode cX5_barsByItem 88 = .ok (.iaload, 1) := by decide +kernel
theorem dX5_barsByItem_89 : decode cX5_barsByItem 89 = .ok (.ifCond .ne 7, 3) := by decide +kernel
theorem dX5_barsByItem_92 : decode cX5_barsByItem 92 = .ok (.iconst 1, 1) := by decide +kernel
theorem dX5_barsByItem_93 : decode cX5_barsByItem 93 = .ok (.goto 4, 3) := by decide +kernel
theorem dX5_barsByItem_96 : decode cX5_barsByItem 96 = .ok (.iconst 0, 1) := by decide +kernel
theorem dX5_barsByItem_97 : decode cX5_barsByItem 97 = .ok (.ireturn, 1) := by decide +kernel
theorem dX5_barsNewly_0 : decode cX5_barsNewly 0 = .ok (.aload_n 0, 1) := by decide +kernel
theorem dX5_barsNewly_1 : decode cX5_barsNewly 1 = .ok (.getfield 40, 3) := by decide +kernel
theorem dX5_barsNewly_4 : decode cX5_barsNewly 4 = .ok (.ifCond .le 27, 3) := by decide +kernel
theorem dX5_barsNewly_7 : decode cX5_barsNewly 7 = .ok (.aload_n 0, 1) := by decide +kernel
theorem dX5_barsNewly_8 : decode cX5_barsNewly 8 = .ok (.iload_n 2, 1) := by decide +kernel
theorem dX5_barsNewly_9 : decode cX5_barsNewly 9 = .ok (.invokevirtual 95, 3) := by decide +kernel
theorem dX5_barsNewly_12 : decode cX5_barsNewly 12 = .ok (.aload_n 0, 1) := by decide +kernel
theorem dX5_barsNewly_13 : decode cX5_barsNewly 13 = .ok (.iload_n 1, 1) := by decide +kernel
theorem dX5_barsNewly_14 : decode cX5_barsNewly 14 = .ok (.invokevirtual 95, 3) := by decide +kernel
theorem dX5_barsNewly_17 : decode cX5_barsNewly 17 = .ok (.ldc2_w 99, 3) := by decide +kernel
theorem dX5_barsNewly_20 : decode cX5_barsNewly 20 = .ok (.lxor, 1) := by decide +kernel
theorem dX5_barsNewly_21 : decode cX5_barsNewly 21 = .ok (.land, 1) := by decide +kernel
theorem dX5_barsNewly_22 : decode cX5_barsNewly 22 = .ok (.lconst 0, 1) := by decide +kernel
theorem dX5_barsNewly_23 : decode cX5_barsNewly 23 = .ok (.lcmp, 1) := by decide +kernel
theorem dX5_barsNewly_24 : decode cX5_barsNewly 24 = .ok (.ifCond .eq 7, 3) := by decide +kernel
theorem dX5_barsNewly_27 : decode cX5_barsNewly 27 = .ok (.iconst 1, 1) := by decide +kernel
theorem dX5_barsNewly_28 : decode cX5_barsNewly 28 = .ok (.goto 4, 3) := by decide +kernel
theorem dX5_barsNewly_31 : decode cX5_barsNewly 31 = .ok (.iconst 0, 1) := by decide +kernel
theorem dX5_barsNewly_32 : decode cX5_barsNewly 32 = .ok (.ireturn, 1) := by decide +kernel
theorem dX6_init_0 : decode cX6_init 0 = .ok (.aload_n 0, 1) := by decide +kernel
theorem dX6_init_1 : decode cX6_init 1 = .ok (.invokespecial 3, 3) := by decide +kernel
theorem dX6_init_4 : decode cX6_init 4 = .ok (.aload_n 0, 1) := by decide +kernel
theorem dX6_init_5 : decode cX6_init 5 = .ok (.bipush 8, 2) := by decide +kernel
theorem dX6_init_7 : decode cX6_init 7 = .ok (.newarray .int, 2) := by decide +kernel
theorem dX6_init_9 : decode cX6_init 9 = .ok (.putfield 9, 3) := by decide +kernel
theorem dX6_init_12 : decode cX6_init 12 = .ok (.aload_n 0, 1) := by decide +kernel
theorem dX6_init_13 : decode cX6_init 13 = .ok (.bipush 8, 2) := by decide +kernel
theorem dX6_init_15 : decode cX6_init 15 = .ok (.newarray .int, 2) := by decide +kernel
theorem dX6_init_17 : decode cX6_init 17 = .ok (.putfield 15, 3) := by decide +kernel
theorem dX6_init_20 : decode cX6_init 20 = .ok (.aload_n 0, 1) := by decide +kernel
theorem dX6_init_21 : decode cX6_init 21 = .ok (.bipush 8, 2) := by decide +kernel
theorem dX6_init_23 : decode cX6_init 23 = .ok (.newarray .int, 2) := by decide +kernel
theorem dX6_init_25 : decode cX6_init 25 = .ok (.putfield 18, 3) := by decide +kernel
theorem dX6_init_28 : decode cX6_init 28 = .ok (.aload_n 0, 1) := by decide +kernel
theorem dX6_init_29 : decode cX6_init 29 = .ok (.bipush 8, 2) := by decide +kernel
theorem dX6_init_31 : decode cX6_init 31 = .ok (.newarray .int, 2) := by decide +kernel
theorem dX6_init_33 : decode cX6_init 33 = .ok (.putfield 21, 3) := by decide +kernel
theorem dX6_init_36 : decode cX6_init 36 = .ok (.aload_n 0, 1) := by decide +kernel
theorem dX6_init_37 : decode cX6_init 37 = .ok (.sipush 256, 3) := by decide +kernel
theorem dX6_init_40 : decode cX6_init 40 = .ok (.newarray .int, 2) := by decide +kernel
theorem dX6_init_42 : decode cX6_init 42 = .ok (.putfield 24, 3) := by decide +kernel
theorem dX6_init_45 : decode cX6_init 45 = .ok (.aload_n 0, 1) := by decide +kernel
theorem dX6_init_46 : decode cX6_init 46 = .ok (.aload_n 1, 1) := by decide +kernel
theorem dX6_init_47 : decode cX6_init 47 = .ok (.putfield 27, 3) := by decide +kernel
theorem dX6_init_50 : decode cX6_init 50 = .ok (.aload_n 0, 1) := by decide +kernel
theorem dX6_init_51 : decode cX6_init 51 = .ok (.aload_n 2, 1) := by decide +kernel
theorem dX6_init_52 : decode cX6_init 52 = .ok (.putfield 31, 3) := by decide +kernel
theorem dX6_init_55 : decode cX6_init 55 = .ok (.return_, 1) := by decide +kernel
theorem dX6_add_0 : decode cX6_add 0 = .ok (.aload_n 0, 1) := by decide +kernel
theorem dX6_add_1 : decode cX6_add 1 = .ok (.getfield 35, 3) := by decide +kernel
theorem dX6_add_4 : decode cX6_add 4 = .ok (.bipush 8, 2) := by decide +kernel
theorem dX6_add_6 : decode cX6_add 6 = .ok (.if_icmp .lt 6, 3) := by decide +kernel
theorem dX6_add_9 : decode cX6_add 9 = .ok (.bipush (-3), 2) := by decide +kernel
theorem dX6_add_11 : decode cX6_add 11 = .ok (.ireturn, 1) := by decide +kernel
theorem dX6_add_12 : decode cX6_add 12 = .ok (.aload_n 0, 1) := by decide +kernel
theorem dX6_add_13 : decode cX6_add 13 = .ok (.getfield 9, 3) := by decide +kernel
theorem dX6_add_16 : decode cX6_add 16 = .ok (.aload_n 0, 1) := by decide +kernel
theorem dX6_add_17 : decode cX6_add 17 = .ok (.getfield 35, 3) := by decide +kernel
theorem dX6_add_20 : decode cX6_add 20 = .ok (.iload_n 1, 1) := by decide +kernel
theorem dX6_add_21 : decode cX6_add 21 = .ok (.iastore, 1) := by decide +kernel
theorem dX6_add_22 : decode cX6_add 22 = .ok (.aload_n 0, 1) := by decide +kernel
theorem dX6_add_23 : decode cX6_add 23 = .ok (.getfield 15, 3) := by decide +kernel
theorem dX6_add_26 : decode cX6_add 26 = .ok (.aload_n 0, 1) := by decide +kernel
theorem dX6_add_27 : decode cX6_add 27 = .ok (.getfield 35, 3) := by decide +kernel
theorem dX6_add_30 : decode cX6_add 30 = .ok (.iload_n 2, 1) := by decide +kernel
theorem dX6_add_31 : decode cX6_add 31 = .ok (.iastore, 1) := by decide +kernel
theorem dX6_add_32 : decode cX6_add 32 = .ok (.aload_n 0, 1) := by decide +kernel
theorem dX6_add_33 : decode cX6_add 33 = .ok (.getfield 18, 3) := by decide +kernel
theorem dX6_add_36 : decode cX6_add 36 = .ok (.aload_n 0, 1) := by decide +kernel
theorem dX6_add_37 : decode cX6_add 37 = .ok (.getfield 35, 3) := by decide +kernel
theorem dX6_add_40 : decode cX6_add 40 = .ok (.iload_n 3, 1) := by decide +kernel
theorem dX6_add_41 : decode cX6_add 41 = .ok (.iastore, 1) := by decide +kernel
theorem dX6_add_42 : decode cX6_add 42 = .ok (.aload_n 0, 1) := by decide +kernel
theorem dX6_add_43 : decode cX6_add 43 = .ok (.getfield 21, 3) := by decide +kernel
theorem dX6_add_46 : decode cX6_add 46 = .ok (.aload_n 0, 1) := by decide +kernel
theorem dX6_add_47 : decode cX6_add 47 = .ok (.getfield 35, 3) := by decide +kernel
theorem dX6_add_50 : decode cX6_add 50 = .ok (.iload 4, 2) := by decide +kernel
theorem dX6_add_52 : decode cX6_add 52 = .ok (.iastore, 1) := by decide +kernel
theorem dX6_add_53 : decode cX6_add 53 = .ok (.aload_n 0, 1) := by decide +kernel
theorem dX6_add_54 : decode cX6_add 54 = .ok (.dup, 1) := by decide +kernel
theorem dX6_add_55 : decode cX6_add 55 = .ok (.getfield 35, 3) := by decide +kernel
theorem dX6_add_58 : decode cX6_add 58 = .ok (.iconst 1, 1) := by decide +kernel
theorem dX6_add_59 : decode cX6_add 59 = .ok (.iadd, 1) := by decide +kernel
theorem dX6_add_60 : decode cX6_add 60 = .ok (.putfield 35, 3) := by decide +kernel
theorem dX6_add_63 : decode cX6_add 63 = .ok (.aload_n 0, 1) := by decide +kernel
theorem dX6_add_64 : decode cX6_add 64 = .ok (.getfield 35, 3) := by decide +kernel
theorem dX6_add_67 : decode cX6_add 67 = .ok (.iconst 1, 1) := by decide +kernel
theorem dX6_add_68 : decode cX6_add 68 = .ok (.isub, 1) := by decide +kernel
theorem dX6_add_69 : decode cX6_add 69 = .ok (.ireturn, 1) := by decide +kernel
theorem dX6_clearRow_0 : decode cX6_clearRow 0 = .ok (.aload_n 0, 1) := by decide +kernel
theorem dX6_clearRow_1 : decode cX6_clearRow 1 = .ok (.iconst 0, 1) := by decide +kernel
theorem dX6_clearRow_2 : decode cX6_clearRow 2 = .ok (.putfield 39, 3) := by decide +kernel
theorem dX6_clearRow_5 : decode cX6_clearRow 5 = .ok (.return_, 1) := by decide +kernel
theorem dX6_rouse_0 : decode cX6_rouse 0 = .ok (.iconst 0, 1) := by decide +kernel
theorem dX6_rouse_1 : decode cX6_rouse 1 = .ok (.istore_n 3, 1) := by decide +kernel
theorem dX6_rouse_2 : decode cX6_rouse 2 = .ok (.iload_n 3, 1) := by decide +kernel
theorem dX6_rouse_3 : decode cX6_rouse 3 = .ok (.aload_n 0, 1) := by decide +kernel
theorem dX6_rouse_4 : decode cX6_rouse 4 = .ok (.getfield 35, 3) := by decide +kernel
theorem dX6_rouse_7 : decode cX6_rouse 7 = .ok (.if_icmp .ge 34, 3) := by decide +kernel
theorem dX6_rouse_10 : decode cX6_rouse 10 = .ok (.aload_n 0, 1) := by decide +kernel
theorem dX6_rouse_11 : decode cX6_rouse 11 = .ok (.getfield 9, 3) := by decide +kernel
theorem dX6_rouse_14 : decode cX6_rouse 14 = .ok (.iload_n 3, 1) := by decide +kernel
theorem dX6_rouse_15 : decode cX6_rouse 15 = .ok (.iaload, 1) := by decide +kernel
theorem dX6_rouse_16 : decode cX6_rouse 16 = .ok (.iload_n 1, 1) := by decide +kernel
theorem dX6_rouse_17 : decode cX6_rouse 17 = .ok (.if_icmp .ne 18, 3) := by decide +kernel
theorem dX6_rouse_20 : decode cX6_rouse 20 = .ok (.aload_n 0, 1) := by decide +kernel
theorem dX6_rouse_21 : decode cX6_rouse 21 = .ok (.getfield 15, 3) := by decide +kernel
theorem dX6_rouse_24 : decode cX6_rouse 24 = .ok (.iload_n 3, 1) := by decide +kernel
theorem dX6_rouse_25 : decode cX6_rouse 25 = .ok (.iaload, 1) := by decide +kernel
theorem dX6_rouse_26 : decode cX6_rouse 26 = .ok (.iload_n 2, 1) := by decide +kernel
theorem dX6_rouse_27 : decode cX6_rouse 27 = .ok (.if_icmp .ne 8, 3) := by decide +kernel
theorem dX6_rouse_30 : decode cX6_rouse 30 = .ok (.aload_n 0, 1) := by decide +kernel
theorem dX6_rouse_31 : decode cX6_rouse 31 = .ok (.iload_n 3, 1) := by decide +kernel
theorem dX6_rouse_32 : decode cX6_rouse 32 = .ok (.invokevirtual 42, 3) := by decide +kernel
theorem dX6_rouse_35 : decode cX6_rouse 35 = .ok (.iinc 3 1, 3) := by decide +kernel
theorem dX6_rouse_38 : decode cX6_rouse 38 = .ok (.goto (-36), 3) := by decide +kernel
theorem dX6_rouse_41 : decode cX6_rouse 41 = .ok (.return_, 1) := by decide +kernel
theorem dX6_putInRow_0 : decode cX6_putInRow 0 = .ok (.aload_n 0, 1) := by decide +kernel
theorem dX6_putInRow_1 : decode cX6_putInRow 1 = .ok (.getfield 39, 3) := by decide +kernel
theorem dX6_putInRow_4 : decode cX6_putInRow 4 = .ok (.sipush 256, 3) := by decide +kernel
theorem dX6_putInRow_7 : decode cX6_putInRow 7 = .ok (.if_icmp .ge 23, 3) := by decide +kernel
theorem dX6_putInRow_10 : decode cX6_putInRow 10 = .ok (.aload_n 0, 1) := by decide +kernel
theorem dX6_putInRow_11 : decode cX6_putInRow 11 = .ok (.getfield 24, 3) := by decide +kernel
theorem dX6_putInRow_14 : decode cX6_putInRow 14 = .ok (.aload_n 0, 1) := by decide +kernel
theorem dX6_putInRow_15 : decode cX6_putInRow 15 = .ok (.getfield 39, 3) := by decide +kernel
theorem dX6_putInRow_18 : decode cX6_putInRow 18 = .ok (.iload_n 1, 1) := by decide +kernel
theorem dX6_putInRow_19 : decode cX6_putInRow 19 = .ok (.iastore, 1) := by decide +kernel
theorem dX6_putInRow_20 : decode cX6_putInRow 20 = .ok (.aload_n 0, 1) := by decide +kernel
theorem dX6_putInRow_21 : decode cX6_putInRow 21 = .ok (.dup, 1) := by decide +kernel
theorem dX6_putInRow_22 : decode cX6_putInRow 22 = .ok (.getfield 39, 3) := by decide +kernel
theorem dX6_putInRow_25 : decode cX6_putInRow 25 = .ok (.iconst 1, 1) := by decide +kernel
theorem dX6_putInRow_26 : decode cX6_putInRow 26 = .ok (.iadd, 1) := by decide +kernel
theorem dX6_putInRow_27 : decode cX6_putInRow 27 = .ok (.putfield 39, 3) := by decide +kernel
theorem dX6_putInRow_30 : decode cX6_putInRow 30 = .ok (.return_, 1) := by decide +kernel
theorem dX6_fireAt_0 : decode cX6_fireAt 0 = .ok (.aload_n 0, 1) := by decide +kernel
theorem dX6_fireAt_1 : decode cX6_fireAt 1 = .ok (.invokevirtual 46, 3) := by decide +kernel
theorem dX6_fireAt_4 : decode cX6_fireAt 4 = .ok (.aload_n 0, 1) := by decide +kernel
theorem dX6_fireAt_5 : decode cX6_fireAt 5 = .ok (.iconst (-1), 1) := by decide +kernel
theorem dX6_fireAt_6 : decode cX6_fireAt 6 = .ok (.iload_n 1, 1) := by decide +kernel
theorem dX6_fireAt_7 : decode cX6_fireAt 7 = .ok (.invokevirtual 49, 3) := by decide +kernel
theorem dX6_fireAt_10 : decode cX6_fireAt 10 = .ok (.aload_n 0, 1) := by decide +kernel
theorem dX6_fireAt_11 : decode cX6_fireAt 11 = .ok (.iconst 0, 1) := by decide +kernel
theorem dX6_fireAt_12 : decode cX6_fireAt 12 = .ok (.invokevirtual 53, 3) := by decide +kernel
theorem dX6_fireAt_15 : decode cX6_fireAt 15 = .ok (.return_, 1) := by decide +kernel
theorem dX6_runRow_0 : decode cX6_runRow 0 = .ok (.iload_n 1, 1) := by decide +kernel
theorem dX6_runRow_1 : decode cX6_runRow 1 = .ok (.istore_n 2, 1) := by decide +kernel
theorem dX6_runRow_2 : decode cX6_runRow 2 = .ok (.iconst 0, 1) := by decide +kernel
theorem dX6_runRow_3 : decode cX6_runRow 3 = .ok (.istore_n 3, 1) := by decide +kernel
theorem dX6_runRow_4 : decode cX6_runRow 4 = .ok (.iload_n 3, 1) := by decide +kernel
theorem dX6_runRow_5 : decode cX6_runRow 5 = .ok (.sipush 256, 3) := by decide +kernel
theorem dX6_runRow_8 : decode cX6_runRow 8 = .ok (.if_icmp .ge 152, 3) := by decide +kernel
theorem dX6_runRow_11 : decode cX6_runRow 11 = .ok (.iload_n 3, 1) := by decide +kernel
theorem dX6_runRow_12 : decode cX6_runRow 12 = .ok (.aload_n 0, 1) := by decide +kernel
theorem dX6_runRow_13 : decode cX6_runRow 13 = .ok (.getfield 39, 3) := by decide +kernel
theorem dX6_runRow_16 : decode cX6_runRow 16 = .ok (.if_icmp .ge 144, 3) := by decide +kernel
theorem dX6_runRow_19 : decode cX6_runRow 19 = .ok (.iload_n 2, 1) := by decide +kernel
theorem dX6_runRow_20 : decode cX6_runRow 20 = .ok (.bipush 30, 2) := by decide +kernel
theorem dX6_runRow_22 : decode cX6_runRow 22 = .ok (.if_icmp .ge 138, 3) := by decide +kernel
theorem dX6_runRow_25 : decode cX6_runRow 25 = .ok (.aload_n 0, 1) := by decide +kernel
theorem dX6_runRow_26 : decode cX6_runRow 26 = .ok (.getfield 24, 3) := by decide +kernel
theorem dX6_runRow_29 : decode cX6_runRow 29 = .ok (.iload_n 3, 1) := by decide +kernel
theorem dX6_runRow_30 : decode cX6_runRow 30 = .ok (.iaload, 1) := by decide +kernel
theorem dX6_runRow_31 : decode cX6_runRow 31 = .ok (.istore 4, 2) := by decide +kernel
theorem dX6_runRow_33 : decode cX6_runRow 33 = .ok (.aload_n 0, 1) := by decide +kernel
theorem dX6_runRow_34 : decode cX6_runRow 34 = .ok (.getfield 27, 3) := by decide +kernel
theorem dX6_runRow_37 : decode cX6_runRow 37 = .ok (.getfield 56, 3) := by decide +kernel
theorem dX6_runRow_40 : decode cX6_runRow 40 = .ok (.aload_n 0, 1) := by decide +kernel
theorem dX6_runRow_41 : decode cX6_runRow 41 = .ok (.getfield 18, 3) := by decide +kernel
theorem dX6_runRow_44 : decode cX6_runRow 44 = .ok (.iload 4, 2) := by decide +kernel
theorem dX6_runRow_46 : decode cX6_runRow 46 = .ok (.iaload, 1) := by decide +kernel
theorem dX6_runRow_47 : decode cX6_runRow 47 = .ok (.aload_n 0, 1) := by decide +kernel
theorem dX6_runRow_48 : decode cX6_runRow 48 = .ok (.getfield 21, 3) := by decide +kernel
theorem dX6_runRow_51 : decode cX6_runRow 51 = .ok (.iload 4, 2) := by decide +kernel
theorem dX6_runRow_53 : decode cX6_runRow 53 = .ok (.iaload, 1) := by decide +kernel
theorem dX6_runRow_54 : decode cX6_runRow 54 = .ok (.invokestatic 61, 3) := by decide +kernel
theorem dX6_runRow_57 : decode cX6_runRow 57 = .ok (.istore 5, 2) := by decide +kernel
theorem dX6_runRow_59 : decode cX6_runRow 59 = .ok (.iload 5, 2) := by decide +kernel
theorem dX6_runRow_61 : decode cX6_runRow 61 = .ok (.aload_n 0, 1) := by decide +kernel
theorem dX6_runRow_62 : decode cX6_runRow 62 = .ok (.getfield 27, 3) := by decide +kernel
theorem dX6_runRow_65 : decode cX6_runRow 65 = .ok (.getfield 56, 3) := by decide +kernel
theorem dX6_runRow_68 : decode cX6_runRow 68 = .ok (.if_icmp .ne 6, 3) := by decide +kernel
theorem dX6_runRow_71 : decode cX6_runRow 71 = .ok (.goto 83, 3) := by decide +kernel
theorem dX6_runRow_74 : decode cX6_runRow 74 = .ok (.aload_n 0, 1) := by decide +kernel
theorem dX6_runRow_75 : decode cX6_runRow 75 = .ok (.getfield 31, 3) := by decide +kernel
theorem dX6_runRow_78 : decode cX6_runRow 78 = .ok (.aload_n 0, 1) := by decide +kernel
theorem dX6_runRow_79 : decode cX6_runRow 79 = .ok (.getfield 27, 3) := by decide +kernel
theorem dX6_runRow_82 : decode cX6_runRow 82 = .ok (.getfield 56, 3) := by decide +kernel
theorem dX6_runRow_85 : decode cX6_runRow 85 = .ok (.iload 5, 2) := by decide +kernel
theorem dX6_runRow_87 : decode cX6_runRow 87 = .ok (.invokevirtual 65, 3) := by decide +kernel
theorem dX6_runRow_90 : decode cX6_runRow 90 = .ok (.ifCond .eq 16, 3) := by decide +kernel
theorem dX6_runRow_93 : decode cX6_runRow 93 = .ok (.aload_n 0, 1) := by decide +kernel
theorem dX6_runRow_94 : decode cX6_runRow 94 = .ok (.dup, 1) := by decide +kernel
theorem dX6_runRow_95 : decode cX6_runRow 95 = .ok (.getfield 71, 3) := by decide +kernel
theorem dX6_runRow_98 : decode cX6_runRow 98 = .ok (.iconst 1, 1) := by decide +kernel
theorem dX6_runRow_99 : decode cX6_runRow 99 = .ok (.iadd, 1) := by decide +kernel
theorem dX6_runRow_100 : decode cX6_runRow 100 = .ok (.putfield 71, 3) := by decide +kernel
theorem dX6_runRow_103 : decode cX6_runRow 103 = .ok (.goto 51, 3) := by decide +kernel
theorem dX6_runRow_106 : decode cX6_runRow 106 = .ok (.aload_n 0, 1) := by decide +kernel
theorem dX6_runRow_107 : decode cX6_runRow 107 = .ok (.getfield 27, 3) := by decide +kernel
theorem dX6_runRow_110 : decode cX6_runRow 110 = .ok (.aload_n 0, 1) := by decide +kernel
theorem dX6_runRow_111 : decode cX6_runRow 111 = .ok (.getfield 18, 3) := by decide +kernel
theorem dX6_runRow_114 : decode cX6_runRow 114 = .ok (.iload 4, 2) := by decide +kernel
theorem dX6_runRow_116 : decode cX6_runRow 116 = .ok (.iaload, 1) := by decide +kernel
theorem dX6_runRow_117 : decode cX6_runRow 117 = .ok (.aload_n 0, 1) := by decide +kernel
theorem dX6_runRow_118 : decode cX6_runRow 118 = .ok (.getfield 21, 3) := by decide +kernel
theorem dX6_runRow_121 : decode cX6_runRow 121 = .ok (.iload 4, 2) := by decide +kernel
theorem dX6_runRow_123 : decode cX6_runRow 123 = .ok (.iaload, 1) := by decide +kernel
theorem dX6_runRow_124 : decode cX6_runRow 124 = .ok (.sipush 2000, 3) := by decide +kernel
theorem dX6_runRow_127 : decode cX6_runRow 127 = .ok (.iload 4, 2) := by decide +kernel
theorem dX6_runRow_129 : decode cX6_runRow 129 = .ok (.iadd, 1) := by decide +kernel
theorem dX6_runRow_130 : decode cX6_runRow 130 = .ok (.invokevirtual 74, 3) := by decide +kernel
theorem dX6_runRow_133 : decode cX6_runRow 133 = .ok (.iinc 2 1, 3) := by decide +kernel
theorem dX6_runRow_136 : decode cX6_runRow 136 = .ok (.aload_n 0, 1) := by decide +kernel
theorem dX6_runRow_137 : decode cX6_runRow 137 = .ok (.aload_n 0, 1) := by decide +kernel
theorem dX6_runRow_138 : decode cX6_runRow 138 = .ok (.getfield 18, 3) := by decide +kernel
theorem dX6_runRow_141 : decode cX6_runRow 141 = .ok (.iload 4, 2) := by decide +kernel
theorem dX6_runRow_143 : decode cX6_runRow 143 = .ok (.iaload, 1) := by decide +kernel
theorem dX6_runRow_144 : decode cX6_runRow 144 = .ok (.aload_n 0, 1) := by decide +kernel
theorem dX6_runRow_145 : decode cX6_runRow 145 = .ok (.getfield 21, 3) := by decide +kernel
theorem dX6_runRow_148 : decode cX6_runRow 148 = .ok (.iload 4, 2) := by decide +kernel
theorem dX6_runRow_150 : decode cX6_runRow 150 = .ok (.iaload, 1) := by decide +kernel
theorem dX6_runRow_151 : decode cX6_runRow 151 = .ok (.invokevirtual 49, 3) := by decide +kernel
theorem dX6_runRow_154 : decode cX6_runRow 154 = .ok (.iinc 3 1, 3) := by decide +kernel
theorem dX6_runRow_157 : decode cX6_runRow 157 = .ok (.goto (-153), 3) := by decide +kernel
theorem dX6_runRow_160 : decode cX6_runRow 160 = .ok (.return_, 1) := by decide +kernel
theorem dX6_firstQuarrel_0 : decode cX6_firstQuarrel 0 = .ok (.iconst 0, 1) := by decide +kernel
theorem dX6_firstQuarrel_1 : decode cX6_firstQuarrel 1 = .ok (.istore_n 1, 1) := by decide +kernel
theorem dX6_firstQuarrel_2 : decode cX6_firstQuarrel 2 = .ok (.iload_n 1, 1) := by decide +kernel
theorem dX6_firstQuarrel_3 : decode cX6_firstQuarrel 3 = .ok (.aload_n 0, 1) := by decide +kernel
theorem dX6_firstQuarrel_4 : decode cX6_firstQuarrel 4 = .ok (.getfield 35, 3) := by decide +kernel
theorem dX6_firstQuarrel_7 : decode cX6_firstQuarrel 7 = .ok (.if_icmp .ge 94, 3) := by decide +kernel
theorem dX6_firstQuarrel_10 : decode cX6_firstQuarrel 10 = .ok (.iload_n 1, 1) := by decide +kernel
theorem dX6_firstQuarrel_11 : decode cX6_firstQuarrel 11 = .ok (.iconst 1, 1) := by decide +kernel
theorem dX6_firstQuarrel_12 : decode cX6_firstQuarrel 12 = .ok (.iadd, 1) := by decide +kernel
theorem dX6_firstQuarrel_13 : decode cX6_firstQuarrel 13 = .ok (.istore_n 2, 1) := by decide +kernel
theorem dX6_firstQuarrel_14 : decode cX6_firstQuarrel 14 = .ok (.iload_n 2, 1) := by decide +kernel
theorem dX6_firstQuarrel_15 : decode cX6_firstQuarrel 15 = .ok (.aload_n 0, 1) := by decide +kernel
theorem dX6_firstQuarrel_16 : decode cX6_firstQuarrel 16 = .ok (.getfield 35, 3) := by decide +kernel
theorem dX6_firstQuarrel_19 : decode cX6_firstQuarrel 19 = .ok (.if_icmp .ge 76, 3) := by decide +kernel
theorem dX6_firstQuarrel_22 : decode cX6_firstQuarrel 22 = .ok (.aload_n 0, 1) := by decide +kernel
theorem dX6_firstQuarrel_23 : decode cX6_firstQuarrel 23 = .ok (.getfield 9, 3) := by decide +kernel
theorem dX6_firstQuarrel_26 : decode cX6_firstQuarrel 26 = .ok (.iload_n 1, 1) := by decide +kernel
theorem dX6_firstQuarrel_27 : decode cX6_firstQuarrel 27 = .ok (.iaload, 1) := by decide +kernel
theorem dX6_firstQuarrel_28 : decode cX6_firstQuarrel 28 = .ok (.aload_n 0, 1) := by decide +kernel
theorem dX6_firstQuarrel_29 : decode cX6_firstQuarrel 29 = .ok (.getfield 9, 3) := by decide +kernel
theorem dX6_firstQuarrel_32 : decode cX6_firstQuarrel 32 = .ok (.iload_n 2, 1) := by decide +kernel
theorem dX6_firstQuarrel_33 : decode cX6_firstQuarrel 33 = .ok (.iaload, 1) := by decide +kernel
theorem dX6_firstQuarrel_34 : decode cX6_firstQuarrel 34 = .ok (.if_icmp .ne 55, 3) := by decide +kernel
theorem dX6_firstQuarrel_37 : decode cX6_firstQuarrel 37 = .ok (.aload_n 0, 1) := by decide +kernel
theorem dX6_firstQuarrel_38 : decode cX6_firstQuarrel 38 = .ok (.getfield 15, 3) := by decide +kernel
theorem dX6_firstQuarrel_41 : decode cX6_firstQuarrel 41 = .ok (.iload_n 1, 1) := by decide +kernel
theorem dX6_firstQuarrel_42 : decode cX6_firstQuarrel 42 = .ok (.iaload, 1) := by decide +kernel
theorem dX6_firstQuarrel_43 : decode cX6_firstQuarrel 43 = .ok (.aload_n 0, 1) := by decide +kernel
theorem dX6_firstQuarrel_44 : decode cX6_firstQuarrel 44 = .ok (.getfield 15, 3) := by decide +kernel
theorem dX6_firstQuarrel_47 : decode cX6_firstQuarrel 47 = .ok (.iload_n 2, 1) := by decide +kernel
theorem dX6_firstQuarrel_48 : decode cX6_firstQuarrel 48 = .ok (.iaload, 1) := by decide +kernel
theorem dX6_firstQuarrel_49 : decode cX6_firstQuarrel 49 = .ok (.if_icmp .ne 40, 3) := by decide +kernel
theorem dX6_firstQuarrel_52 : decode cX6_firstQuarrel 52 = .ok (.aload_n 0, 1) := by decide +kernel
theorem dX6_firstQuarrel_53 : decode cX6_firstQuarrel 53 = .ok (.getfield 18, 3) := by decide +kernel
theorem dX6_firstQuarrel_56 : decode cX6_firstQuarrel 56 = .ok (.iload_n 1, 1) := by decide +kernel
theorem dX6_firstQuarrel_57 : decode cX6_firstQuarrel 57 = .ok (.iaload, 1) := by decide +kernel
theorem dX6_firstQuarrel_58 : decode cX6_firstQuarrel 58 = .ok (.aload_n 0, 1) := by decide +kernel
theorem dX6_firstQuarrel_59 : decode cX6_firstQuarrel 59 = .ok (.getfield 18, 3) := by decide +kernel
theorem dX6_firstQuarrel_62 : decode cX6_firstQuarrel 62 = .ok (.iload_n 2, 1) := by decide +kernel
theorem dX6_firstQuarrel_63 : decode cX6_firstQuarrel 63 = .ok (.iaload, 1) := by decide +kernel
theorem dX6_firstQuarrel_64 : decode cX6_firstQuarrel 64 = .ok (.if_icmp .ne 25, 3) := by decide +kernel
theorem dX6_firstQuarrel_67 : decode cX6_firstQuarrel 67 = .ok (.aload_n 0, 1) := by decide +kernel
theorem dX6_firstQuarrel_68 : decode cX6_firstQuarrel 68 = .ok (.getfield 21, 3) := by decide +kernel
theorem dX6_firstQuarrel_71 : decode cX6_firstQuarrel 71 = .ok (.iload_n 1, 1) := by decide +kernel
theorem dX6_firstQuarrel_72 : decode cX6_firstQuarrel 72 = .ok (.iaload, 1) := by decide +kernel
theorem dX6_firstQuarrel_73 : decode cX6_firstQuarrel 73 = .ok (.aload_n 0, 1) := by decide +kernel
theorem dX6_firstQuarrel_74 : decode cX6_firstQuarrel 74 = .ok (.getfield 21, 3) := by decide +kernel
theorem dX6_firstQuarrel_77 : decode cX6_firstQuarrel 77 = .ok (.iload_n 2, 1) := by decide +kernel
theorem dX6_firstQuarrel_78 : decode cX6_firstQuarrel 78 = .ok (.iaload, 1) := by decide +kernel
theorem dX6_firstQuarrel_79 : decode cX6_firstQuarrel 79 = .ok (.if_icmp .eq 10, 3) := by decide +kernel
theorem dX6_firstQuarrel_82 : decode cX6_firstQuarrel 82 = .ok (.bipush 10, 2) := by decide +kernel
theorem dX6_firstQuarrel_84 : decode cX6_firstQuarrel 84 = .ok (.iload_n 1, 1) := by decide +kernel
theorem dX6_firstQuarrel_85 : decode cX6_firstQuarrel 85 = .ok (.imul, 1) := by decide +kernel
theorem dX6_firstQuarrel_86 : decode cX6_firstQuarrel 86 = .ok (.iload_n 2, 1) := by decide +kernel
theorem dX6_firstQuarrel_87 : decode cX6_firstQuarrel 87 = .ok (.iadd, 1) := by decide +kernel
theorem dX6_firstQuarrel_88 : decode cX6_firstQuarrel 88 = .ok (.ireturn, 1) := by decide +kernel
theorem dX6_firstQuarrel_89 : decode cX6_firstQuarrel 89 = .ok (.iinc 2 1, 3) := by decide +kernel
theorem dX6_firstQuarrel_92 : decode cX6_firstQuarrel 92 = .ok (.goto (-78), 3) := by decide +kernel
theorem dX6_firstQuarrel_95 : decode cX6_firstQuarrel 95 = .ok (.iinc 1 1, 3) := by decide +kernel
theorem dX6_firstQuarrel_98 : decode cX6_firstQuarrel 98 = .ok (.goto (-96), 3) := by decide +kernel
theorem dX6_firstQuarrel_101 : decode cX6_firstQuarrel 101 = .ok (.bipush (-4), 2) := by decide +kernel
theorem dX6_firstQuarrel_103 : decode cX6_firstQuarrel 103 = .ok (.ireturn, 1) := by decide +kernel
theorem dX6_firstSelfWaker_0 : decode cX6_firstSelfWaker 0 = .ok (.iconst 0, 1) := by decide +kernel
theorem dX6_firstSelfWaker_1 : decode cX6_firstSelfWaker 1 = .ok (.istore_n 1, 1) := by decide +kernel
theorem dX6_firstSelfWaker_2 : decode cX6_firstSelfWaker 2 = .ok (.iload_n 1, 1) := by decide +kernel
theorem dX6_firstSelfWaker_3 : decode cX6_firstSelfWaker 3 = .ok (.aload_n 0, 1) := by decide +kernel
theorem dX6_firstSelfWaker_4 : decode cX6_firstSelfWaker 4 = .ok (.getfield 35, 3) := by decide +kernel
theorem dX6_firstSelfWaker_7 : decode cX6_firstSelfWaker 7 = .ok (.if_icmp .ge 23, 3) := by decide +kernel
theorem dX6_firstSelfWaker_10 : decode cX6_firstSelfWaker 10 = .ok (.aload_n 0, 1) := by decide +kernel
theorem dX6_firstSelfWaker_11 : decode cX6_firstSelfWaker 11 = .ok (.iload_n 1, 1) := by decide +kernel
theorem dX6_firstSelfWaker_12 : decode cX6_firstSelfWaker 12 = .ok (.invokevirtual 78, 3) := by decide +kernel
theorem dX6_firstSelfWaker_15 : decode cX6_firstSelfWaker 15 = .ok (.iload_n 1, 1) := by decide +kernel
theorem dX6_firstSelfWaker_16 : decode cX6_firstSelfWaker 16 = .ok (.invokestatic 82, 3) := by decide +kernel
theorem dX6_firstSelfWaker_19 : decode cX6_firstSelfWaker 19 = .ok (.ifCond .eq 5, 3) := by decide +kernel
theorem dX6_firstSelfWaker_22 : decode cX6_firstSelfWaker 22 = .ok (.iload_n 1, 1) := by decide +kernel
theorem dX6_firstSelfWaker_23 : decode cX6_firstSelfWaker 23 = .ok (.ireturn, 1) := by decide +kernel
theorem dX6_firstSelfWaker_24 : decode cX6_firstSelfWaker 24 = .ok (.iinc 1 1, 3) := by decide +kernel
theorem dX6_firstSelfWaker_27 : decode cX6_firstSelfWaker 27 = .ok (.goto (-25), 3) := by decide +kernel
theorem dX6_firstSelfWaker_30 : decode cX6_firstSelfWaker 30 = .ok (.bipush (-4), 2) := by decide +kernel
theorem dX6_firstSelfWaker_32 : decode cX6_firstSelfWaker 32 = .ok (.ireturn, 1) := by decide +kernel
theorem dX6_allWokenBy_0 : decode cX6_allWokenBy 0 = .ok (.aload_n 0, 1) := by decide +kernel
theorem dX6_allWokenBy_1 : decode cX6_allWokenBy 1 = .ok (.iload_n 1, 1) := by decide +kernel
theorem dX6_allWokenBy_2 : decode cX6_allWokenBy 2 = .ok (.invokevirtual 85, 3) := by decide +kernel
theorem dX6_allWokenBy_5 : decode cX6_allWokenBy 5 = .ok (.istore_n 2, 1) := by decide +kernel
theorem dX6_allWokenBy_6 : decode cX6_allWokenBy 6 = .ok (.iconst 0, 1) := by decide +kernel
theorem dX6_allWokenBy_7 : decode cX6_allWokenBy 7 = .ok (.istore_n 3, 1) := by decide +kernel
theorem dX6_allWokenBy_8 : decode cX6_allWokenBy 8 = .ok (.iload_n 3, 1) := by decide +kernel
theorem dX6_allWokenBy_9 : decode cX6_allWokenBy 9 = .ok (.bipush 8, 2) := by decide +kernel
theorem dX6_allWokenBy_11 : decode cX6_allWokenBy 11 = .ok (.if_icmp .ge 45, 3) := by decide +kernel
theorem dX6_allWokenBy_14 : decode cX6_allWokenBy 14 = .ok (.iconst 0, 1) := by decide +kernel
theorem dX6_allWokenBy_15 : decode cX6_allWokenBy 15 = .ok (.istore 4, 2) := by decide +kernel
theorem dX6_allWokenBy_17 : decode cX6_allWokenBy 17 = .ok (.iload 4, 2) := by decide +kernel
theorem dX6_allWokenBy_19 : decode cX6_allWokenBy 19 = .ok (.aload_n 0, 1) := by decide +kernel
theorem dX6_allWokenBy_20 : decode cX6_allWokenBy 20 = .ok (.getfield 35, 3) := by decide +kernel
theorem dX6_allWokenBy_23 : decode cX6_allWokenBy 23 = .ok (.if_icmp .ge 27, 3) := by decide +kernel
theorem dX6_allWokenBy_26 : decode cX6_allWokenBy 26 = .ok (.iload_n 2, 1) := by decide +kernel
theorem dX6_allWokenBy_27 : decode cX6_allWokenBy 27 = .ok (.iload 4, 2) := by decide +kernel
theorem dX6_allWokenBy_29 : decode cX6_allWokenBy 29 = .ok (.invokestatic 82, 3) := by decide +kernel
theorem dX6_allWokenBy_32 : decode cX6_allWokenBy 32 = .ok (.ifCond .eq 12, 3) := by decide +kernel
theorem dX6_allWokenBy_35 : decode cX6_allWokenBy 35 = .ok (.iload_n 2, 1) := by decide +kernel
theorem dX6_allWokenBy_36 : decode cX6_allWokenBy 36 = .ok (.aload_n 0, 1) := by decide +kernel
theorem dX6_allWokenBy_37 : decode cX6_allWokenBy 37 = .ok (.iload 4, 2) := by decide +kernel
theorem dX6_allWokenBy_39 : decode cX6_allWokenBy 39 = .ok (.invokevirtual 85, 3) := by decide +kernel
theorem dX6_allWokenBy_42 : decode cX6_allWokenBy 42 = .ok (.ior, 1) := by decide +kernel
theorem dX6_allWokenBy_43 : decode cX6_allWokenBy 43 = .ok (.istore_n 2, 1) := by decide +kernel
theorem dX6_allWokenBy_44 : decode cX6_allWokenBy 44 = .ok (.iinc 4 1, 3) := by decide +kernel
theorem dX6_allWokenBy_47 : decode cX6_allWokenBy 47 = .ok (.goto (-30), 3) := by decide +kernel
theorem dX6_allWokenBy_50 : decode cX6_allWokenBy 50 = .ok (.iinc 3 1, 3) := by decide +kernel
theorem dX6_allWokenBy_53 : decode cX6_allWokenBy 53 = .ok (.goto (-45), 3) := by decide +kernel
theorem dX6_allWokenBy_56 : decode cX6_allWokenBy 56 = .ok (.iload_n 2, 1) := by decide +kernel
theorem dX6_allWokenBy_57 : decode cX6_allWokenBy 57 = .ok (.ireturn, 1) := by decide +kernel
theorem dX6_wokenAtOnceBy_0 : decode cX6_wokenAtOnceBy 0 = .ok (.iconst 0, 1) := by decide +kernel
theorem dX6_wokenAtOnceBy_1 : decode cX6_wokenAtOnceBy 1 = .ok (.istore_n 2, 1) := by decide +kernel
theorem dX6_wokenAtOnceBy_2 : decode cX6_wokenAtOnceBy 2 = .ok (.iconst 0, 1) := by decide +kernel
theorem dX6_wokenAtOnceBy_3 : decode cX6_wokenAtOnceBy 3 = .ok (.istore_n 3, 1) := by decide +kernel
theorem dX6_wokenAtOnceBy_4 : decode cX6_wokenAtOnceBy 4 = .ok (.iload_n 3, 1) := by decide +kernel
theorem dX6_wokenAtOnceBy_5 : decode cX6_wokenAtOnceBy 5 = .ok (.aload_n 0, 1) := by decide +kernel
theorem dX6_wokenAtOnceBy_6 : decode cX6_wokenAtOnceBy 6 = .ok (.getfield 35, 3) := by decide +kernel
theorem dX6_wokenAtOnceBy_9 : decode cX6_wokenAtOnceBy 9 = .ok (.if_icmp .ge 45, 3) := by decide +kernel
theorem dX6_wokenAtOnceBy_12 : decode cX6_wokenAtOnceBy 12 = .ok (.aload_n 0, 1) := by decide +kernel
theorem dX6_wokenAtOnceBy_13 : decode cX6_wokenAtOnceBy 13 = .ok (.getfield 9, 3) := by decide +kernel
theorem dX6_wokenAtOnceBy_16 : decode cX6_wokenAtOnceBy 16 = .ok (.iload_n 3, 1) := by decide +kernel
theorem dX6_wokenAtOnceBy_17 : decode cX6_wokenAtOnceBy 17 = .ok (.iaload, 1) := by decide +kernel
theorem dX6_wokenAtOnceBy_18 : decode cX6_wokenAtOnceBy 18 = .ok (.aload_n 0, 1) := by decide +kernel
theorem dX6_wokenAtOnceBy_19 : decode cX6_wokenAtOnceBy 19 = .ok (.getfield 18, 3) := by decide +kernel
theorem dX6_wokenAtOnceBy_22 : decode cX6_wokenAtOnceBy 22 = .ok (.iload_n 1, 1) := by decide +kernel
theorem dX6_wokenAtOnceBy_23 : decode cX6_wokenAtOnceBy 23 = .ok (.iaload, 1) := by decide +kernel
theorem dX6_wokenAtOnceBy_24 : decode cX6_wokenAtOnceBy 24 = .ok (.if_icmp .ne 24, 3) := by decide +kernel
theorem dX6_wokenAtOnceBy_27 : decode cX6_wokenAtOnceBy 27 = .ok (.aload_n 0, 1) := by decide +kernel
theorem dX6_wokenAtOnceBy_28 : decode cX6_wokenAtOnceBy 28 = .ok (.getfield 15, 3) := by decide +kernel
theorem dX6_wokenAtOnceBy_31 : decode cX6_wokenAtOnceBy 31 = .ok (.iload_n 3, 1) := by decide +kernel
theorem dX6_wokenAtOnceBy_32 : decode cX6_wokenAtOnceBy 32 = .ok (.iaload, 1) := by decide +kernel
theorem dX6_wokenAtOnceBy_33 : decode cX6_wokenAtOnceBy 33 = .ok (.aload_n 0, 1) := by decide +kernel
theorem dX6_wokenAtOnceBy_34 : decode cX6_wokenAtOnceBy 34 = .ok (.getfield 21, 3) := by decide +kernel
theorem dX6_wokenAtOnceBy_37 : decode cX6_wokenAtOnceBy 37 = .ok (.iload_n 1, 1) := by decide +kernel
theorem dX6_wokenAtOnceBy_38 : decode cX6_wokenAtOnceBy 38 = .ok (.iaload, 1) := by decide +kernel
theorem dX6_wokenAtOnceBy_39 : decode cX6_wokenAtOnceBy 39 = .ok (.if_icmp .ne 9, 3) := by decide +kernel
theorem dX6_wokenAtOnceBy_42 : decode cX6_wokenAtOnceBy 42 = .ok (.iload_n 2, 1) := by decide +kernel
theorem dX6_wokenAtOnceBy_43 : decode cX6_wokenAtOnceBy 43 = .ok (.iconst 1, 1) := by decide +kernel
theorem dX6_wokenAtOnceBy_44 : decode cX6_wokenAtOnceBy 44 = .ok (.iload_n 3, 1) := by decide +kernel
theorem dX6_wokenAtOnceBy_45 : decode cX6_wokenAtOnceBy 45 = .ok (.ishl, 1) := by decide +kernel
theorem dX6_wokenAtOnceBy_46 : decode cX6_wokenAtOnceBy 46 = .ok (.ior, 1) := by decide +kernel
theorem dX6_wokenAtOnceBy_47 : decode cX6_wokenAtOnceBy 47 = .ok (.istore_n 2, 1) := by decide +kernel
theorem dX6_wokenAtOnceBy_48 : decode cX6_wokenAtOnceBy 48 = .ok (.iinc 3 1, 3) := by decide +kernel
theorem dX6_wokenAtOnceBy_51 : decode cX6_wokenAtOnceBy 51 = .ok (.goto (-47), 3) := by decide +kernel
theorem dX6_wokenAtOnceBy_54 : decode cX6_wokenAtOnceBy 54 = .ok (.iload_n 2, 1) := by decide +kernel
theorem dX6_wokenAtOnceBy_55 : decode cX6_wokenAtOnceBy 55 = .ok (.ireturn, 1) := by decide +kernel
theorem dX6_firesByHour_0 : decode cX6_firesByHour 0 = .ok (.aload_n 0, 1) := by decide +kernel
theorem dX6_firesByHour_1 : decode cX6_firesByHour 1 = .ok (.getfield 9, 3) := by decide +kernel
theorem dX6_firesByHour_4 : decode cX6_firesByHour 4 = .ok (.iload_n 1, 1) := by decide +kernel
theorem dX6_firesByHour_5 : decode cX6_firesByHour 5 = .ok (.iaload, 1) := by decide +kernel
theorem dX6_firesByHour_6 : decode cX6_firesByHour 6 = .ok (.iconst (-1), 1) := by decide +kernel
theorem dX6_firesByHour_7 : decode cX6_firesByHour 7 = .ok (.if_icmp .ne 26, 3) := by decide +kernel
theorem dX6_firesByHour_10 : decode cX6_firesByHour 10 = .ok (.iload_n 2, 1) := by decide +kernel
theorem dX6_firesByHour_11 : decode cX6_firesByHour 11 = .ok (.aload_n 0, 1) := by decide +kernel
theorem dX6_firesByHour_12 : decode cX6_firesByHour 12 = .ok (.getfield 18, 3) := by decide +kernel
theorem dX6_firesByHour_15 : decode cX6_firesByHour 15 = .ok (.iload_n 1, 1) := by decide +kernel
theorem dX6_firesByHour_16 : decode cX6_firesByHour 16 = .ok (.iaload, 1) := by decide +kernel
theorem dX6_firesByHour_17 : decode cX6_firesByHour 17 = .ok (.invokestatic 88, 3) := by decide +kernel
theorem dX6_firesByHour_20 : decode cX6_firesByHour 20 = .ok (.aload_n 0, 1) := by decide +kernel
theorem dX6_firesByHour_21 : decode cX6_firesByHour 21 = .ok (.getfield 21, 3) := by decide +kernel
theorem dX6_firesByHour_24 : decode cX6_firesByHour 24 = .ok (.iload_n 1, 1) := by decide +kernel
theorem dX6_firesByHour_25 : decode cX6_firesByHour 25 = .ok (.iaload, 1) := by decide +kernel
theorem dX6_firesByHour_26 : decode cX6_firesByHour 26 = .ok (.if_icmp .eq 7, 3) := by decide +kernel
theorem dX6_firesByHour_29 : decode cX6_firesByHour 29 = .ok (.iconst 1, 1) := by decide +kernel
theorem dX6_firesByHour_30 : decode cX6_firesByHour 30 = .ok (.goto 4, 3) := by decide +kernel
theorem dX6_firesByHour_33 : decode cX6_firesByHour 33 = .ok (.iconst 0, 1) := by decide +kernel
theorem dX6_firesByHour_34 : decode cX6_firesByHour 34 = .ok (.ireturn, 1) := by decide +kernel
theorem dX6_statesByFiring_0 : decode cX6_statesByFiring 0 = .ok (.iload_n 2, 1) := by decide +kernel
theorem dX6_statesByFiring_1 : decode cX6_statesByFiring 1 = .ok (.istore 5, 2) := by decide +kernel
theorem dX6_statesByFiring_3 : decode cX6_statesByFiring 3 = .ok (.iconst 0, 1) := by decide +kernel
theorem dX6_statesByFiring_4 : decode cX6_statesByFiring 4 = .ok (.istore 6, 2) := by decide +kernel
theorem dX6_statesByFiring_6 : decode cX6_statesByFiring 6 = .ok (.aload_n 0, 1) := by decide +kernel
theorem dX6_statesByFiring_7 : decode cX6_statesByFiring 7 = .ok (.invokevirtual 46, 3) := by decide +kernel
theorem dX6_statesByFiring_10 : decode cX6_statesByFiring 10 = .ok (.aload_n 0, 1) := by decide +kernel
theorem dX6_statesByFiring_11 : decode cX6_statesByFiring 11 = .ok (.iload_n 1, 1) := by decide +kernel
theorem dX6_statesByFiring_12 : decode cX6_statesByFiring 12 = .ok (.invokevirtual 42, 3) := by decide +kernel
theorem dX6_statesByFiring_15 : decode cX6_statesByFiring 15 = .ok (.iconst 0, 1) := by decide +kernel
theorem dX6_statesByFiring_16 : decode cX6_statesByFiring 16 = .ok (.istore 7, 2) := by decide +kernel
theorem dX6_statesByFiring_18 : decode cX6_statesByFiring 18 = .ok (.iload 7, 2) := by decide +kernel
theorem dX6_statesByFiring_20 : decode cX6_statesByFiring 20 = .ok (.sipush 256, 3) := by decide +kernel
theorem dX6_statesByFiring_23 : decode cX6_statesByFiring 23 = .ok (.if_icmp .ge 112, 3) := by decide +kernel
theorem dX6_statesByFiring_26 : decode cX6_statesByFiring 26 = .ok (.iload 7, 2) := by decide +kernel
theorem dX6_statesByFiring_28 : decode cX6_statesByFiring 28 = .ok (.aload_n 0, 1) := by decide +kernel
theorem dX6_statesByFiring_29 : decode cX6_statesByFiring 29 = .ok (.getfield 39, 3) := by decide +kernel
theorem dX6_statesByFiring_32 : decode cX6_statesByFiring 32 = .ok (.if_icmp .ge 103, 3) := by decide +kernel
theorem dX6_statesByFiring_35 : decode cX6_statesByFiring 35 = .ok (.iload 6, 2) := by decide +kernel
theorem dX6_statesByFiring_37 : decode cX6_statesByFiring 37 = .ok (.bipush 30, 2) := by decide +kernel
theorem dX6_statesByFiring_39 : decode cX6_statesByFiring 39 = .ok (.if_icmp .ge 96, 3) := by decide +kernel
theorem dX6_statesByFiring_42 : decode cX6_statesByFiring 42 = .ok (.aload_n 0, 1) := by decide +kernel
theorem dX6_statesByFiring_43 : decode cX6_statesByFiring 43 = .ok (.getfield 24, 3) := by decide +kernel
theorem dX6_statesByFiring_46 : decode cX6_statesByFiring 46 = .ok (.iload 7, 2) := by decide +kernel
theorem dX6_statesByFiring_48 : decode cX6_statesByFiring 48 = .ok (.iaload, 1) := by decide +kernel
theorem dX6_statesByFiring_49 : decode cX6_statesByFiring 49 = .ok (.istore 8, 2) := by decide +kernel
theorem dX6_statesByFiring_51 : decode cX6_statesByFiring 51 = .ok (.iload 5, 2) := by decide +kernel
theorem dX6_statesByFiring_53 : decode cX6_statesByFiring 53 = .ok (.aload_n 0, 1) := by decide +kernel
theorem dX6_statesByFiring_54 : decode cX6_statesByFiring 54 = .ok (.getfield 18, 3) := by decide +kernel
theorem dX6_statesByFiring_57 : decode cX6_statesByFiring 57 = .ok (.iload 8, 2) := by decide +kernel
theorem dX6_statesByFiring_59 : decode cX6_statesByFiring 59 = .ok (.iaload, 1) := by decide +kernel
theorem dX6_statesByFiring_60 : decode cX6_statesByFiring 60 = .ok (.aload_n 0, 1) := by decide +kernel
theorem dX6_statesByFiring_61 : decode cX6_statesByFiring 61 = .ok (.getfield 21, 3) := by decide +kernel
theorem dX6_statesByFiring_64 : decode cX6_statesByFiring 64 = .ok (.iload 8, 2) := by decide +kernel
theorem dX6_statesByFiring_66 : decode cX6_statesByFiring 66 = .ok (.iaload, 1) := by decide +kernel
theorem dX6_statesByFiring_67 : decode cX6_statesByFiring 67 = .ok (.invokestatic 61, 3) := by decide +kernel
theorem dX6_statesByFiring_70 : decode cX6_statesByFiring 70 = .ok (.istore 9, 2) := by decide +kernel
theorem dX6_statesByFiring_72 : decode cX6_statesByFiring 72 = .ok (.iload 9, 2) := by decide +kernel
theorem dX6_statesByFiring_74 : decode cX6_statesByFiring 74 = .ok (.iload 5, 2) := by decide +kernel
theorem dX6_statesByFiring_76 : decode cX6_statesByFiring 76 = .ok (.if_icmp .ne 6, 3) := by decide +kernel
theorem dX6_statesByFiring_79 : decode cX6_statesByFiring 79 = .ok (.goto 50, 3) := by decide +kernel
theorem dX6_statesByFiring_82 : decode cX6_statesByFiring 82 = .ok (.aload_n 0, 1) := by decide +kernel
theorem dX6_statesByFiring_83 : decode cX6_statesByFiring 83 = .ok (.getfield 31, 3) := by decide +kernel
theorem dX6_statesByFiring_86 : decode cX6_statesByFiring 86 = .ok (.iload 9, 2) := by decide +kernel
theorem dX6_statesByFiring_88 : decode cX6_statesByFiring 88 = .ok (.invokevirtual 92, 3) := by decide +kernel
theorem dX6_statesByFiring_91 : decode cX6_statesByFiring 91 = .ok (.lload_n 3, 1) := by decide +kernel
theorem dX6_statesByFiring_92 : decode cX6_statesByFiring 92 = .ok (.ldc2_w 96, 3) := by decide +kernel
theorem dX6_statesByFiring_95 : decode cX6_statesByFiring 95 = .ok (.lxor, 1) := by decide +kernel
theorem dX6_statesByFiring_96 : decode cX6_statesByFiring 96 = .ok (.land, 1) := by decide +kernel
theorem dX6_statesByFiring_97 : decode cX6_statesByFiring 97 = .ok (.lconst 0, 1) := by decide +kernel
theorem dX6_statesByFiring_98 : decode cX6_statesByFiring 98 = .ok (.lcmp, 1) := by decide +kernel
theorem dX6_statesByFiring_99 : decode cX6_statesByFiring 99 = .ok (.ifCond .eq 5, 3) := by decide +kernel
theorem dX6_statesByFiring_102 : decode cX6_statesByFiring 102 = .ok (.iconst (-1), 1) := by decide +kernel
theorem dX6_statesByFiring_103 : decode cX6_statesByFiring 103 = .ok (.ireturn, 1) := by decide +kernel
theorem dX6_statesByFiring_104 : decode cX6_statesByFiring 104 = .ok (.iload 9, 2) := by decide +kernel
theorem dX6_statesByFiring_106 : decode cX6_statesByFiring 106 = .ok (.istore 5, 2) := by decide +kernel
theorem dX6_statesByFiring_108 : decode cX6_statesByFiring 108 = .ok (.iinc 6 1, 3) := by decide +kernel
theorem dX6_statesByFiring_111 : decode cX6_statesByFiring 111 = .ok (.aload_n 0, 1) := by decide +kernel
theorem dX6_statesByFiring_112 : decode cX6_statesByFiring 112 = .ok (.aload_n 0, 1) := by decide +kernel
theorem dX6_statesByFiring_113 : decode cX6_statesByFiring 113 = .ok (.getfield 18, 3) := by decide +kernel
theorem dX6_statesByFiring_116 : decode cX6_statesByFiring 116 = .ok (.iload 8, 2) := by decide +kernel
theorem dX6_statesByFiring_118 : decode cX6_statesByFiring 118 = .ok (.iaload, 1) := by decide +kernel
theorem dX6_statesByFiring_119 : decode cX6_statesByFiring 119 = .ok (.aload_n 0, 1) := by decide +kernel
theorem dX6_statesByFiring_120 : decode cX6_statesByFiring 120 = .ok (.getfield 21, 3) := by decide +kernel
theorem dX6_statesByFiring_123 : decode cX6_statesByFiring 123 = .ok (.iload 8, 2) := by decide +kernel
theorem dX6_statesByFiring_125 : decode cX6_statesByFiring 125 = .ok (.iaload, 1) := by decide +kernel
theorem dX6_statesByFiring_126 : decode cX6_statesByFiring 126 = .ok (.invokevirtual 49, 3) := by decide +kernel
theorem dX6_statesByFiring_129 : decode cX6_statesByFiring 129 = .ok (.iinc 7 1, 3) := by decide +kernel
theorem dX6_statesByFiring_132 : decode cX6_statesByFiring 132 = .ok (.goto (-114), 3) := by decide +kernel
theorem dX6_statesByFiring_135 : decode cX6_statesByFiring 135 = .ok (.iload 5, 2) := by decide +kernel
theorem dX6_statesByFiring_137 : decode cX6_statesByFiring 137 = .ok (.ireturn, 1) := by decide +kernel
theorem dX7_init_0 : decode cX7_init 0 = .ok (.aload_n 0, 1) := by decide +kernel
theorem dX7_init_1 : decode cX7_init 1 = .ok (.invokespecial 3, 3) := by decide +kernel
theorem dX7_init_4 : decode cX7_init 4 = .ok (.aload_n 0, 1) := by decide +kernel
theorem dX7_init_5 : decode cX7_init 5 = .ok (.bipush 16, 2) := by decide +kernel
theorem dX7_init_7 : decode cX7_init 7 = .ok (.newarray .int, 2) := by decide +kernel
theorem dX7_init_9 : decode cX7_init 9 = .ok (.putfield 9, 3) := by decide +kernel
theorem dX7_init_12 : decode cX7_init 12 = .ok (.aload_n 0, 1) := by decide +kernel
theorem dX7_init_13 : decode cX7_init 13 = .ok (.bipush 16, 2) := by decide +kernel
theorem dX7_init_15 : decode cX7_init 15 = .ok (.newarray .int, 2) := by decide +kernel
theorem dX7_init_17 : decode cX7_init 17 = .ok (.putfield 15, 3) := by decide +kernel
theorem dX7_init_20 : decode cX7_init 20 = .ok (.aload_n 0, 1) := by decide +kernel
theorem dX7_init_21 : decode cX7_init 21 = .ok (.bipush 16, 2) := by decide +kernel
theorem dX7_init_23 : decode cX7_init 23 = .ok (.newarray .int, 2) := by decide +kernel
theorem dX7_init_25 : decode cX7_init 25 = .ok (.putfield 18, 3) := by decide +kernel
theorem dX7_init_28 : decode cX7_init 28 = .ok (.aload_n 0, 1) := by decide +kernel
theorem dX7_init_29 : decode cX7_init 29 = .ok (.bipush 64, 2) := by decide +kernel
theorem dX7_init_31 : decode cX7_init 31 = .ok (.newarray .int, 2) := by decide +kernel
theorem dX7_init_33 : decode cX7_init 33 = .ok (.putfield 21, 3) := by decide +kernel
theorem dX7_init_36 : decode cX7_init 36 = .ok (.aload_n 0, 1) := by decide +kernel
theorem dX7_init_37 : decode cX7_init 37 = .ok (.sipush 256, 3) := by decide +kernel
theorem dX7_init_40 : decode cX7_init 40 = .ok (.newarray .int, 2) := by decide +kernel
theorem dX7_init_42 : decode cX7_init 42 = .ok (.putfield 24, 3) := by decide +kernel
theorem dX7_init_45 : decode cX7_init 45 = .ok (.aload_n 0, 1) := by decide +kernel
theorem dX7_init_46 : decode cX7_init 46 = .ok (.bipush 8, 2) := by decide +kernel
theorem dX7_init_48 : decode cX7_init 48 = .ok (.newarray .int, 2) := by decide +kernel
theorem dX7_init_50 : decode cX7_init 50 = .ok (.putfield 27, 3) := by decide +kernel
theorem dX7_init_53 : decode cX7_init 53 = .ok (.aload_n 0, 1) := by decide +kernel
theorem dX7_init_54 : decode cX7_init 54 = .ok (.getfield 24, 3) := by decide +kernel
theorem dX7_init_57 : decode cX7_init 57 = .ok (.bipush 9, 2) := by decide +kernel
theorem dX7_init_59 : decode cX7_init 59 = .ok (.invokestatic 30, 3) := by decide +kernel
theorem dX7_init_62 : decode cX7_init 62 = .ok (.iconst 0, 1) := by decide +kernel
theorem dX7_init_63 : decode cX7_init 63 = .ok (.istore_n 1, 1) := by decide +kernel
theorem dX7_init_64 : decode cX7_init 64 = .ok (.iload_n 1, 1) := by decide +kernel
theorem dX7_init_65 : decode cX7_init 65 = .ok (.bipush 16, 2) := by decide +kernel
theorem dX7_init_67 : decode cX7_init 67 = .ok (.if_icmp .ge 21, 3) := by decide +kernel
theorem dX7_init_70 : decode cX7_init 70 = .ok (.aload_n 0, 1) := by decide +kernel
theorem dX7_init_71 : decode cX7_init 71 = .ok (.getfield 24, 3) := by decide +kernel
theorem dX7_init_74 : decode cX7_init 74 = .ok (.iload_n 1, 1) := by decide +kernel
theorem dX7_init_75 : decode cX7_init 75 = .ok (.bipush 16, 2) := by decide +kernel
theorem dX7_init_77 : decode cX7_init 77 = .ok (.imul, 1) := by decide +kernel
theorem dX7_init_78 : decode cX7_init 78 = .ok (.iload_n 1, 1) := by decide +kernel
theorem dX7_init_79 : decode cX7_init 79 = .ok (.iadd, 1) := by decide +kernel
theorem dX7_init_80 : decode cX7_init 80 = .ok (.iconst 0, 1) := by decide +kernel
theorem dX7_init_81 : decode cX7_init 81 = .ok (.iastore, 1) := by decide +kernel
theorem dX7_init_82 : decode cX7_init 82 = .ok (.iinc 1 1, 3) := by decide +kernel
theorem dX7_init_85 : decode cX7_init 85 = .ok (.goto (-21), 3) := by decide +kernel
theorem dX7_init_88 : decode cX7_init 88 = .ok (.return_, 1) := by decide +kernel
theorem dX7_setDoubt_0 : decode cX7_setDoubt 0 = .ok (.iload_n 1, 1) := by decide +kernel
theorem dX7_setDoubt_1 : decode cX7_setDoubt 1 = .ok (.bipush 16, 2) := by decide +kernel
theorem dX7_setDoubt_3 : decode cX7_setDoubt 3 = .ok (.imul, 1) := by decide +kernel
theorem dX7_setDoubt_4 : decode cX7_setDoubt 4 = .ok (.iload_n 2, 1) := by decide +kernel
theorem dX7_setDoubt_5 : decode cX7_setDoubt 5 = .ok (.iadd, 1) := by decide +kernel
theorem dX7_setDoubt_6 : decode cX7_setDoubt 6 = .ok (.istore 4, 2) := by decide +kernel
theorem dX7_setDoubt_8 : decode cX7_setDoubt 8 = .ok (.aload_n 0, 1) := by decide +kernel
theorem dX7_setDoubt_9 : decode cX7_setDoubt 9 = .ok (.getfield 24, 3) := by decide +kernel
theorem dX7_setDoubt_12 : decode cX7_setDoubt 12 = .ok (.iload 4, 2) := by decide +kernel
theorem dX7_setDoubt_14 : decode cX7_setDoubt 14 = .ok (.iaload, 1) := by decide +kernel
theorem dX7_setDoubt_15 : decode cX7_setDoubt 15 = .ok (.istore 5, 2) := by decide +kernel
theorem dX7_setDoubt_17 : decode cX7_setDoubt 17 = .ok (.aload_n 0, 1) := by decide +kernel
theorem dX7_setDoubt_18 : decode cX7_setDoubt 18 = .ok (.getfield 24, 3) := by decide +kernel
theorem dX7_setDoubt_21 : decode cX7_setDoubt 21 = .ok (.iload 4, 2) := by decide +kernel
theorem dX7_setDoubt_23 : decode cX7_setDoubt 23 = .ok (.iload_n 3, 1) := by decide +kernel
theorem dX7_setDoubt_24 : decode cX7_setDoubt 24 = .ok (.iastore, 1) := by decide +kernel
theorem dX7_setDoubt_25 : decode cX7_setDoubt 25 = .ok (.iload 5, 2) := by decide +kernel
theorem dX7_setDoubt_27 : decode cX7_setDoubt 27 = .ok (.ireturn, 1) := by decide +kernel
theorem dX7_addWord_0 : decode cX7_addWord 0 = .ok (.aload_n 0, 1) := by decide +kernel
theorem dX7_addWord_1 : decode cX7_addWord 1 = .ok (.getfield 36, 3) := by decide +kernel
theorem dX7_addWord_4 : decode cX7_addWord 4 = .ok (.bipush 16, 2) := by decide +kernel
theorem dX7_addWord_6 : decode cX7_addWord 6 = .ok (.if_icmp .lt 6, 3) := by decide +kernel
theorem dX7_addWord_9 : decode cX7_addWord 9 = .ok (.bipush (-3), 2) := by decide +kernel
theorem dX7_addWord_11 : decode cX7_addWord 11 = .ok (.ireturn, 1) := by decide +kernel
theorem dX7_addWord_12 : decode cX7_addWord 12 = .ok (.aload_n 0, 1) := by decide +kernel
theorem dX7_addWord_13 : decode cX7_addWord 13 = .ok (.getfield 9, 3) := by decide +kernel
theorem dX7_addWord_16 : decode cX7_addWord 16 = .ok (.aload_n 0, 1) := by decide +kernel
theorem dX7_addWord_17 : decode cX7_addWord 17 = .ok (.getfield 36, 3) := by decide +kernel
theorem dX7_addWord_20 : decode cX7_addWord 20 = .ok (.iload_n 1, 1) := by decide +kernel
theorem dX7_addWord_21 : decode cX7_addWord 21 = .ok (.iastore, 1) := by decide +kernel
theorem dX7_addWord_22 : decode cX7_addWord 22 = .ok (.aload_n 0, 1) := by decide +kernel
theorem dX7_addWord_23 : decode cX7_addWord 23 = .ok (.getfield 15, 3) := by decide +kernel
theorem dX7_addWord_26 : decode cX7_addWord 26 = .ok (.aload_n 0, 1) := by decide +kernel
theorem dX7_addWord_27 : decode cX7_addWord 27 = .ok (.getfield 36, 3) := by decide +kernel
theorem dX7_addWord_30 : decode cX7_addWord 30 = .ok (.iload_n 2, 1) := by decide +kernel
theorem dX7_addWord_31 : decode cX7_addWord 31 = .ok (.iastore, 1) := by decide +kernel
theorem dX7_addWord_32 : decode cX7_addWord 32 = .ok (.aload_n 0, 1) := by decide +kernel
theorem dX7_addWord_33 : decode cX7_addWord 33 = .ok (.getfield 18, 3) := by decide +kernel
theorem dX7_addWord_36 : decode cX7_addWord 36 = .ok (.aload_n 0, 1) := by decide +kernel
theorem dX7_addWord_37 : decode cX7_addWord 37 = .ok (.getfield 36, 3) := by decide +kernel
theorem dX7_addWord_40 : decode cX7_addWord 40 = .ok (.iload_n 3, 1) := by decide +kernel
theorem dX7_addWord_41 : decode cX7_addWord 41 = .ok (.iastore, 1) := by decide +kernel
theorem dX7_addWord_42 : decode cX7_addWord 42 = .ok (.iconst 0, 1) := by decide +kernel
theorem dX7_addWord_43 : decode cX7_addWord 43 = .ok (.istore 5, 2) := by decide +kernel
theorem dX7_addWord_45 : decode cX7_addWord 45 = .ok (.iload 5, 2) := by decide +kernel
theorem dX7_addWord_47 : decode cX7_addWord 47 = .ok (.iload_n 3, 1) := by decide +kernel
theorem dX7_addWord_48 : decode cX7_addWord 48 = .ok (.if_icmp .ge 37, 3) := by decide +kernel
theorem dX7_addWord_51 : decode cX7_addWord 51 = .ok (.aload_n 0, 1) := by decide +kernel
theorem dX7_addWord_52 : decode cX7_addWord 52 = .ok (.getfield 21, 3) := by decide +kernel
theorem dX7_addWord_55 : decode cX7_addWord 55 = .ok (.aload_n 0, 1) := by decide +kernel
theorem dX7_addWord_56 : decode cX7_addWord 56 = .ok (.getfield 36, 3) := by decide +kernel
theorem dX7_addWord_59 : decode cX7_addWord 59 = .ok (.iconst 4, 1) := by decide +kernel
theorem dX7_addWord_60 : decode cX7_addWord 60 = .ok (.imul, 1) := by decide +kernel
theorem dX7_addWord_61 : decode cX7_addWord 61 = .ok (.iload 5, 2) := by decide +kernel
theorem dX7_addWord_63 : decode cX7_addWord 63 = .ok (.iadd, 1) := by decide +kernel
theorem dX7_addWord_64 : decode cX7_addWord 64 = .ok (.iload 4, 2) := by decide +kernel
theorem dX7_addWord_66 : decode cX7_addWord 66 = .ok (.iconst 4, 1) := by decide +kernel
theorem dX7_addWord_67 : decode cX7_addWord 67 = .ok (.iload_n 3, 1) := by decide +kernel
theorem dX7_addWord_68 : decode cX7_addWord 68 = .ok (.iconst 1, 1) := by decide +kernel
theorem dX7_addWord_69 : decode cX7_addWord 69 = .ok (.isub, 1) := by decide +kernel
theorem dX7_addWord_70 : decode cX7_addWord 70 = .ok (.iload 5, 2) := by decide +kernel
theorem dX7_addWord_72 : decode cX7_addWord 72 = .ok (.isub, 1) := by decide +kernel
theorem dX7_addWord_73 : decode cX7_addWord 73 = .ok (.imul, 1) := by decide +kernel
theorem dX7_addWord_74 : decode cX7_addWord 74 = .ok (.ishr, 1) := by decide +kernel
theorem dX7_addWord_75 : decode cX7_addWord 75 = .ok (.bipush 15, 2) := by decide +kernel
theorem dX7_addWord_77 : decode cX7_addWord 77 = .ok (.iand, 1) := by decide +kernel
theorem dX7_addWord_78 : decode cX7_addWord 78 = .ok (.iastore, 1) := by decide +kernel
theorem dX7_addWord_79 : decode cX7_addWord 79 = .ok (.iinc 5 1, 3) := by decide +kernel
theorem dX7_addWord_82 : decode cX7_addWord 82 = .ok (.goto (-37), 3) := by decide +kernel
theorem dX7_addWord_85 : decode cX7_addWord 85 = .ok (.aload_n 0, 1) := by decide +kernel
theorem dX7_addWord_86 : decode cX7_addWord 86 = .ok (.dup, 1) := by decide +kernel
theorem dX7_addWord_87 : decode cX7_addWord 87 = .ok (.getfield 36, 3) := by decide +kernel
theorem dX7_addWord_90 : decode cX7_addWord 90 = .ok (.iconst 1, 1) := by decide +kernel
theorem dX7_addWord_91 : decode cX7_addWord 91 = .ok (.iadd, 1) := by decide +kernel
theorem dX7_addWord_92 : decode cX7_addWord 92 = .ok (.putfield 36, 3) := by decide +kernel
theorem dX7_addWord_95 : decode cX7_addWord 95 = .ok (.aload_n 0, 1) := by decide +kernel
theorem dX7_addWord_96 : decode cX7_addWord 96 = .ok (.getfield 36, 3) := by decide +kernel
theorem dX7_addWord_99 : decode cX7_addWord 99 = .ok (.iconst 1, 1) := by decide +kernel
theorem dX7_addWord_100 : decode cX7_addWord 100 = .ok (.isub, 1) := by decide +kernel
theorem dX7_addWord_101 : decode cX7_addWord 101 = .ok (.ireturn, 1) := by decide +kernel
theorem dX7_numberOf_0 : decode cX7_numberOf 0 = .ok (.iload_n 1, 1) := by decide +kernel
theorem dX7_numberOf_1 : decode cX7_numberOf 1 = .ok (.ifCond .lt 20, 3) := by decide +kernel
theorem dX7_numberOf_4 : decode cX7_numberOf 4 = .ok (.iload_n 1, 1) := by decide +kernel
theorem dX7_numberOf_5 : decode cX7_numberOf 5 = .ok (.aload_n 0, 1) := by decide +kernel
theorem dX7_numberOf_6 : decode cX7_numberOf 6 = .ok (.getfield 36, 3) := by decide +kernel
theorem dX7_numberOf_9 : decode cX7_numberOf 9 = .ok (.if_icmp .ge 12, 3) := by decide +kernel
theorem dX7_numberOf_12 : decode cX7_numberOf 12 = .ok (.aload_n 0, 1) := by decide +kernel
theorem dX7_numberOf_13 : decode cX7_numberOf 13 = .ok (.getfield 15, 3) := by decide +kernel
theorem dX7_numberOf_16 : decode cX7_numberOf 16 = .ok (.iload_n 1, 1) := by decide +kernel
theorem dX7_numberOf_17 : decode cX7_numberOf 17 = .ok (.iaload, 1) := by decide +kernel
theorem dX7_numberOf_18 : decode cX7_numberOf 18 = .ok (.goto 4, 3) := by decide +kernel
theorem dX7_numberOf_21 : decode cX7_numberOf 21 = .ok (.iconst 0, 1) := by decide +kernel
theorem dX7_numberOf_22 : decode cX7_numberOf 22 = .ok (.ireturn, 1) := by decide +kernel
theorem dX7_listen_0 : decode cX7_listen 0 = .ok (.aload_n 0, 1) := by decide +kernel
theorem dX7_listen_1 : decode cX7_listen 1 = .ok (.iload_n 1, 1) := by decide +kernel
theorem dX7_listen_2 : decode cX7_listen 2 = .ok (.putfield 40, 3) := by decide +kernel
theorem dX7_listen_5 : decode cX7_listen 5 = .ok (.iconst 0, 1) := by decide +kernel
theorem dX7_listen_6 : decode cX7_listen 6 = .ok (.istore 4, 2) := by decide +kernel
theorem dX7_listen_8 : decode cX7_listen 8 = .ok (.iload 4, 2) := by decide +kernel
theorem dX7_listen_10 : decode cX7_listen 10 = .ok (.iload_n 1, 1) := by decide +kernel
theorem dX7_listen_11 : decode cX7_listen 11 = .ok (.if_icmp .ge 30, 3) := by decide +kernel
theorem dX7_listen_14 : decode cX7_listen 14 = .ok (.aload_n 0, 1) := by decide +kernel
theorem dX7_listen_15 : decode cX7_listen 15 = .ok (.getfield 27, 3) := by decide +kernel
theorem dX7_listen_18 : decode cX7_listen 18 = .ok (.iload 4, 2) := by decide +kernel
theorem dX7_listen_20 : decode cX7_listen 20 = .ok (.lload_n 2, 1) := by decide +kernel
theorem dX7_listen_21 : decode cX7_listen 21 = .ok (.iconst 4, 1) := by decide +kernel
theorem dX7_listen_22 : decode cX7_listen 22 = .ok (.iload_n 1, 1) := by decide +kernel
theorem dX7_listen_23 : decode cX7_listen 23 = .ok (.iconst 1, 1) := by decide +kernel
theorem dX7_listen_24 : decode cX7_listen 24 = .ok (.isub, 1) := by decide +kernel
theorem dX7_listen_25 : decode cX7_listen 25 = .ok (.iload 4, 2) := by decide +kernel
theorem dX7_listen_27 : decode cX7_listen 27 = .ok (.isub, 1) := by decide +kernel
theorem dX7_listen_28 : decode cX7_listen 28 = .ok (.imul, 1) := by decide +kernel
theorem dX7_listen_29 : decode cX7_listen 29 = .ok (.lshr, 1) := by decide +kernel
theorem dX7_listen_30 : decode cX7_listen 30 = .ok (.l2i, 1) := by decide +kernel
theorem dX7_listen_31 : decode cX7_listen 31 = .ok (.bipush 15, 2) := by decide +kernel
theorem dX7_listen_33 : decode cX7_listen 33 = .ok (.iand, 1) := by decide +kernel
theorem dX7_listen_34 : decode cX7_listen 34 = .ok (.iastore, 1) := by decide +kernel
theorem dX7_listen_35 : decode cX7_listen 35 = .ok (.iinc 4 1, 3) := by decide +kernel
theorem dX7_listen_38 : decode cX7_listen 38 = .ok (.goto (-30), 3) := by decide +kernel
theorem dX7_listen_41 : decode cX7_listen 41 = .ok (.return_, 1) := by decide +kernel
theorem dX7_priceNothing_0 : decode cX7_priceNothing 0 = .ok (.iconst 0, 1) := by decide +kernel
theorem dX7_priceNothing_1 : decode cX7_priceNothing 1 = .ok (.istore_n 2, 1) := by decide +kernel
theorem dX7_priceNothing_2 : decode cX7_priceNothing 2 = .ok (.iload_n 2, 1) := by decide +kernel
theorem dX7_priceNothing_3 : decode cX7_priceNothing 3 = .ok (.aload_n 0, 1) := by decide +kernel
theorem dX7_priceNothing_4 : decode cX7_priceNothing 4 = .ok (.getfield 40, 3) := by decide +kernel
theorem dX7_priceNothing_7 : decode cX7_priceNothing 7 = .ok (.if_icmp .gt 16, 3) := by decide +kernel
theorem dX7_priceNothing_10 : decode cX7_priceNothing 10 = .ok (.aload_n 1, 1) := by decide +kernel
theorem dX7_priceNothing_11 : decode cX7_priceNothing 11 = .ok (.iload_n 2, 1) := by decide +kernel
theorem dX7_priceNothing_12 : decode cX7_priceNothing 12 = .ok (.iload_n 2, 1) := by decide +kernel
theorem dX7_priceNothing_13 : decode cX7_priceNothing 13 = .ok (.bipush 6, 2) := by decide +kernel
theorem dX7_priceNothing_15 : decode cX7_priceNothing 15 = .ok (.imul, 1) := by decide +kernel
theorem dX7_priceNothing_16 : decode cX7_priceNothing 16 = .ok (.iastore, 1) := by decide +kernel
theorem dX7_priceNothing_17 : decode cX7_priceNothing 17 = .ok (.iinc 2 1, 3) := by decide +kernel
theorem dX7_priceNothing_20 : decode cX7_priceNothing 20 = .ok (.goto (-18), 3) := by decide +kernel
theorem dX7_priceNothing_23 : decode cX7_priceNothing 23 = .ok (.return_, 1) := by decide +kernel
theorem dX7_priceWithWord_0 : decode cX7_priceWithWord 0 = .ok (.aload_n 1, 1) := by decide +kernel
theorem dX7_priceWithWord_1 : decode cX7_priceWithWord 1 = .ok (.iconst 0, 1) := by decide +kernel
theorem dX7_priceWithWord_2 : decode cX7_priceWithWord 2 = .ok (.aload_n 2, 1) := by decide +kernel
theorem dX7_priceWithWord_3 : decode cX7_priceWithWord 3 = .ok (.iconst 0, 1) := by decide +kernel
theorem dX7_priceWithWord_4 : decode cX7_priceWithWord 4 = .ok (.aload_n 0, 1) := by decide +kernel
theorem dX7_priceWithWord_5 : decode cX7_priceWithWord 5 = .ok (.getfield 40, 3) := by decide +kernel
theorem dX7_priceWithWord_8 : decode cX7_priceWithWord 8 = .ok (.iconst 1, 1) := by decide +kernel
theorem dX7_priceWithWord_9 : decode cX7_priceWithWord 9 = .ok (.iadd, 1) := by decide +kernel
theorem dX7_priceWithWord_10 : decode cX7_priceWithWord 10 = .ok (.invokestatic 43, 3) := by decide +kernel
theorem dX7_priceWithWord_13 : decode cX7_priceWithWord 13 = .ok (.iconst 0, 1) := by decide +kernel
theorem dX7_priceWithWord_14 : decode cX7_priceWithWord 14 = .ok (.istore 4, 2) := by decide +kernel
theorem dX7_priceWithWord_16 : decode cX7_priceWithWord 16 = .ok (.iload 4, 2) := by decide +kernel
theorem dX7_priceWithWord_18 : decode cX7_priceWithWord 18 = .ok (.aload_n 0, 1) := by decide +kernel
theorem dX7_priceWithWord_19 : decode cX7_priceWithWord 19 = .ok (.getfield 18, 3) := by decide +kernel
theorem dX7_priceWithWord_22 : decode cX7_priceWithWord 22 = .ok (.iload_n 3, 1) := by decide +kernel
theorem dX7_priceWithWord_23 : decode cX7_priceWithWord 23 = .ok (.iaload, 1) := by decide +kernel
theorem dX7_priceWithWord_24 : decode cX7_priceWithWord 24 = .ok (.if_icmp .ge 25, 3) := by decide +kernel
theorem dX7_priceWithWord_27 : decode cX7_priceWithWord 27 = .ok (.aload_n 0, 1) := by decide +kernel
theorem dX7_priceWithWord_28 : decode cX7_priceWithWord 28 = .ok (.aload_n 2, 1) := by decide +kernel
theorem dX7_priceWithWord_29 : decode cX7_priceWithWord 29 = .ok (.aload_n 0, 1) := by decide +kernel
theorem dX7_priceWithWord_30 : decode cX7_priceWithWord 30 = .ok (.getfield 21, 3) := by decide +kernel
theorem dX7_priceWithWord_33 : decode cX7_priceWithWord 33 = .ok (.iload_n 3, 1) := by decide +kernel
theorem dX7_priceWithWord_34 : decode cX7_priceWithWord 34 = .ok (.iconst 4, 1) := by decide +kernel
theorem dX7_priceWithWord_35 : decode cX7_priceWithWord 35 = .ok (.imul, 1) := by decide +kernel
theorem dX7_priceWithWord_36 : decode cX7_priceWithWord 36 = .ok (.iload 4, 2) := by decide +kernel
theorem dX7_priceWithWord_38 : decode cX7_priceWithWord 38 = .ok (.iadd, 1) := by decide +kernel
theorem dX7_priceWithWord_39 : decode cX7_priceWithWord 39 = .ok (.iaload, 1) := by decide +kernel
theorem dX7_priceWithWord_40 : decode cX7_priceWithWord 40 = .ok (.invokevirtual 49, 3) := by decide +kernel
theorem dX7_priceWithWord_43 : decode cX7_priceWithWord 43 = .ok (.iinc 4 1, 3) := by decide +kernel
theorem dX7_priceWithWord_46 : decode cX7_priceWithWord 46 = .ok (.goto (-30), 3) := by decide +kernel
theorem dX7_priceWithWord_49 : decode cX7_priceWithWord 49 = .ok (.return_, 1) := by decide +kernel
theorem dX7_priceWithSound_0 : decode cX7_priceWithSound 0 = .ok (.aload_n 1, 1) := by decide +kernel
theorem dX7_priceWithSound_1 : decode cX7_priceWithSound 1 = .ok (.iconst 0, 1) := by decide +kernel
theorem dX7_priceWithSound_2 : decode cX7_priceWithSound 2 = .ok (.iaload, 1) := by decide +kernel
theorem dX7_priceWithSound_3 : decode cX7_priceWithSound 3 = .ok (.istore_n 3, 1) := by decide +kernel
theorem dX7_priceWithSound_4 : decode cX7_priceWithSound 4 = .ok (.aload_n 1, 1) := by decide +kernel
theorem dX7_priceWithSound_5 : decode cX7_priceWithSound 5 = .ok (.iconst 0, 1) := by decide +kernel
theorem dX7_priceWithSound_6 : decode cX7_priceWithSound 6 = .ok (.iload_n 3, 1) := by decide +kernel
theorem dX7_priceWithSound_7 : decode cX7_priceWithSound 7 = .ok (.bipush 6, 2) := by decide +kernel
theorem dX7_priceWithSound_9 : decode cX7_priceWithSound 9 = .ok (.iadd, 1) := by decide +kernel
theorem dX7_priceWithSound_10 : decode cX7_priceWithSound 10 = .ok (.iastore, 1) := by decide +kernel
theorem dX7_priceWithSound_11 : decode cX7_priceWithSound 11 = .ok (.iconst 1, 1) := by decide +kernel
theorem dX7_priceWithSound_12 : decode cX7_priceWithSound 12 = .ok (.istore 4, 2) := by decide +kernel
theorem dX7_priceWithSound_14 : decode cX7_priceWithSound 14 = .ok (.iload 4, 2) := by decide +kernel
theorem dX7_priceWithSound_16 : decode cX7_priceWithSound 16 = .ok (.aload_n 0, 1) := by decide +kernel
theorem dX7_priceWithSound_17 : decode cX7_priceWithSound 17 = .ok (.getfield 40, 3) := by decide +kernel
theorem dX7_priceWithSound_20 : decode cX7_priceWithSound 20 = .ok (.if_icmp .gt 66, 3) := by decide +kernel
theorem dX7_priceWithSound_23 : decode cX7_priceWithSound 23 = .ok (.iload_n 3, 1) := by decide +kernel
theorem dX7_priceWithSound_24 : decode cX7_priceWithSound 24 = .ok (.aload_n 0, 1) := by decide +kernel
theorem dX7_priceWithSound_25 : decode cX7_priceWithSound 25 = .ok (.getfield 24, 3) := by decide +kernel
theorem dX7_priceWithSound_28 : decode cX7_priceWithSound 28 = .ok (.iload_n 2, 1) := by decide +kernel
theorem dX7_priceWithSound_29 : decode cX7_priceWithSound 29 = .ok (.bipush 16, 2) := by decide +kernel
theorem dX7_priceWithSound_31 : decode cX7_priceWithSound 31 = .ok (.imul, 1) := by decide +kernel
theorem dX7_priceWithSound_32 : decode cX7_priceWithSound 32 = .ok (.aload_n 0, 1) := by decide +kernel
theorem dX7_priceWithSound_33 : decode cX7_priceWithSound 33 = .ok (.getfield 27, 3) := by decide +kernel
theorem dX7_priceWithSound_36 : decode cX7_priceWithSound 36 = .ok (.iload 4, 2) := by decide +kernel
theorem dX7_priceWithSound_38 : decode cX7_priceWithSound 38 = .ok (.iconst 1, 1) := by decide +kernel
theorem dX7_priceWithSound_39 : decode cX7_priceWithSound 39 = .ok (.isub, 1) := by decide +kernel
theorem dX7_priceWithSound_40 : decode cX7_priceWithSound 40 = .ok (.iaload, 1) := by decide +kernel
theorem dX7_priceWithSound_41 : decode cX7_priceWithSound 41 = .ok (.iadd, 1) := by decide +kernel
theorem dX7_priceWithSound_42 : decode cX7_priceWithSound 42 = .ok (.iaload, 1) := by decide +kernel
theorem dX7_priceWithSound_43 : decode cX7_priceWithSound 43 = .ok (.iadd, 1) := by decide +kernel
theorem dX7_priceWithSound_44 : decode cX7_priceWithSound 44 = .ok (.istore 5, 2) := by decide +kernel
theorem dX7_priceWithSound_46 : decode cX7_priceWithSound 46 = .ok (.aload_n 1, 1) := by decide +kernel
theorem dX7_priceWithSound_47 : decode cX7_priceWithSound 47 = .ok (.iload 4, 2) := by decide +kernel
theorem dX7_priceWithSound_49 : decode cX7_priceWithSound 49 = .ok (.iaload, 1) := by decide +kernel
theorem dX7_priceWithSound_50 : decode cX7_priceWithSound 50 = .ok (.istore_n 3, 1) := by decide +kernel
theorem dX7_priceWithSound_51 : decode cX7_priceWithSound 51 = .ok (.iload_n 3, 1) := by decide +kernel
