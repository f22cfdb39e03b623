theorem dX0_init_0 : decode cX0_init 0 = .ok (.aload_n 0, 1) := by decide +kernel
theorem dX0_init_1 : decode cX0_init 1 = .ok (.invokespecial 3, 3) := by decide +kernel
theorem dX0_init_4 : decode cX0_init 4 = .ok (.aload_n 0, 1) := by decide +kernel
theorem dX0_init_5 : decode cX0_init 5 = .ok (.bipush 20, 2) := by decide +kernel
theorem dX0_init_7 : decode cX0_init 7 = .ok (.anewarray 9, 3) := by decide +kernel
theorem dX0_init_10 : decode cX0_init 10 = .ok (.putfield 11, 3) := by decide +kernel
theorem dX0_init_13 : decode cX0_init 13 = .ok (.aload_n 0, 1) := by decide +kernel
theorem dX0_init_14 : decode cX0_init 14 = .ok (.iconst 0, 1) := by decide +kernel
theorem dX0_init_15 : decode cX0_init 15 = .ok (.putfield 17, 3) := by decide +kernel
theorem dX0_init_18 : decode cX0_init 18 = .ok (.aload_n 0, 1) := by decide +kernel
theorem dX0_init_19 : decode cX0_init 19 = .ok (.iconst 0, 1) := by decide +kernel
theorem dX0_init_20 : decode cX0_init 20 = .ok (.putfield 21, 3) := by decide +kernel
theorem dX0_init_23 : decode cX0_init 23 = .ok (.iconst 0, 1) := by decide +kernel
theorem dX0_init_24 : decode cX0_init 24 = .ok (.istore_n 1, 1) := by decide +kernel
theorem dX0_init_25 : decode cX0_init 25 = .ok (.iload_n 1, 1) := by decide +kernel
theorem dX0_init_26 : decode cX0_init 26 = .ok (.bipush 20, 2) := by decide +kernel
theorem dX0_init_28 : decode cX0_init 28 = .ok (.if_icmp .ge 22, 3) := by decide +kernel
theorem dX0_init_31 : decode cX0_init 31 = .ok (.aload_n 0, 1) := by decide +kernel
theorem dX0_init_32 : decode cX0_init 32 = .ok (.getfield 11, 3) := by decide +kernel
theorem dX0_init_35 : decode cX0_init 35 = .ok (.iload_n 1, 1) := by decide +kernel
theorem dX0_init_36 : decode cX0_init 36 = .ok (.new 9, 3) := by decide +kernel
theorem dX0_init_39 : decode cX0_init 39 = .ok (.dup, 1) := by decide +kernel
theorem dX0_init_40 : decode cX0_init 40 = .ok (.invokespecial 24, 3) := by decide +kernel
theorem dX0_init_43 : decode cX0_init 43 = .ok (.aastore, 1) := by decide +kernel
theorem dX0_init_44 : decode cX0_init 44 = .ok (.iinc 1 1, 3) := by decide +kernel
theorem dX0_init_47 : decode cX0_init 47 = .ok (.goto (-22), 3) := by decide +kernel
theorem dX0_init_50 : decode cX0_init 50 = .ok (.return_, 1) := by decide +kernel
theorem dX0_clear_0 : decode cX0_clear 0 = .ok (.aload_n 0, 1) := by decide +kernel
theorem dX0_clear_1 : decode cX0_clear 1 = .ok (.iconst 0, 1) := by decide +kernel
theorem dX0_clear_2 : decode cX0_clear 2 = .ok (.putfield 17, 3) := by decide +kernel
theorem dX0_clear_5 : decode cX0_clear 5 = .ok (.aload_n 0, 1) := by decide +kernel
theorem dX0_clear_6 : decode cX0_clear 6 = .ok (.iconst 0, 1) := by decide +kernel
theorem dX0_clear_7 : decode cX0_clear 7 = .ok (.putfield 21, 3) := by decide +kernel
theorem dX0_clear_10 : decode cX0_clear 10 = .ok (.return_, 1) := by decide +kernel
theorem dX0_keep_0 : decode cX0_keep 0 = .ok (.aload_n 0, 1) := by decide +kernel
theorem dX0_keep_1 : decode cX0_keep 1 = .ok (.getfield 11, 3) := by decide +kernel
theorem dX0_keep_4 : decode cX0_keep 4 = .ok (.aload_n 0, 1) := by decide +kernel
theorem dX0_keep_5 : decode cX0_keep 5 = .ok (.getfield 17, 3) := by decide +kernel
theorem dX0_keep_8 : decode cX0_keep 8 = .ok (.aaload, 1) := by decide +kernel
theorem dX0_keep_9 : decode cX0_keep 9 = .ok (.aload_n 1, 1) := by decide +kernel
theorem dX0_keep_10 : decode cX0_keep 10 = .ok (.invokevirtual 25, 3) := by decide +kernel
theorem dX0_keep_13 : decode cX0_keep 13 = .ok (.aload_n 0, 1) := by decide +kernel
theorem dX0_keep_14 : decode cX0_keep 14 = .ok (.aload_n 0, 1) := by decide +kernel
theorem dX0_keep_15 : decode cX0_keep 15 = .ok (.getfield 17, 3) := by decide +kernel
theorem dX0_keep_18 : decode cX0_keep 18 = .ok (.iconst 1, 1) := by decide +kernel
theorem dX0_keep_19 : decode cX0_keep 19 = .ok (.iadd, 1) := by decide +kernel
theorem dX0_keep_20 : decode cX0_keep 20 = .ok (.bipush 20, 2) := by decide +kernel
theorem dX0_keep_22 : decode cX0_keep 22 = .ok (.irem, 1) := by decide +kernel
theorem dX0_keep_23 : decode cX0_keep 23 = .ok (.putfield 17, 3) := by decide +kernel
theorem dX0_keep_26 : decode cX0_keep 26 = .ok (.aload_n 0, 1) := by decide +kernel
theorem dX0_keep_27 : decode cX0_keep 27 = .ok (.bipush 20, 2) := by decide +kernel
theorem dX0_keep_29 : decode cX0_keep 29 = .ok (.aload_n 0, 1) := by decide +kernel
theorem dX0_keep_30 : decode cX0_keep 30 = .ok (.getfield 21, 3) := by decide +kernel
theorem dX0_keep_33 : decode cX0_keep 33 = .ok (.iconst 1, 1) := by decide +kernel
theorem dX0_keep_34 : decode cX0_keep 34 = .ok (.iadd, 1) := by decide +kernel
theorem dX0_keep_35 : decode cX0_keep 35 = .ok (.invokestatic 29, 3) := by decide +kernel
theorem dX0_keep_38 : decode cX0_keep 38 = .ok (.putfield 21, 3) := by decide +kernel
theorem dX0_keep_41 : decode cX0_keep 41 = .ok (.return_, 1) := by decide +kernel
theorem dX0_goBack_0 : decode cX0_goBack 0 = .ok (.aload_n 0, 1) := by decide +kernel
theorem dX0_goBack_1 : decode cX0_goBack 1 = .ok (.getfield 21, 3) := by decide +kernel
theorem dX0_goBack_4 : decode cX0_goBack 4 = .ok (.ifCond .gt 5, 3) := by decide +kernel
theorem dX0_goBack_7 : decode cX0_goBack 7 = .ok (.iconst 0, 1) := by decide +kernel
theorem dX0_goBack_8 : decode cX0_goBack 8 = .ok (.ireturn, 1) := by decide +kernel
theorem dX0_goBack_9 : decode cX0_goBack 9 = .ok (.aload_n 0, 1) := by decide +kernel
theorem dX0_goBack_10 : decode cX0_goBack 10 = .ok (.aload_n 0, 1) := by decide +kernel
theorem dX0_goBack_11 : decode cX0_goBack 11 = .ok (.getfield 17, 3) := by decide +kernel
theorem dX0_goBack_14 : decode cX0_goBack 14 = .ok (.bipush 20, 2) := by decide +kernel
theorem dX0_goBack_16 : decode cX0_goBack 16 = .ok (.iadd, 1) := by decide +kernel
theorem dX0_goBack_17 : decode cX0_goBack 17 = .ok (.iconst 1, 1) := by decide +kernel
theorem dX0_goBack_18 : decode cX0_goBack 18 = .ok (.isub, 1) := by decide +kernel
theorem dX0_goBack_19 : decode cX0_goBack 19 = .ok (.bipush 20, 2) := by decide +kernel
theorem dX0_goBack_21 : decode cX0_goBack 21 = .ok (.irem, 1) := by decide +kernel
theorem dX0_goBack_22 : decode cX0_goBack 22 = .ok (.putfield 17, 3) := by decide +kernel
theorem dX0_goBack_25 : decode cX0_goBack 25 = .ok (.aload_n 0, 1) := by decide +kernel
theorem dX0_goBack_26 : decode cX0_goBack 26 = .ok (.dup, 1) := by decide +kernel
theorem dX0_goBack_27 : decode cX0_goBack 27 = .ok (.getfield 21, 3) := by decide +kernel
theorem dX0_goBack_30 : decode cX0_goBack 30 = .ok (.iconst 1, 1) := by decide +kernel
theorem dX0_goBack_31 : decode cX0_goBack 31 = .ok (.isub, 1) := by decide +kernel
theorem dX0_goBack_32 : decode cX0_goBack 32 = .ok (.putfield 21, 3) := by decide +kernel
theorem dX0_goBack_35 : decode cX0_goBack 35 = .ok (.aload_n 1, 1) := by decide +kernel
theorem dX0_goBack_36 : decode cX0_goBack 36 = .ok (.aload_n 0, 1) := by decide +kernel
theorem dX0_goBack_37 : decode cX0_goBack 37 = .ok (.getfield 11, 3) := by decide +kernel
theorem dX0_goBack_40 : decode cX0_goBack 40 = .ok (.aload_n 0, 1) := by decide +kernel
theorem dX0_goBack_41 : decode cX0_goBack 41 = .ok (.getfield 17, 3) := by decide +kernel
theorem dX0_goBack_44 : decode cX0_goBack 44 = .ok (.aaload, 1) := by decide +kernel
theorem dX0_goBack_45 : decode cX0_goBack 45 = .ok (.invokevirtual 25, 3) := by decide +kernel
theorem dX0_goBack_48 : decode cX0_goBack 48 = .ok (.iconst 1, 1) := by decide +kernel
theorem dX0_goBack_49 : decode cX0_goBack 49 = .ok (.ireturn, 1) := by decide +kernel
theorem dX0_copyFrom_0 : decode cX0_copyFrom 0 = .ok (.aload_n 0, 1) := by decide +kernel
theorem dX0_copyFrom_1 : decode cX0_copyFrom 1 = .ok (.aload_n 1, 1) := by decide +kernel
theorem dX0_copyFrom_2 : decode cX0_copyFrom 2 = .ok (.getfield 17, 3) := by decide +kernel
theorem dX0_copyFrom_5 : decode cX0_copyFrom 5 = .ok (.putfield 17, 3) := by decide +kernel
theorem dX0_copyFrom_8 : decode cX0_copyFrom 8 = .ok (.aload_n 0, 1) := by decide +kernel
theorem dX0_copyFrom_9 : decode cX0_copyFrom 9 = .ok (.aload_n 1, 1) := by decide +kernel
theorem dX0_copyFrom_10 : decode cX0_copyFrom 10 = .ok (.getfield 21, 3) := by decide +kernel
theorem dX0_copyFrom_13 : decode cX0_copyFrom 13 = .ok (.putfield 21, 3) := by decide +kernel
theorem dX0_copyFrom_16 : decode cX0_copyFrom 16 = .ok (.iconst 0, 1) := by decide +kernel
theorem dX0_copyFrom_17 : decode cX0_copyFrom 17 = .ok (.istore_n 2, 1) := by decide +kernel
theorem dX0_copyFrom_18 : decode cX0_copyFrom 18 = .ok (.iload_n 2, 1) := by decide +kernel
theorem dX0_copyFrom_19 : decode cX0_copyFrom 19 = .ok (.bipush 20, 2) := by decide +kernel
theorem dX0_copyFrom_21 : decode cX0_copyFrom 21 = .ok (.if_icmp .ge 24, 3) := by decide +kernel
theorem dX0_copyFrom_24 : decode cX0_copyFrom 24 = .ok (.aload_n 0, 1) := by decide +kernel
theorem dX0_copyFrom_25 : decode cX0_copyFrom 25 = .ok (.getfield 11, 3) := by decide +kernel
theorem dX0_copyFrom_28 : decode cX0_copyFrom 28 = .ok (.iload_n 2, 1) := by decide +kernel
theorem dX0_copyFrom_29 : decode cX0_copyFrom 29 = .ok (.aaload, 1) := by decide +kernel
theorem dX0_copyFrom_30 : decode cX0_copyFrom 30 = .ok (.aload_n 1, 1) := by decide +kernel
theorem dX0_copyFrom_31 : decode cX0_copyFrom 31 = .ok (.getfield 11, 3) := by decide +kernel
theorem dX0_copyFrom_34 : decode cX0_copyFrom 34 = .ok (.iload_n 2, 1) := by decide +kernel
theorem dX0_copyFrom_35 : decode cX0_copyFrom 35 = .ok (.aaload, 1) := by decide +kernel
theorem dX0_copyFrom_36 : decode cX0_copyFrom 36 = .ok (.invokevirtual 25, 3) := by decide +kernel
theorem dX0_copyFrom_39 : decode cX0_copyFrom 39 = .ok (.iinc 2 1, 3) := by decide +kernel
theorem dX0_copyFrom_42 : decode cX0_copyFrom 42 = .ok (.goto (-24), 3) := by decide +kernel
theorem dX0_copyFrom_45 : decode cX0_copyFrom 45 = .ok (.return_, 1) := by decide +kernel
theorem dX1_init_0 : decode cX1_init 0 = .ok (.aload_n 0, 1) := by decide +kernel
theorem dX1_init_1 : decode cX1_init 1 = .ok (.invokespecial 3, 3) := by decide +kernel
theorem dX1_init_4 : decode cX1_init 4 = .ok (.aload_n 0, 1) := by decide +kernel
theorem dX1_init_5 : decode cX1_init 5 = .ok (.bipush 10, 2) := by decide +kernel
theorem dX1_init_7 : decode cX1_init 7 = .ok (.newarray .int, 2) := by decide +kernel
theorem dX1_init_9 : decode cX1_init 9 = .ok (.putfield 9, 3) := by decide +kernel
theorem dX1_init_12 : decode cX1_init 12 = .ok (.aload_n 0, 1) := by decide +kernel
theorem dX1_init_13 : decode cX1_init 13 = .ok (.bipush 10, 2) := by decide +kernel
theorem dX1_init_15 : decode cX1_init 15 = .ok (.newarray .int, 2) := by decide +kernel
theorem dX1_init_17 : decode cX1_init 17 = .ok (.putfield 15, 3) := by decide +kernel
theorem dX1_init_20 : decode cX1_init 20 = .ok (.aload_n 0, 1) := by decide +kernel
theorem dX1_init_21 : decode cX1_init 21 = .ok (.bipush 10, 2) := by decide +kernel
theorem dX1_init_23 : decode cX1_init 23 = .ok (.newarray .int, 2) := by decide +kernel
theorem dX1_init_25 : decode cX1_init 25 = .ok (.putfield 18, 3) := by decide +kernel
theorem dX1_init_28 : decode cX1_init 28 = .ok (.aload_n 0, 1) := by decide +kernel
theorem dX1_init_29 : decode cX1_init 29 = .ok (.iconst 0, 1) := by decide +kernel
theorem dX1_init_30 : decode cX1_init 30 = .ok (.putfield 21, 3) := by decide +kernel
theorem dX1_init_33 : decode cX1_init 33 = .ok (.return_, 1) := by decide +kernel
theorem dX1_add_0 : decode cX1_add 0 = .ok (.aload_n 0, 1) := by decide +kernel
theorem dX1_add_1 : decode cX1_add 1 = .ok (.getfield 21, 3) := by decide +kernel
theorem dX1_add_4 : decode cX1_add 4 = .ok (.bipush 10, 2) := by decide +kernel
theorem dX1_add_6 : decode cX1_add 6 = .ok (.if_icmp .lt 5, 3) := by decide +kernel
theorem dX1_add_9 : decode cX1_add 9 = .ok (.iconst 0, 1) := by decide +kernel
theorem dX1_add_10 : decode cX1_add 10 = .ok (.ireturn, 1) := by decide +kernel
theorem dX1_add_11 : decode cX1_add 11 = .ok (.aload_n 0, 1) := by decide +kernel
theorem dX1_add_12 : decode cX1_add 12 = .ok (.getfield 9, 3) := by decide +kernel
theorem dX1_add_15 : decode cX1_add 15 = .ok (.aload_n 0, 1) := by decide +kernel
theorem dX1_add_16 : decode cX1_add 16 = .ok (.getfield 21, 3) := by decide +kernel
theorem dX1_add_19 : decode cX1_add 19 = .ok (.iload_n 1, 1) := by decide +kernel
theorem dX1_add_20 : decode cX1_add 20 = .ok (.iastore, 1) := by decide +kernel
theorem dX1_add_21 : decode cX1_add 21 = .ok (.aload_n 0, 1) := by decide +kernel
theorem dX1_add_22 : decode cX1_add 22 = .ok (.getfield 15, 3) := by decide +kernel
theorem dX1_add_25 : decode cX1_add 25 = .ok (.aload_n 0, 1) := by decide +kernel
theorem dX1_add_26 : decode cX1_add 26 = .ok (.getfield 21, 3) := by decide +kernel
theorem dX1_add_29 : decode cX1_add 29 = .ok (.iload_n 2, 1) := by decide +kernel
theorem dX1_add_30 : decode cX1_add 30 = .ok (.iastore, 1) := by decide +kernel
theorem dX1_add_31 : decode cX1_add 31 = .ok (.aload_n 0, 1) := by decide +kernel
theorem dX1_add_32 : decode cX1_add 32 = .ok (.getfield 18, 3) := by decide +kernel
theorem dX1_add_35 : decode cX1_add 35 = .ok (.aload_n 0, 1) := by decide +kernel
theorem dX1_add_36 : decode cX1_add 36 = .ok (.getfield 21, 3) := by decide +kernel
theorem dX1_add_39 : decode cX1_add 39 = .ok (.iload_n 3, 1) := by decide +kernel
theorem dX1_add_40 : decode cX1_add 40 = .ok (.iastore, 1) := by decide +kernel
theorem dX1_add_41 : decode cX1_add 41 = .ok (.aload_n 0, 1) := by decide +kernel
theorem dX1_add_42 : decode cX1_add 42 = .ok (.dup, 1) := by decide +kernel
theorem dX1_add_43 : decode cX1_add 43 = .ok (.getfield 21, 3) := by decide +kernel
theorem dX1_add_46 : decode cX1_add 46 = .ok (.iconst 1, 1) := by decide +kernel
theorem dX1_add_47 : decode cX1_add 47 = .ok (.iadd, 1) := by decide +kernel
theorem dX1_add_48 : decode cX1_add 48 = .ok (.putfield 21, 3) := by decide +kernel
theorem dX1_add_51 : decode cX1_add 51 = .ok (.iconst 1, 1) := by decide +kernel
theorem dX1_add_52 : decode cX1_add 52 = .ok (.ireturn, 1) := by decide +kernel
theorem dX1_lastHour_0 : decode cX1_lastHour 0 = .ok (.iconst (-1), 1) := by decide +kernel
theorem dX1_lastHour_1 : decode cX1_lastHour 1 = .ok (.istore_n 1, 1) := by decide +kernel
theorem dX1_lastHour_2 : decode cX1_lastHour 2 = .ok (.iconst 0, 1) := by decide +kernel
theorem dX1_lastHour_3 : decode cX1_lastHour 3 = .ok (.istore_n 2, 1) := by decide +kernel
theorem dX1_lastHour_4 : decode cX1_lastHour 4 = .ok (.iload_n 2, 1) := by decide +kernel
theorem dX1_lastHour_5 : decode cX1_lastHour 5 = .ok (.aload_n 0, 1) := by decide +kernel
theorem dX1_lastHour_6 : decode cX1_lastHour 6 = .ok (.getfield 21, 3) := by decide +kernel
theorem dX1_lastHour_9 : decode cX1_lastHour 9 = .ok (.if_icmp .ge 20, 3) := by decide +kernel
theorem dX1_lastHour_12 : decode cX1_lastHour 12 = .ok (.iload_n 1, 1) := by decide +kernel
theorem dX1_lastHour_13 : decode cX1_lastHour 13 = .ok (.aload_n 0, 1) := by decide +kernel
theorem dX1_lastHour_14 : decode cX1_lastHour 14 = .ok (.getfield 9, 3) := by decide +kernel
theorem dX1_lastHour_17 : decode cX1_lastHour 17 = .ok (.iload_n 2, 1) := by decide +kernel
theorem dX1_lastHour_18 : decode cX1_lastHour 18 = .ok (.iaload, 1) := by decide +kernel
theorem dX1_lastHour_19 : decode cX1_lastHour 19 = .ok (.invokestatic 25, 3) := by decide +kernel
theorem dX1_lastHour_22 : decode cX1_lastHour 22 = .ok (.istore_n 1, 1) := by decide +kernel
theorem dX1_lastHour_23 : decode cX1_lastHour 23 = .ok (.iinc 2 1, 3) := by decide +kernel
theorem dX1_lastHour_26 : decode cX1_lastHour 26 = .ok (.goto (-22), 3) := by decide +kernel
theorem dX1_lastHour_29 : decode cX1_lastHour 29 = .ok (.iload_n 1, 1) := by decide +kernel
theorem dX1_lastHour_30 : decode cX1_lastHour 30 = .ok (.ireturn, 1) := by decide +kernel
theorem dX1_areSo_0 : decode cX1_areSo 0 = .ok (.iconst 0, 1) := by decide +kernel
theorem dX1_areSo_1 : decode cX1_areSo 1 = .ok (.istore_n 3, 1) := by decide +kernel
theorem dX1_areSo_2 : decode cX1_areSo 2 = .ok (.iload_n 3, 1) := by decide +kernel
theorem dX1_areSo_3 : decode cX1_areSo 3 = .ok (.aload_n 0, 1) := by decide +kernel
theorem dX1_areSo_4 : decode cX1_areSo 4 = .ok (.getfield 21, 3) := by decide +kernel
theorem dX1_areSo_7 : decode cX1_areSo 7 = .ok (.if_icmp .ge 40, 3) := by decide +kernel
theorem dX1_areSo_10 : decode cX1_areSo 10 = .ok (.aload_n 0, 1) := by decide +kernel
theorem dX1_areSo_11 : decode cX1_areSo 11 = .ok (.getfield 9, 3) := by decide +kernel
theorem dX1_areSo_14 : decode cX1_areSo 14 = .ok (.iload_n 3, 1) := by decide +kernel
theorem dX1_areSo_15 : decode cX1_areSo 15 = .ok (.iaload, 1) := by decide +kernel
theorem dX1_areSo_16 : decode cX1_areSo 16 = .ok (.iload_n 1, 1) := by decide +kernel
theorem dX1_areSo_17 : decode cX1_areSo 17 = .ok (.if_icmp .ne 24, 3) := by decide +kernel
theorem dX1_areSo_20 : decode cX1_areSo 20 = .ok (.aload_n 2, 1) := by decide +kernel
theorem dX1_areSo_21 : decode cX1_areSo 21 = .ok (.aload_n 0, 1) := by decide +kernel
theorem dX1_areSo_22 : decode cX1_areSo 22 = .ok (.getfield 15, 3) := by decide +kernel
theorem dX1_areSo_25 : decode cX1_areSo 25 = .ok (.iload_n 3, 1) := by decide +kernel
theorem dX1_areSo_26 : decode cX1_areSo 26 = .ok (.iaload, 1) := by decide +kernel
theorem dX1_areSo_27 : decode cX1_areSo 27 = .ok (.invokevirtual 31, 3) := by decide +kernel
theorem dX1_areSo_30 : decode cX1_areSo 30 = .ok (.aload_n 0, 1) := by decide +kernel
theorem dX1_areSo_31 : decode cX1_areSo 31 = .ok (.getfield 18, 3) := by decide +kernel
theorem dX1_areSo_34 : decode cX1_areSo 34 = .ok (.iload_n 3, 1) := by decide +kernel
theorem dX1_areSo_35 : decode cX1_areSo 35 = .ok (.iaload, 1) := by decide +kernel
theorem dX1_areSo_36 : decode cX1_areSo 36 = .ok (.if_icmp .eq 5, 3) := by decide +kernel
theorem dX1_areSo_39 : decode cX1_areSo 39 = .ok (.iconst 0, 1) := by decide +kernel
theorem dX1_areSo_40 : decode cX1_areSo 40 = .ok (.ireturn, 1) := by decide +kernel
theorem dX1_areSo_41 : decode cX1_areSo 41 = .ok (.iinc 3 1, 3) := by decide +kernel
theorem dX1_areSo_44 : decode cX1_areSo 44 = .ok (.goto (-42), 3) := by decide +kernel
theorem dX1_areSo_47 : decode cX1_areSo 47 = .ok (.iconst 1, 1) := by decide +kernel
theorem dX1_areSo_48 : decode cX1_areSo 48 = .ok (.ireturn, 1) := by decide +kernel
theorem dX1_copyFrom_0 : decode cX1_copyFrom 0 = .ok (.aload_n 1, 1) := by decide +kernel
theorem dX1_copyFrom_1 : decode cX1_copyFrom 1 = .ok (.getfield 9, 3) := by decide +kernel
theorem dX1_copyFrom_4 : decode cX1_copyFrom 4 = .ok (.iconst 0, 1) := by decide +kernel
theorem dX1_copyFrom_5 : decode cX1_copyFrom 5 = .ok (.aload_n 0, 1) := by decide +kernel
theorem dX1_copyFrom_6 : decode cX1_copyFrom 6 = .ok (.getfield 9, 3) := by decide +kernel
theorem dX1_copyFrom_9 : decode cX1_copyFrom 9 = .ok (.iconst 0, 1) := by decide +kernel
theorem dX1_copyFrom_10 : decode cX1_copyFrom 10 = .ok (.bipush 10, 2) := by decide +kernel
theorem dX1_copyFrom_12 : decode cX1_copyFrom 12 = .ok (.invokestatic 37, 3) := by decide +kernel
theorem dX1_copyFrom_15 : decode cX1_copyFrom 15 = .ok (.aload_n 1, 1) := by decide +kernel
theorem dX1_copyFrom_16 : decode cX1_copyFrom 16 = .ok (.getfield 15, 3) := by decide +kernel
theorem dX1_copyFrom_19 : decode cX1_copyFrom 19 = .ok (.iconst 0, 1) := by decide +kernel
theorem dX1_copyFrom_20 : decode cX1_copyFrom 20 = .ok (.aload_n 0, 1) := by decide +kernel
theorem dX1_copyFrom_21 : decode cX1_copyFrom 21 = .ok (.getfield 15, 3) := by decide +kernel
theorem dX1_copyFrom_24 : decode cX1_copyFrom 24 = .ok (.iconst 0, 1) := by decide +kernel
theorem dX1_copyFrom_25 : decode cX1_copyFrom 25 = .ok (.bipush 10, 2) := by decide +kernel
theorem dX1_copyFrom_27 : decode cX1_copyFrom 27 = .ok (.invokestatic 37, 3) := by decide +kernel
theorem dX1_copyFrom_30 : decode cX1_copyFrom 30 = .ok (.aload_n 1, 1) := by decide +kernel
theorem dX1_copyFrom_31 : decode cX1_copyFrom 31 = .ok (.getfield 18, 3) := by decide +kernel
theorem dX1_copyFrom_34 : decode cX1_copyFrom 34 = .ok (.iconst 0, 1) := by decide +kernel
theorem dX1_copyFrom_35 : decode cX1_copyFrom 35 = .ok (.aload_n 0, 1) := by decide +kernel
theorem dX1_copyFrom_36 : decode cX1_copyFrom 36 = .ok (.getfield 18, 3) := by decide +kernel
theorem dX1_copyFrom_39 : decode cX1_copyFrom 39 = .ok (.iconst 0, 1) := by decide +kernel
theorem dX1_copyFrom_40 : decode cX1_copyFrom 40 = .ok (.bipush 10, 2) := by decide +kernel
theorem dX1_copyFrom_42 : decode cX1_copyFrom 42 = .ok (.invokestatic 37, 3) := by decide +kernel
theorem dX1_copyFrom_45 : decode cX1_copyFrom 45 = .ok (.aload_n 0, 1) := by decide +kernel
theorem dX1_copyFrom_46 : decode cX1_copyFrom 46 = .ok (.aload_n 1, 1) := by decide +kernel
theorem dX1_copyFrom_47 : decode cX1_copyFrom 47 = .ok (.getfield 21, 3) := by decide +kernel
theorem dX1_copyFrom_50 : decode cX1_copyFrom 50 = .ok (.putfield 21, 3) := by decide +kernel
theorem dX1_copyFrom_53 : decode cX1_copyFrom 53 = .ok (.return_, 1) := by decide +kernel
theorem dX2_init_0 : decode cX2_init 0 = .ok (.aload_n 0, 1) := by decide +kernel
theorem dX2_init_1 : decode cX2_init 1 = .ok (.invokespecial 3, 3) := by decide +kernel
theorem dX2_init_4 : decode cX2_init 4 = .ok (.aload_n 0, 1) := by decide +kernel
theorem dX2_init_5 : decode cX2_init 5 = .ok (.new 9, 3) := by decide +kernel
theorem dX2_init_8 : decode cX2_init 8 = .ok (.dup, 1) := by decide +kernel
theorem dX2_init_9 : decode cX2_init 9 = .ok (.invokespecial 11, 3) := by decide +kernel
theorem dX2_init_12 : decode cX2_init 12 = .ok (.putfield 12, 3) := by decide +kernel
theorem dX2_init_15 : decode cX2_init 15 = .ok (.aload_n 0, 1) := by decide +kernel
theorem dX2_init_16 : decode cX2_init 16 = .ok (.bipush 6, 2) := by decide +kernel
theorem dX2_init_18 : decode cX2_init 18 = .ok (.anewarray 18, 3) := by decide +kernel
theorem dX2_init_21 : decode cX2_init 21 = .ok (.putfield 20, 3) := by decide +kernel
theorem dX2_init_24 : decode cX2_init 24 = .ok (.aload_n 0, 1) := by decide +kernel
theorem dX2_init_25 : decode cX2_init 25 = .ok (.iconst 0, 1) := by decide +kernel
theorem dX2_init_26 : decode cX2_init 26 = .ok (.putfield 24, 3) := by decide +kernel
theorem dX2_init_29 : decode cX2_init 29 = .ok (.aload_n 0, 1) := by decide +kernel
theorem dX2_init_30 : decode cX2_init 30 = .ok (.new 28, 3) := by decide +kernel
theorem dX2_init_33 : decode cX2_init 33 = .ok (.dup, 1) := by decide +kernel
theorem dX2_init_34 : decode cX2_init 34 = .ok (.invokespecial 30, 3) := by decide +kernel
theorem dX2_init_37 : decode cX2_init 37 = .ok (.putfield 31, 3) := by decide +kernel
theorem dX2_init_40 : decode cX2_init 40 = .ok (.aload_n 0, 1) := by decide +kernel
theorem dX2_init_41 : decode cX2_init 41 = .ok (.new 35, 3) := by decide +kernel
theorem dX2_init_44 : decode cX2_init 44 = .ok (.dup, 1) := by decide +kernel
theorem dX2_init_45 : decode cX2_init 45 = .ok (.invokespecial 37, 3) := by decide +kernel
theorem dX2_init_48 : decode cX2_init 48 = .ok (.putfield 38, 3) := by decide +kernel
theorem dX2_init_51 : decode cX2_init 51 = .ok (.aload_n 0, 1) := by decide +kernel
theorem dX2_init_52 : decode cX2_init 52 = .ok (.bipush 36, 2) := by decide +kernel
theorem dX2_init_54 : decode cX2_init 54 = .ok (.newarray .int, 2) := by decide +kernel
theorem dX2_init_56 : decode cX2_init 56 = .ok (.putfield 42, 3) := by decide +kernel
theorem dX2_init_59 : decode cX2_init 59 = .ok (.aload_n 0, 1) := by decide +kernel
theorem dX2_init_60 : decode cX2_init 60 = .ok (.bipush 6, 2) := by decide +kernel
theorem dX2_init_62 : decode cX2_init 62 = .ok (.newarray .int, 2) := by decide +kernel
theorem dX2_init_64 : decode cX2_init 64 = .ok (.putfield 46, 3) := by decide +kernel
theorem dX2_init_67 : decode cX2_init 67 = .ok (.aload_n 0, 1) := by decide +kernel
theorem dX2_init_68 : decode cX2_init 68 = .ok (.bipush 16, 2) := by decide +kernel
theorem dX2_init_70 : decode cX2_init 70 = .ok (.newarray .int, 2) := by decide +kernel
theorem dX2_init_72 : decode cX2_init 72 = .ok (.putfield 49, 3) := by decide +kernel
theorem dX2_init_75 : decode cX2_init 75 = .ok (.aload_n 0, 1) := by decide +kernel
theorem dX2_init_76 : decode cX2_init 76 = .ok (.bipush 16, 2) := by decide +kernel
theorem dX2_init_78 : decode cX2_init 78 = .ok (.newarray .int, 2) := by decide +kernel
theorem dX2_init_80 : decode cX2_init 80 = .ok (.putfield 52, 3) := by decide +kernel
theorem dX2_init_83 : decode cX2_init 83 = .ok (.aload_n 0, 1) := by decide +kernel
theorem dX2_init_84 : decode cX2_init 84 = .ok (.bipush 7, 2) := by decide +kernel
theorem dX2_init_86 : decode cX2_init 86 = .ok (.bipush 36, 2) := by decide +kernel
theorem dX2_init_88 : decode cX2_init 88 = .ok (.multianewarray 55 2, 4) := by decide +kernel
theorem dX2_init_92 : decode cX2_init 92 = .ok (.putfield 57, 3) := by decide +kernel
theorem dX2_init_95 : decode cX2_init 95 = .ok (.aload_n 0, 1) := by decide +kernel
theorem dX2_init_96 : decode cX2_init 96 = .ok (.iconst (-1), 1) := by decide +kernel
theorem dX2_init_97 : decode cX2_init 97 = .ok (.putfield 60, 3) := by decide +kernel
theorem dX2_init_100 : decode cX2_init 100 = .ok (.aload_n 0, 1) := by decide +kernel
theorem dX2_init_101 : decode cX2_init 101 = .ok (.iconst 0, 1) := by decide +kernel
theorem dX2_init_102 : decode cX2_init 102 = .ok (.putfield 63, 3) := by decide +kernel
theorem dX2_init_105 : decode cX2_init 105 = .ok (.aload_n 0, 1) := by decide +kernel
theorem dX2_init_106 : decode cX2_init 106 = .ok (.iconst 0, 1) := by decide +kernel
theorem dX2_init_107 : decode cX2_init 107 = .ok (.putfield 66, 3) := by decide +kernel
theorem dX2_init_110 : decode cX2_init 110 = .ok (.aload_n 0, 1) := by decide +kernel
theorem dX2_init_111 : decode cX2_init 111 = .ok (.iconst 0, 1) := by decide +kernel
theorem dX2_init_112 : decode cX2_init 112 = .ok (.putfield 69, 3) := by decide +kernel
theorem dX2_init_115 : decode cX2_init 115 = .ok (.iconst 0, 1) := by decide +kernel
theorem dX2_init_116 : decode cX2_init 116 = .ok (.istore_n 1, 1) := by decide +kernel
theorem dX2_init_117 : decode cX2_init 117 = .ok (.iload_n 1, 1) := by decide +kernel
theorem dX2_init_118 : decode cX2_init 118 = .ok (.bipush 6, 2) := by decide +kernel
theorem dX2_init_120 : decode cX2_init 120 = .ok (.if_icmp .ge 22, 3) := by decide +kernel
theorem dX2_init_123 : decode cX2_init 123 = .ok (.aload_n 0, 1) := by decide +kernel
theorem dX2_init_124 : decode cX2_init 124 = .ok (.getfield 20, 3) := by decide +kernel
theorem dX2_init_127 : decode cX2_init 127 = .ok (.iload_n 1, 1) := by decide +kernel
theorem dX2_init_128 : decode cX2_init 128 = .ok (.new 18, 3) := by decide +kernel
theorem dX2_init_131 : decode cX2_init 131 = .ok (.dup, 1) := by decide +kernel
theorem dX2_init_132 : decode cX2_init 132 = .ok (.invokespecial 72, 3) := by decide +kernel
theorem dX2_init_135 : decode cX2_init 135 = .ok (.aastore, 1) := by decide +kernel
theorem dX2_init_136 : decode cX2_init 136 = .ok (.iinc 1 1, 3) := by decide +kernel
theorem dX2_init_139 : decode cX2_init 139 = .ok (.goto (-22), 3) := by decide +kernel
theorem dX2_init_142 : decode cX2_init 142 = .ok (.return_, 1) := by decide +kernel
theorem dX2_inForce_0 : decode cX2_inForce 0 = .ok (.aload_n 0, 1) := by decide +kernel
theorem dX2_inForce_1 : decode cX2_inForce 1 = .ok (.aload_n 0, 1) := by decide +kernel
theorem dX2_inForce_2 : decode cX2_inForce 2 = .ok (.getfield 12, 3) := by decide +kernel
theorem dX2_inForce_5 : decode cX2_inForce 5 = .ok (.getfield 73, 3) := by decide +kernel
theorem dX2_inForce_8 : decode cX2_inForce 8 = .ok (.invokevirtual 76, 3) := by decide +kernel
theorem dX2_inForce_11 : decode cX2_inForce 11 = .ok (.areturn, 1) := by decide +kernel
theorem dX2_numbered_0 : decode cX2_numbered 0 = .ok (.iload_n 1, 1) := by decide +kernel
theorem dX2_numbered_1 : decode cX2_numbered 1 = .ok (.ifCond .lt 21, 3) := by decide +kernel
theorem dX2_numbered_4 : decode cX2_numbered 4 = .ok (.iload_n 1, 1) := by decide +kernel
theorem dX2_numbered_5 : decode cX2_numbered 5 = .ok (.aload_n 0, 1) := by decide +kernel
theorem dX2_numbered_6 : decode cX2_numbered 6 = .ok (.getfield 20, 3) := by decide +kernel
theorem dX2_numbered_9 : decode cX2_numbered 9 = .ok (.arraylength, 1) := by decide +kernel
theorem dX2_numbered_10 : decode cX2_numbered 10 = .ok (.if_icmp .ge 12, 3) := by decide +kernel
theorem dX2_numbered_13 : decode cX2_numbered 13 = .ok (.aload_n 0, 1) := by decide +kernel
theorem dX2_numbered_14 : decode cX2_numbered 14 = .ok (.getfield 20, 3) := by decide +kernel
theorem dX2_numbered_17 : decode cX2_numbered 17 = .ok (.iload_n 1, 1) := by decide +kernel
theorem dX2_numbered_18 : decode cX2_numbered 18 = .ok (.aaload, 1) := by decide +kernel
theorem dX2_numbered_19 : decode cX2_numbered 19 = .ok (.goto 4, 3) := by decide +kernel
theorem dX2_numbered_22 : decode cX2_numbered 22 = .ok (.aconst_null, 1) := by decide +kernel
theorem dX2_numbered_23 : decode cX2_numbered 23 = .ok (.areturn, 1) := by decide +kernel
theorem dX2_goOn_0 : decode cX2_goOn 0 = .ok (.aload_n 0, 1) := by decide +kernel
theorem dX2_goOn_1 : decode cX2_goOn 1 = .ok (.invokevirtual 80, 3) := by decide +kernel
theorem dX2_goOn_4 : decode cX2_goOn 4 = .ok (.astore_n 3, 1) := by decide +kernel
theorem dX2_goOn_5 : decode cX2_goOn 5 = .ok (.iconst 0, 1) := by decide +kernel
theorem dX2_goOn_6 : decode cX2_goOn 6 = .ok (.istore 4, 2) := by decide +kernel
theorem dX2_goOn_8 : decode cX2_goOn 8 = .ok (.iload 4, 2) := by decide +kernel
theorem dX2_goOn_10 : decode cX2_goOn 10 = .ok (.iload_n 1, 1) := by decide +kernel
theorem dX2_goOn_11 : decode cX2_goOn 11 = .ok (.if_icmp .ge 30, 3) := by decide +kernel
theorem dX2_goOn_14 : decode cX2_goOn 14 = .ok (.aload_n 0, 1) := by decide +kernel
theorem dX2_goOn_15 : decode cX2_goOn 15 = .ok (.getfield 31, 3) := by decide +kernel
theorem dX2_goOn_18 : decode cX2_goOn 18 = .ok (.aload_n 0, 1) := by decide +kernel
theorem dX2_goOn_19 : decode cX2_goOn 19 = .ok (.getfield 12, 3) := by decide +kernel
theorem dX2_goOn_22 : decode cX2_goOn 22 = .ok (.getfield 84, 3) := by decide +kernel
theorem dX2_goOn_25 : decode cX2_goOn 25 = .ok (.aload_n 3, 1) := by decide +kernel
theorem dX2_goOn_26 : decode cX2_goOn 26 = .ok (.aload_n 0, 1) := by decide +kernel
theorem dX2_goOn_27 : decode cX2_goOn 27 = .ok (.getfield 38, 3) := by decide +kernel
theorem dX2_goOn_30 : decode cX2_goOn 30 = .ok (.iload_n 2, 1) := by decide +kernel
theorem dX2_goOn_31 : decode cX2_goOn 31 = .ok (.invokevirtual 88, 3) := by decide +kernel
theorem dX2_goOn_34 : decode cX2_goOn 34 = .ok (.pop, 1) := by decide +kernel
theorem dX2_goOn_35 : decode cX2_goOn 35 = .ok (.iinc 4 1, 3) := by decide +kernel
theorem dX2_goOn_38 : decode cX2_goOn 38 = .ok (.goto (-30), 3) := by decide +kernel
theorem dX2_goOn_41 : decode cX2_goOn 41 = .ok (.return_, 1) := by decide +kernel
theorem dX2_aheadBy_0 : decode cX2_aheadBy 0 = .ok (.aload_n 0, 1) := by decide +kernel
theorem dX2_aheadBy_1 : decode cX2_aheadBy 1 = .ok (.getfield 38, 3) := by decide +kernel
theorem dX2_aheadBy_4 : decode cX2_aheadBy 4 = .ok (.aload_n 0, 1) := by decide +kernel
theorem dX2_aheadBy_5 : decode cX2_aheadBy 5 = .ok (.getfield 12, 3) := by decide +kernel
theorem dX2_aheadBy_8 : decode cX2_aheadBy 8 = .ok (.getfield 92, 3) := by decide +kernel
theorem dX2_aheadBy_11 : decode cX2_aheadBy 11 = .ok (.invokevirtual 95, 3) := by decide +kernel
theorem dX2_aheadBy_14 : decode cX2_aheadBy 14 = .ok (.aload_n 0, 1) := by decide +kernel
theorem dX2_aheadBy_15 : decode cX2_aheadBy 15 = .ok (.iload_n 2, 1) := by decide +kernel
theorem dX2_aheadBy_16 : decode cX2_aheadBy 16 = .ok (.iconst (-1), 1) := by decide +kernel
theorem dX2_aheadBy_17 : decode cX2_aheadBy 17 = .ok (.invokevirtual 99, 3) := by decide +kernel
theorem dX2_aheadBy_20 : decode cX2_aheadBy 20 = .ok (.iload_n 3, 1) := by decide +kernel
theorem dX2_aheadBy_21 : decode cX2_aheadBy 21 = .ok (.tableswitch 83 0 2 #[27, 51, 74], 27) := by decide +kernel
theorem dX2_aheadBy_48 : decode cX2_aheadBy 48 = .ok (.iload_n 1, 1) := by decide +kernel
theorem dX2_aheadBy_49 : decode cX2_aheadBy 49 = .ok (.ifCond .lt 21, 3) := by decide +kernel
theorem dX2_aheadBy_52 : decode cX2_aheadBy 52 = .ok (.iload_n 1, 1) := by decide +kernel
theorem dX2_aheadBy_53 : decode cX2_aheadBy 53 = .ok (.bipush 6, 2) := by decide +kernel
theorem dX2_aheadBy_55 : decode cX2_aheadBy 55 = .ok (.if_icmp .ge 15, 3) := by decide +kernel
theorem dX2_aheadBy_58 : decode cX2_aheadBy 58 = .ok (.aload_n 0, 1) := by decide +kernel
theorem dX2_aheadBy_59 : decode cX2_aheadBy 59 = .ok (.getfield 38, 3) := by decide +kernel
theorem dX2_aheadBy_62 : decode cX2_aheadBy 62 = .ok (.getfield 103, 3) := by decide +kernel
theorem dX2_aheadBy_65 : decode cX2_aheadBy 65 = .ok (.iload_n 1, 1) := by decide +kernel
theorem dX2_aheadBy_66 : decode cX2_aheadBy 66 = .ok (.iaload, 1) := by decide +kernel
theorem dX2_aheadBy_67 : decode cX2_aheadBy 67 = .ok (.goto 4, 3) := by decide +kernel
theorem dX2_aheadBy_70 : decode cX2_aheadBy 70 = .ok (.iconst (-1), 1) := by decide +kernel
theorem dX2_aheadBy_71 : decode cX2_aheadBy 71 = .ok (.ireturn, 1) := by decide +kernel
theorem dX2_aheadBy_72 : decode cX2_aheadBy 72 = .ok (.iload_n 1, 1) := by decide +kernel
theorem dX2_aheadBy_73 : decode cX2_aheadBy 73 = .ok (.ifCond .lt 20, 3) := by decide +kernel
theorem dX2_aheadBy_76 : decode cX2_aheadBy 76 = .ok (.iload_n 1, 1) := by decide +kernel
theorem dX2_aheadBy_77 : decode cX2_aheadBy 77 = .ok (.iconst 4, 1) := by decide +kernel
theorem dX2_aheadBy_78 : decode cX2_aheadBy 78 = .ok (.if_icmp .ge 15, 3) := by decide +kernel
theorem dX2_aheadBy_81 : decode cX2_aheadBy 81 = .ok (.aload_n 0, 1) := by decide +kernel
theorem dX2_aheadBy_82 : decode cX2_aheadBy 82 = .ok (.getfield 38, 3) := by decide +kernel
theorem dX2_aheadBy_85 : decode cX2_aheadBy 85 = .ok (.getfield 106, 3) := by decide +kernel
theorem dX2_aheadBy_88 : decode cX2_aheadBy 88 = .ok (.iload_n 1, 1) := by decide +kernel
theorem dX2_aheadBy_89 : decode cX2_aheadBy 89 = .ok (.iaload, 1) := by decide +kernel
theorem dX2_aheadBy_90 : decode cX2_aheadBy 90 = .ok (.goto 4, 3) := by decide +kernel
theorem dX2_aheadBy_93 : decode cX2_aheadBy 93 = .ok (.iconst (-1), 1) := by decide +kernel
theorem dX2_aheadBy_94 : decode cX2_aheadBy 94 = .ok (.ireturn, 1) := by decide +kernel
theorem dX2_aheadBy_95 : decode cX2_aheadBy 95 = .ok (.aload_n 0, 1) := by decide +kernel
theorem dX2_aheadBy_96 : decode cX2_aheadBy 96 = .ok (.getfield 38, 3) := by decide +kernel
theorem dX2_aheadBy_99 : decode cX2_aheadBy 99 = .ok (.iload_n 1, 1) := by decide +kernel
theorem dX2_aheadBy_100 : decode cX2_aheadBy 100 = .ok (.invokevirtual 109, 3) := by decide +kernel
theorem dX2_aheadBy_103 : decode cX2_aheadBy 103 = .ok (.ireturn, 1) := by decide +kernel
theorem dX2_aheadBy_104 : decode cX2_aheadBy 104 = .ok (.aload_n 0, 1) := by decide +kernel
theorem dX2_aheadBy_105 : decode cX2_aheadBy 105 = .ok (.getfield 38, 3) := by decide +kernel
theorem dX2_aheadBy_108 : decode cX2_aheadBy 108 = .ok (.getfield 113, 3) := by decide +kernel
theorem dX2_aheadBy_111 : decode cX2_aheadBy 111 = .ok (.ireturn, 1) := by decide +kernel
theorem dX2_firstHour_0 : decode cX2_firstHour 0 = .ok (.aload_n 0, 1) := by decide +kernel
theorem dX2_firstHour_1 : decode cX2_firstHour 1 = .ok (.getfield 38, 3) := by decide +kernel
theorem dX2_firstHour_4 : decode cX2_firstHour 4 = .ok (.aload_n 0, 1) := by decide +kernel
theorem dX2_firstHour_5 : decode cX2_firstHour 5 = .ok (.getfield 12, 3) := by decide +kernel
theorem dX2_firstHour_8 : decode cX2_firstHour 8 = .ok (.getfield 92, 3) := by decide +kernel
theorem dX2_firstHour_11 : decode cX2_firstHour 11 = .ok (.invokevirtual 95, 3) := by decide +kernel
theorem dX2_firstHour_14 : decode cX2_firstHour 14 = .ok (.aload_n 0, 1) := by decide +kernel
theorem dX2_firstHour_15 : decode cX2_firstHour 15 = .ok (.invokevirtual 80, 3) := by decide +kernel
theorem dX2_firstHour_18 : decode cX2_firstHour 18 = .ok (.astore_n 3, 1) := by decide +kernel
theorem dX2_firstHour_19 : decode cX2_firstHour 19 = .ok (.iconst 0, 1) := by decide +kernel
theorem dX2_firstHour_20 : decode cX2_firstHour 20 = .ok (.istore 4, 2) := by decide +kernel
theorem dX2_firstHour_22 : decode cX2_firstHour 22 = .ok (.iload 4, 2) := by decide +kernel
theorem dX2_firstHour_24 : decode cX2_firstHour 24 = .ok (.bipush 100, 2) := by decide +kernel
theorem dX2_firstHour_26 : decode cX2_firstHour 26 = .ok (.if_icmp .ge 56, 3) := by decide +kernel
theorem dX2_firstHour_29 : decode cX2_firstHour 29 = .ok (.aload_n 0, 1) := by decide +kernel
theorem dX2_firstHour_30 : decode cX2_firstHour 30 = .ok (.getfield 31, 3) := by decide +kernel
theorem dX2_firstHour_33 : decode cX2_firstHour 33 = .ok (.aload_n 0, 1) := by decide +kernel
theorem dX2_firstHour_34 : decode cX2_firstHour 34 = .ok (.getfield 12, 3) := by decide +kernel
theorem dX2_firstHour_37 : decode cX2_firstHour 37 = .ok (.getfield 84, 3) := by decide +kernel
theorem dX2_firstHour_40 : decode cX2_firstHour 40 = .ok (.aload_n 3, 1) := by decide +kernel
theorem dX2_firstHour_41 : decode cX2_firstHour 41 = .ok (.aload_n 0, 1) := by decide +kernel
theorem dX2_firstHour_42 : decode cX2_firstHour 42 = .ok (.getfield 38, 3) := by decide +kernel
theorem dX2_firstHour_45 : decode cX2_firstHour 45 = .ok (.iconst (-1), 1) := by decide +kernel
theorem dX2_firstHour_46 : decode cX2_firstHour 46 = .ok (.invokevirtual 88, 3) := by decide +kernel
theorem dX2_firstHour_49 : decode cX2_firstHour 49 = .ok (.istore 5, 2) := by decide +kernel
theorem dX2_firstHour_51 : decode cX2_firstHour 51 = .ok (.iload 5, 2) := by decide +kernel
theorem dX2_firstHour_53 : decode cX2_firstHour 53 = .ok (.iload_n 1, 1) := by decide +kernel
theorem dX2_firstHour_54 : decode cX2_firstHour 54 = .ok (.iand, 1) := by decide +kernel
theorem dX2_firstHour_55 : decode cX2_firstHour 55 = .ok (.invokestatic 116, 3) := by decide +kernel
theorem dX2_firstHour_58 : decode cX2_firstHour 58 = .ok (.iload_n 2, 1) := by decide +kernel
theorem dX2_firstHour_59 : decode cX2_firstHour 59 = .ok (.if_icmp .lt 17, 3) := by decide +kernel
theorem dX2_firstHour_62 : decode cX2_firstHour 62 = .ok (.aload_n 0, 1) := by decide +kernel
theorem dX2_firstHour_63 : decode cX2_firstHour 63 = .ok (.getfield 12, 3) := by decide +kernel
theorem dX2_firstHour_66 : decode cX2_firstHour 66 = .ok (.getfield 92, 3) := by decide +kernel
theorem dX2_firstHour_69 : decode cX2_firstHour 69 = .ok (.getfield 121, 3) := by decide +kernel
theorem dX2_firstHour_72 : decode cX2_firstHour 72 = .ok (.iload 4, 2) := by decide +kernel
theorem dX2_firstHour_74 : decode cX2_firstHour 74 = .ok (.iadd, 1) := by decide +kernel
theorem dX2_firstHour_75 : decode cX2_firstHour 75 = .ok (.ireturn, 1) := by decide +kernel
theorem dX2_firstHour_76 : decode cX2_firstHour 76 = .ok (.iinc 4 1, 3) := by decide +kernel
theorem dX2_firstHour_79 : decode cX2_firstHour 79 = .ok (.goto (-57), 3) := by decide +kernel
theorem dX2_firstHour_82 : decode cX2_firstHour 82 = .ok (.bipush (-2), 2) := by decide +kernel
theorem dX2_firstHour_84 : decode cX2_firstHour 84 = .ok (.ireturn, 1) := by decide +kernel
theorem dX2_forgetWays_0 : decode cX2_forgetWays 0 = .ok (.aload_n 0, 1) := by decide +kernel
theorem dX2_forgetWays_1 : decode cX2_forgetWays 1 = .ok (.iconst 5, 1) := by decide +kernel
theorem dX2_forgetWays_2 : decode cX2_forgetWays 2 = .ok (.putfield 63, 3) := by decide +kernel
theorem dX2_forgetWays_5 : decode cX2_forgetWays 5 = .ok (.aload_n 0, 1) := by decide +kernel
theorem dX2_forgetWays_6 : decode cX2_forgetWays 6 = .ok (.iconst 0, 1) := by decide +kernel
theorem dX2_forgetWays_7 : decode cX2_forgetWays 7 = .ok (.putfield 66, 3) := by decide +kernel
theorem dX2_forgetWays_10 : decode cX2_forgetWays 10 = .ok (.return_, 1) := by decide +kernel
theorem dX2_offer_0 : decode cX2_offer 0 = .ok (.aload_n 0, 1) := by decide +kernel
theorem dX2_offer_1 : decode cX2_offer 1 = .ok (.getfield 38, 3) := by decide +kernel
theorem dX2_offer_4 : decode cX2_offer 4 = .ok (.getfield 113, 3) := by decide +kernel
theorem dX2_offer_7 : decode cX2_offer 7 = .ok (.invokestatic 116, 3) := by decide +kernel
theorem dX2_offer_10 : decode cX2_offer 10 = .ok (.istore_n 2, 1) := by decide +kernel
theorem dX2_offer_11 : decode cX2_offer 11 = .ok (.aload_n 0, 1) := by decide +kernel
theorem dX2_offer_12 : decode cX2_offer 12 = .ok (.getfield 38, 3) := by decide +kernel
theorem dX2_offer_15 : decode cX2_offer 15 = .ok (.invokevirtual 124, 3) := by decide +kernel
theorem dX2_offer_18 : decode cX2_offer 18 = .ok (.istore_n 3, 1) := by decide +kernel
theorem dX2_offer_19 : decode cX2_offer 19 = .ok (.iload_n 2, 1) := by decide +kernel
theorem dX2_offer_20 : decode cX2_offer 20 = .ok (.aload_n 0, 1) := by decide +kernel
theorem dX2_offer_21 : decode cX2_offer 21 = .ok (.getfield 63, 3) := by decide +kernel
theorem dX2_offer_24 : decode cX2_offer 24 = .ok (.if_icmp .lt 19, 3) := by decide +kernel
theorem dX2_offer_27 : decode cX2_offer 27 = .ok (.iload_n 2, 1) := by decide +kernel
theorem dX2_offer_28 : decode cX2_offer 28 = .ok (.aload_n 0, 1) := by decide +kernel
theorem dX2_offer_29 : decode cX2_offer 29 = .ok (.getfield 63, 3) := by decide +kernel
theorem dX2_offer_32 : decode cX2_offer 32 = .ok (.if_icmp .ne 26, 3) := by decide +kernel
theorem dX2_offer_35 : decode cX2_offer 35 = .ok (.iload_n 3, 1) := by decide +kernel
theorem dX2_offer_36 : decode cX2_offer 36 = .ok (.aload_n 0, 1) := by decide +kernel
theorem dX2_offer_37 : decode cX2_offer 37 = .ok (.getfield 66, 3) := by decide +kernel
theorem dX2_offer_40 : decode cX2_offer 40 = .ok (.if_icmp .le 18, 3) := by decide +kernel
theorem dX2_offer_43 : decode cX2_offer 43 = .ok (.aload_n 0, 1) := by decide +kernel
theorem dX2_offer_44 : decode cX2_offer 44 = .ok (.iload_n 1, 1) := by decide +kernel
theorem dX2_offer_45 : decode cX2_offer 45 = .ok (.putfield 60, 3) := by decide +kernel
theorem dX2_offer_48 : decode cX2_offer 48 = .ok (.aload_n 0, 1) := by decide +kernel
theorem dX2_offer_49 : decode cX2_offer 49 = .ok (.iload_n 2, 1) := by decide +kernel
theorem dX2_offer_50 : decode cX2_offer 50 = .ok (.putfield 63, 3) := by decide +kernel
theorem dX2_offer_53 : decode cX2_offer 53 = .ok (.aload_n 0, 1) := by decide +kernel
theorem dX2_offer_54 : decode cX2_offer 54 = .ok (.iload_n 3, 1) := by decide +kernel
theorem dX2_offer_55 : decode cX2_offer 55 = .ok (.putfield 66, 3) := by decide +kernel
theorem dX2_offer_58 : decode cX2_offer 58 = .ok (.return_, 1) := by decide +kernel
theorem dX2_best_0 : decode cX2_best 0 = .ok (.iload_n 1, 1) := by decide +kernel
theorem dX2_best_1 : decode cX2_best 1 = .ok (.ifCond .ne 8, 3) := by decide +kernel
theorem dX2_best_4 : decode cX2_best 4 = .ok (.aload_n 0, 1) := by decide +kernel
theorem dX2_best_5 : decode cX2_best 5 = .ok (.getfield 60, 3) := by decide +kernel
theorem dX2_best_8 : decode cX2_best 8 = .ok (.ireturn, 1) := by decide +kernel
theorem dX2_best_9 : decode cX2_best 9 = .ok (.iload_n 1, 1) := by decide +kernel
theorem dX2_best_10 : decode cX2_best 10 = .ok (.iconst 1, 1) := by decide +kernel
theorem dX2_best_11 : decode cX2_best 11 = .ok (.if_icmp .ne 10, 3) := by decide +kernel
theorem dX2_best_14 : decode cX2_best 14 = .ok (.aload_n 0, 1) := by decide +kernel
theorem dX2_best_15 : decode cX2_best 15 = .ok (.getfield 63, 3) := by decide +kernel
theorem dX2_best_18 : decode cX2_best 18 = .ok (.goto 7, 3) := by decide +kernel
theorem dX2_best_21 : decode cX2_best 21 = .ok (.aload_n 0, 1) := by decide +kernel
theorem dX2_best_22 : decode cX2_best 22 = .ok (.getfield 66, 3) := by decide +kernel
theorem dX2_best_25 : decode cX2_best 25 = .ok (.ireturn, 1) := by decide +kernel
theorem dX2_bestCell_0 : decode cX2_bestCell 0 = .ok (.aload_n 0, 1) := by decide +kernel
theorem dX2_bestCell_1 : decode cX2_bestCell 1 = .ok (.invokevirtual 128, 3) := by decide +kernel
theorem dX2_bestCell_4 : decode cX2_bestCell 4 = .ok (.iconst 0, 1) := by decide +kernel
theorem dX2_bestCell_5 : decode cX2_bestCell 5 = .ok (.istore 4, 2) := by decide +kernel
theorem dX2_bestCell_7 : decode cX2_bestCell 7 = .ok (.iload 4, 2) := by decide +kernel
theorem dX2_bestCell_9 : decode cX2_bestCell 9 = .ok (.aload_n 0, 1) := by decide +kernel
theorem dX2_bestCell_10 : decode cX2_bestCell 10 = .ok (.getfield 12, 3) := by decide +kernel
theorem dX2_bestCell_13 : decode cX2_bestCell 13 = .ok (.getfield 84, 3) := by decide +kernel
theorem dX2_bestCell_16 : decode cX2_bestCell 16 = .ok (.invokevirtual 131, 3) := by decide +kernel
theorem dX2_bestCell_19 : decode cX2_bestCell 19 = .ok (.if_icmp .ge 46, 3) := by decide +kernel
theorem dX2_bestCell_22 : decode cX2_bestCell 22 = .ok (.aload_n 0, 1) := by decide +kernel
theorem dX2_bestCell_23 : decode cX2_bestCell 23 = .ok (.getfield 38, 3) := by decide +kernel
theorem dX2_bestCell_26 : decode cX2_bestCell 26 = .ok (.aload_n 0, 1) := by decide +kernel
theorem dX2_bestCell_27 : decode cX2_bestCell 27 = .ok (.getfield 12, 3) := by decide +kernel
theorem dX2_bestCell_30 : decode cX2_bestCell 30 = .ok (.getfield 92, 3) := by decide +kernel
theorem dX2_bestCell_33 : decode cX2_bestCell 33 = .ok (.invokevirtual 95, 3) := by decide +kernel
theorem dX2_bestCell_36 : decode cX2_bestCell 36 = .ok (.aload_n 0, 1) := by decide +kernel
theorem dX2_bestCell_37 : decode cX2_bestCell 37 = .ok (.getfield 38, 3) := by decide +kernel
theorem dX2_bestCell_40 : decode cX2_bestCell 40 = .ok (.getfield 136, 3) := by decide +kernel
theorem dX2_bestCell_43 : decode cX2_bestCell 43 = .ok (.iload_n 1, 1) := by decide +kernel
theorem dX2_bestCell_44 : decode cX2_bestCell 44 = .ok (.iload 4, 2) := by decide +kernel
theorem dX2_bestCell_46 : decode cX2_bestCell 46 = .ok (.iastore, 1) := by decide +kernel
theorem dX2_bestCell_47 : decode cX2_bestCell 47 = .ok (.aload_n 0, 1) := by decide +kernel
theorem dX2_bestCell_48 : decode cX2_bestCell 48 = .ok (.iload_n 2, 1) := by decide +kernel
theorem dX2_bestCell_49 : decode cX2_bestCell 49 = .ok (.iconst (-1), 1) := by decide +kernel
theorem dX2_bestCell_50 : decode cX2_bestCell 50 = .ok (.invokevirtual 99, 3) := by decide +kernel
theorem dX2_bestCell_53 : decode cX2_bestCell 53 = .ok (.aload_n 0, 1) := by decide +kernel
theorem dX2_bestCell_54 : decode cX2_bestCell 54 = .ok (.iload 4, 2) := by decide +kernel
theorem dX2_bestCell_56 : decode cX2_bestCell 56 = .ok (.invokevirtual 139, 3) := by decide +kernel
theorem dX2_bestCell_59 : decode cX2_bestCell 59 = .ok (.iinc 4 1, 3) := by decide +kernel
theorem dX2_bestCell_62 : decode cX2_bestCell 62 = .ok (.goto (-55), 3) := by decide +kernel
theorem dX2_bestCell_65 : decode cX2_bestCell 65 = .ok (.aload_n 0, 1) := by decide +kernel
theorem dX2_bestCell_66 : decode cX2_bestCell 66 = .ok (.iload_n 3, 1) := by decide +kernel
theorem dX2_bestCell_67 : decode cX2_bestCell 67 = .ok (.invokevirtual 143, 3) := by decide +kernel
theorem dX2_bestCell_70 : decode cX2_bestCell 70 = .ok (.ireturn, 1) := by decide +kernel
theorem dX2_bestFace_0 : decode cX2_bestFace 0 = .ok (.aload_n 0, 1) := by decide +kernel
theorem dX2_bestFace_1 : decode cX2_bestFace 1 = .ok (.invokevirtual 128, 3) := by decide +kernel
theorem dX2_bestFace_4 : decode cX2_bestFace 4 = .ok (.iconst 0, 1) := by decide +kernel
theorem dX2_bestFace_5 : decode cX2_bestFace 5 = .ok (.istore 4, 2) := by decide +kernel
theorem dX2_bestFace_7 : decode cX2_bestFace 7 = .ok (.iload 4, 2) := by decide +kernel
theorem dX2_bestFace_9 : decode cX2_bestFace 9 = .ok (.iconst 4, 1) := by decide +kernel
theorem dX2_bestFace_10 : decode cX2_bestFace 10 = .ok (.if_icmp .ge 46, 3) := by decide +kernel
theorem dX2_bestFace_13 : decode cX2_bestFace 13 = .ok (.aload_n 0, 1) := by decide +kernel
theorem dX2_bestFace_14 : decode cX2_bestFace 14 = .ok (.getfield 38, 3) := by decide +kernel
theorem dX2_bestFace_17 : decode cX2_bestFace 17 = .ok (.aload_n 0, 1) := by decide +kernel
theorem dX2_bestFace_18 : decode cX2_bestFace 18 = .ok (.getfield 12, 3) := by decide +kernel
theorem dX2_bestFace_21 : decode cX2_bestFace 21 = .ok (.getfield 92, 3) := by decide +kernel
theorem dX2_bestFace_24 : decode cX2_bestFace 24 = .ok (.invokevirtual 95, 3) := by decide +kernel
theorem dX2_bestFace_27 : decode cX2_bestFace 27 = .ok (.aload_n 0, 1) := by decide +kernel
theorem dX2_bestFace_28 : decode cX2_bestFace 28 = .ok (.getfield 38, 3) := by decide +kernel
theorem dX2_bestFace_31 : decode cX2_bestFace 31 = .ok (.getfield 146, 3) := by decide +kernel
theorem dX2_bestFace_34 : decode cX2_bestFace 34 = .ok (.iload_n 1, 1) := by decide +kernel
theorem dX2_bestFace_35 : decode cX2_bestFace 35 = .ok (.iload 4, 2) := by decide +kernel
theorem dX2_bestFace_37 : decode cX2_bestFace 37 = .ok (.iastore, 1) := by decide +kernel
theorem dX2_bestFace_38 : decode cX2_bestFace 38 = .ok (.aload_n 0, 1) := by decide +kernel
theorem dX2_bestFace_39 : decode cX2_bestFace 39 = .ok (.iload_n 2, 1) := by decide +kernel
theorem dX2_bestFace_40 : decode cX2_bestFace 40 = .ok (.iconst (-1), 1) := by decide +kernel
theorem dX2_bestFace_41 : decode cX2_bestFace 41 = .ok (.invokevirtual 99, 3) := by decide +kernel
theorem dX2_bestFace_44 : decode cX2_bestFace 44 = .ok (.aload_n 0, 1) := by decide +kernel
theorem dX2_bestFace_45 : decode cX2_bestFace 45 = .ok (.iload 4, 2) := by decide +kernel
theorem dX2_bestFace_47 : decode cX2_bestFace 47 = .ok (.invokevirtual 139, 3) := by decide +kernel
theorem dX2_bestFace_50 : decode cX2_bestFace 50 = .ok (.iinc 4 1, 3) := by decide +kernel
theorem dX2_bestFace_53 : decode cX2_bestFace 53 = .ok (.goto (-46), 3) := by decide +kernel
theorem dX2_bestFace_56 : decode cX2_bestFace 56 = .ok (.aload_n 0, 1) := by decide +kernel
theorem dX2_bestFace_57 : decode cX2_bestFace 57 = .ok (.iload_n 3, 1) := by decide +kernel
theorem dX2_bestFace_58 : decode cX2_bestFace 58 = .ok (.invokevirtual 143, 3) := by decide +kernel
theorem dX2_bestFace_61 : decode cX2_bestFace 61 = .ok (.ireturn, 1) := by decide +kernel
theorem dX2_bestStill_0 : decode cX2_bestStill 0 = .ok (.aload_n 0, 1) := by decide +kernel
theorem dX2_bestStill_1 : decode cX2_bestStill 1 = .ok (.invokevirtual 128, 3) := by decide +kernel
theorem dX2_bestStill_4 : decode cX2_bestStill 4 = .ok (.iconst (-1), 1) := by decide +kernel
theorem dX2_bestStill_5 : decode cX2_bestStill 5 = .ok (.istore_n 3, 1) := by decide +kernel
theorem dX2_bestStill_6 : decode cX2_bestStill 6 = .ok (.iload_n 3, 1) := by decide +kernel
theorem dX2_bestStill_7 : decode cX2_bestStill 7 = .ok (.aload_n 0, 1) := by decide +kernel
theorem dX2_bestStill_8 : decode cX2_bestStill 8 = .ok (.getfield 12, 3) := by decide +kernel
theorem dX2_bestStill_11 : decode cX2_bestStill 11 = .ok (.getfield 84, 3) := by decide +kernel
theorem dX2_bestStill_14 : decode cX2_bestStill 14 = .ok (.getfield 149, 3) := by decide +kernel
theorem dX2_bestStill_17 : decode cX2_bestStill 17 = .ok (.if_icmp .ge 34, 3) := by decide +kernel
theorem dX2_bestStill_20 : decode cX2_bestStill 20 = .ok (.aload_n 0, 1) := by decide +kernel
theorem dX2_bestStill_21 : decode cX2_bestStill 21 = .ok (.getfield 38, 3) := by decide +kernel
theorem dX2_bestStill_24 : decode cX2_bestStill 24 = .ok (.aload_n 0, 1) := by decide +kernel
theorem dX2_bestStill_25 : decode cX2_bestStill 25 = .ok (.getfield 12, 3) := by decide +kernel
theorem dX2_bestStill_28 : decode cX2_bestStill 28 = .ok (.getfield 92, 3) := by decide +kernel
theorem dX2_bestStill_31 : decode cX2_bestStill 31 = .ok (.invokevirtual 95, 3) := by decide +kernel
theorem dX2_bestStill_34 : decode cX2_bestStill 34 = .ok (.aload_n 0, 1) := by decide +kernel
theorem dX2_bestStill_35 : decode cX2_bestStill 35 = .ok (.iload_n 1, 1) := by decide +kernel
theorem dX2_bestStill_36 : decode cX2_bestStill 36 = .ok (.iload_n 3, 1) := by decide +kernel
theorem dX2_bestStill_37 : decode cX2_bestStill 37 = .ok (.invokevirtual 99, 3) := by decide +kernel
theorem dX2_bestStill_40 : decode cX2_bestStill 40 = .ok (.aload_n 0, 1) := by decide +kernel
theorem dX2_bestStill_41 : decode cX2_bestStill 41 = .ok (.iload_n 3, 1) := by decide +kernel
theorem dX2_bestStill_42 : decode cX2_bestStill 42 = .ok (.invokevirtual 139, 3) := by decide +kernel
theorem dX2_bestStill_45 : decode cX2_bestStill 45 = .ok (.iinc 3 1, 3) := by decide +kernel
theorem dX2_bestStill_48 : decode cX2_bestStill 48 = .ok (.goto (-42), 3) := by decide +kernel
theorem dX2_bestStill_51 : decode cX2_bestStill 51 = .ok (.aload_n 0, 1) := by decide +kernel
theorem dX2_bestStill_52 : decode cX2_bestStill 52 = .ok (.iload_n 2, 1) := by decide +kernel
theorem dX2_bestStill_53 : decode cX2_bestStill 53 = .ok (.invokevirtual 143, 3) := by decide +kernel
theorem dX2_bestStill_56 : decode cX2_bestStill 56 = .ok (.ireturn, 1) := by decide +kernel
theorem dX2_leastWine_0 : decode cX2_leastWine 0 = .ok (.iconst 0, 1) := by decide +kernel
theorem dX2_leastWine_1 : decode cX2_leastWine 1 = .ok (.istore 5, 2) := by decide +kernel
theorem dX2_leastWine_3 : decode cX2_leastWine 3 = .ok (.iload 5, 2) := by decide +kernel
theorem dX2_leastWine_5 : decode cX2_leastWine 5 = .ok (.bipush 40, 2) := by decide +kernel
theorem dX2_leastWine_7 : decode cX2_leastWine 7 = .ok (.if_icmp .gt 56, 3) := by decide +kernel
theorem dX2_leastWine_10 : decode cX2_leastWine 10 = .ok (.aload_n 0, 1) := by decide +kernel
theorem dX2_leastWine_11 : decode cX2_leastWine 11 = .ok (.getfield 38, 3) := by decide +kernel
theorem dX2_leastWine_14 : decode cX2_leastWine 14 = .ok (.aload_n 0, 1) := by decide +kernel
theorem dX2_leastWine_15 : decode cX2_leastWine 15 = .ok (.getfield 12, 3) := by decide +kernel
theorem dX2_leastWine_18 : decode cX2_leastWine 18 = .ok (.getfield 92, 3) := by decide +kernel
theorem dX2_leastWine_21 : decode cX2_leastWine 21 = .ok (.invokevirtual 95, 3) := by decide +kernel
theorem dX2_leastWine_24 : decode cX2_leastWine 24 = .ok (.aload_n 0, 1) := by decide +kernel
theorem dX2_leastWine_25 : decode cX2_leastWine 25 = .ok (.getfield 38, 3) := by decide +kernel
theorem dX2_leastWine_28 : decode cX2_leastWine 28 = .ok (.iload_n 1, 1) := by decide +kernel
theorem dX2_leastWine_29 : decode cX2_leastWine 29 = .ok (.iload 5, 2) := by decide +kernel
theorem dX2_leastWine_31 : decode cX2_leastWine 31 = .ok (.invokevirtual 152, 3) := by decide +kernel
theorem dX2_leastWine_34 : decode cX2_leastWine 34 = .ok (.aload_n 0, 1) := by decide +kernel
theorem dX2_leastWine_35 : decode cX2_leastWine 35 = .ok (.iload 4, 2) := by decide +kernel
theorem dX2_leastWine_37 : decode cX2_leastWine 37 = .ok (.iconst (-1), 1) := by decide +kernel
theorem dX2_leastWine_38 : decode cX2_leastWine 38 = .ok (.invokevirtual 99, 3) := by decide +kernel
theorem dX2_leastWine_41 : decode cX2_leastWine 41 = .ok (.aload_n 0, 1) := by decide +kernel
theorem dX2_leastWine_42 : decode cX2_leastWine 42 = .ok (.getfield 38, 3) := by decide +kernel
theorem dX2_leastWine_45 : decode cX2_leastWine 45 = .ok (.getfield 106, 3) := by decide +kernel
theorem dX2_leastWine_48 : decode cX2_leastWine 48 = .ok (.iload_n 2, 1) := by decide +kernel
theorem dX2_leastWine_49 : decode cX2_leastWine 49 = .ok (.iaload, 1) := by decide +kernel
theorem dX2_leastWine_50 : decode cX2_leastWine 50 = .ok (.iload_n 3, 1) := by decide +kernel
theorem dX2_leastWine_51 : decode cX2_leastWine 51 = .ok (.if_icmp .lt 6, 3) := by decide +kernel
theorem dX2_leastWine_54 : decode cX2_leastWine 54 = .ok (.iload 5, 2) := by decide +kernel
theorem dX2_leastWine_56 : decode cX2_leastWine 56 = .ok (.ireturn, 1) := by decide +kernel
theorem dX2_leastWine_57 : decode cX2_leastWine 57 = .ok (.iinc 5 1, 3) := by decide +kernel
theorem dX2_leastWine_60 : decode cX2_leastWine 60 = .ok (.goto (-57), 3) := by decide +kernel
theorem dX2_leastWine_63 : decode cX2_leastWine 63 = .ok (.bipush (-2), 2) := by decide +kernel
theorem dX2_leastWine_65 : decode cX2_leastWine 65 = .ok (.ireturn, 1) := by decide +kernel
theorem dX2_blowers_0 : decode cX2_blowers 0 = .ok (.aload_n 0, 1) := by decide +kernel
theorem dX2_blowers_1 : decode cX2_blowers 1 = .ok (.getfield 12, 3) := by decide +kernel
theorem dX2_blowers_4 : decode cX2_blowers 4 = .ok (.getfield 84, 3) := by decide +kernel
theorem dX2_blowers_7 : decode cX2_blowers 7 = .ok (.getfield 149, 3) := by decide +kernel
theorem dX2_blowers_10 : decode cX2_blowers 10 = .ok (.istore 4, 2) := by decide +kernel
theorem dX2_blowers_12 : decode cX2_blowers 12 = .ok (.iconst 0, 1) := by decide +kernel
theorem dX2_blowers_13 : decode cX2_blowers 13 = .ok (.istore 5, 2) := by decide +kernel
theorem dX2_blowers_15 : decode cX2_blowers 15 = .ok (.iload 5, 2) := by decide +kernel
theorem dX2_blowers_17 : decode cX2_blowers 17 = .ok (.iload 4, 2) := by decide +kernel
theorem dX2_blowers_19 : decode cX2_blowers 19 = .ok (.if_icmp .ge 53, 3) := by decide +kernel
theorem dX2_blowers_22 : decode cX2_blowers 22 = .ok (.aload_n 0, 1) := by decide +kernel
theorem dX2_blowers_23 : decode cX2_blowers 23 = .ok (.getfield 42, 3) := by decide +kernel
theorem dX2_blowers_26 : decode cX2_blowers 26 = .ok (.iconst 0, 1) := by decide +kernel
theorem dX2_blowers_27 : decode cX2_blowers 27 = .ok (.invokestatic 155, 3) := by decide +kernel
theorem dX2_blowers_30 : decode cX2_blowers 30 = .ok (.aload_n 0, 1) := by decide +kernel
theorem dX2_blowers_31 : decode cX2_blowers 31 = .ok (.getfield 12, 3) := by decide +kernel
theorem dX2_blowers_34 : decode cX2_blowers 34 = .ok (.getfield 84, 3) := by decide +kernel
theorem dX2_blowers_37 : decode cX2_blowers 37 = .ok (.aload_n 0, 1) := by decide +kernel
theorem dX2_blowers_38 : decode cX2_blowers 38 = .ok (.getfield 12, 3) := by decide +kernel
theorem dX2_blowers_41 : decode cX2_blowers 41 = .ok (.getfield 92, 3) := by decide +kernel
theorem dX2_blowers_44 : decode cX2_blowers 44 = .ok (.iload 5, 2) := by decide +kernel
theorem dX2_blowers_46 : decode cX2_blowers 46 = .ok (.aload_n 0, 1) := by decide +kernel
theorem dX2_blowers_47 : decode cX2_blowers 47 = .ok (.getfield 42, 3) := by decide +kernel
theorem dX2_blowers_50 : decode cX2_blowers 50 = .ok (.invokestatic 161, 3) := by decide +kernel
theorem dX2_blowers_53 : decode cX2_blowers 53 = .ok (.aload_n 0, 1) := by decide +kernel
theorem dX2_blowers_54 : decode cX2_blowers 54 = .ok (.getfield 46, 3) := by decide +kernel
theorem dX2_blowers_57 : decode cX2_blowers 57 = .ok (.iload 5, 2) := by decide +kernel
theorem dX2_blowers_59 : decode cX2_blowers 59 = .ok (.aload_n 0, 1) := by decide +kernel
theorem dX2_blowers_60 : decode cX2_blowers 60 = .ok (.getfield 42, 3) := by decide +kernel
theorem dX2_blowers_63 : decode cX2_blowers 63 = .ok (.iload_n 1, 1) := by decide +kernel
theorem dX2_blowers_64 : decode cX2_blowers 64 = .ok (.iaload, 1) := by decide +kernel
theorem dX2_blowers_65 : decode cX2_blowers 65 = .ok (.iastore, 1) := by decide +kernel
theorem dX2_blowers_66 : decode cX2_blowers 66 = .ok (.iinc 5 1, 3) := by decide +kernel
theorem dX2_blowers_69 : decode cX2_blowers 69 = .ok (.goto (-54), 3) := by decide +kernel
theorem dX2_blowers_72 : decode cX2_blowers 72 = .ok (.iconst 0, 1) := by decide +kernel
theorem dX2_blowers_73 : decode cX2_blowers 73 = .ok (.istore 5, 2) := by decide +kernel
theorem dX2_blowers_75 : decode cX2_blowers 75 = .ok (.bipush (-2), 2) := by decide +kernel
theorem dX2_blowers_77 : decode cX2_blowers 77 = .ok (.istore 6, 2) := by decide +kernel
theorem dX2_blowers_79 : decode cX2_blowers 79 = .ok (.iconst 1, 1) := by decide +kernel
theorem dX2_blowers_80 : decode cX2_blowers 80 = .ok (.iload 4, 2) := by decide +kernel
theorem dX2_blowers_82 : decode cX2_blowers 82 = .ok (.ishl, 1) := by decide +kernel
theorem dX2_blowers_83 : decode cX2_blowers 83 = .ok (.iconst 1, 1) := by decide +kernel
theorem dX2_blowers_84 : decode cX2_blowers 84 = .ok (.isub, 1) := by decide +kernel
theorem dX2_blowers_85 : decode cX2_blowers 85 = .ok (.istore 7, 2) := by decide +kernel
theorem dX2_blowers_87 : decode cX2_blowers 87 = .ok (.iconst 0, 1) := by decide +kernel
theorem dX2_blowers_88 : decode cX2_blowers 88 = .ok (.istore 8, 2) := by decide +kernel
theorem dX2_blowers_90 : decode cX2_blowers 90 = .ok (.iload 8, 2) := by decide +kernel
theorem dX2_blowers_92 : decode cX2_blowers 92 = .ok (.iconst 1, 1) := by decide +kernel
theorem dX2_blowers_93 : decode cX2_blowers 93 = .ok (.iload 4, 2) := by decide +kernel
theorem dX2_blowers_95 : decode cX2_blowers 95 = .ok (.ishl, 1) := by decide +kernel
theorem dX2_blowers_96 : decode cX2_blowers 96 = .ok (.if_icmp .ge 43, 3) := by decide +kernel
theorem dX2_blowers_99 : decode cX2_blowers 99 = .ok (.aload_n 0, 1) := by decide +kernel
theorem dX2_blowers_100 : decode cX2_blowers 100 = .ok (.iload 8, 2) := by decide +kernel
theorem dX2_blowers_102 : decode cX2_blowers 102 = .ok (.invokevirtual 165, 3) := by decide +kernel
theorem dX2_blowers_105 : decode cX2_blowers 105 = .ok (.iload_n 2, 1) := by decide +kernel
theorem dX2_blowers_106 : decode cX2_blowers 106 = .ok (.if_icmp .ne 27, 3) := by decide +kernel
theorem dX2_blowers_109 : decode cX2_blowers 109 = .ok (.iload 5, 2) := by decide +kernel
theorem dX2_blowers_111 : decode cX2_blowers 111 = .ok (.ifCond .ne 8, 3) := by decide +kernel
theorem dX2_blowers_114 : decode cX2_blowers 114 = .ok (.iload 8, 2) := by decide +kernel
theorem dX2_blowers_116 : decode cX2_blowers 116 = .ok (.goto 5, 3) := by decide +kernel
theorem dX2_blowers_119 : decode cX2_blowers 119 = .ok (.iload 6, 2) := by decide +kernel
theorem dX2_blowers_121 : decode cX2_blowers 121 = .ok (.istore 6, 2) := by decide +kernel
theorem dX2_blowers_123 : decode cX2_blowers 123 = .ok (.iload 7, 2) := by decide +kernel
theorem dX2_blowers_125 : decode cX2_blowers 125 = .ok (.iload 8, 2) := by decide +kernel
theorem dX2_blowers_127 : decode cX2_blowers 127 = .ok (.iand, 1) := by decide +kernel
theorem dX2_blowers_128 : decode cX2_blowers 128 = .ok (.istore 7, 2) := by decide +kernel
theorem dX2_blowers_130 : decode cX2_blowers 130 = .ok (.iinc 5 1, 3) := by decide +kernel
theorem dX2_blowers_133 : decode cX2_blowers 133 = .ok (.iinc 8 1, 3) := by decide +kernel
theorem dX2_blowers_136 : decode cX2_blowers 136 = .ok (.goto (-46), 3) := by decide +kernel
theorem dX2_blowers_139 : decode cX2_blowers 139 = .ok (.iload_n 3, 1) := by decide +kernel
theorem dX2_blowers_140 : decode cX2_blowers 140 = .ok (.iconst 2, 1) := by decide +kernel
theorem dX2_blowers_141 : decode cX2_blowers 141 = .ok (.if_icmp .ne 15, 3) := by decide +kernel
theorem dX2_blowers_144 : decode cX2_blowers 144 = .ok (.iload 5, 2) := by decide +kernel
theorem dX2_blowers_146 : decode cX2_blowers 146 = .ok (.ifCond .ne 7, 3) := by decide +kernel
theorem dX2_blowers_149 : decode cX2_blowers 149 = .ok (.iconst 0, 1) := by decide +kernel
theorem dX2_blowers_150 : decode cX2_blowers 150 = .ok (.goto 5, 3) := by decide +kernel
theorem dX2_blowers_153 : decode cX2_blowers 153 = .ok (.iload 7, 2) := by decide +kernel
theorem dX2_blowers_155 : decode cX2_blowers 155 = .ok (.ireturn, 1) := by decide +kernel
theorem dX2_blowers_156 : decode cX2_blowers 156 = .ok (.iload_n 3, 1) := by decide +kernel
theorem dX2_blowers_157 : decode cX2_blowers 157 = .ok (.ifCond .ne 8, 3) := by decide +kernel
theorem dX2_blowers_160 : decode cX2_blowers 160 = .ok (.iload 5, 2) := by decide +kernel
theorem dX2_blowers_162 : decode cX2_blowers 162 = .ok (.goto 5, 3) := by decide +kernel
theorem dX2_blowers_165 : decode cX2_blowers 165 = .ok (.iload 6, 2) := by decide +kernel
theorem dX2_blowers_167 : decode cX2_blowers 167 = .ok (.ireturn, 1) := by decide +kernel
theorem dX2_sharesOf_0 : decode cX2_sharesOf 0 = .ok (.iconst 0, 1) := by decide +kernel
theorem dX2_sharesOf_1 : decode cX2_sharesOf 1 = .ok (.istore_n 2, 1) := by decide +kernel
theorem dX2_sharesOf_2 : decode cX2_sharesOf 2 = .ok (.iconst 0, 1) := by decide +kernel
theorem dX2_sharesOf_3 : decode cX2_sharesOf 3 = .ok (.istore_n 3, 1) := by decide +kernel
theorem dX2_sharesOf_4 : decode cX2_sharesOf 4 = .ok (.iload_n 3, 1) := by decide +kernel
theorem dX2_sharesOf_5 : decode cX2_sharesOf 5 = .ok (.bipush 6, 2) := by decide +kernel
theorem dX2_sharesOf_7 : decode cX2_sharesOf 7 = .ok (.if_icmp .ge 26, 3) := by decide +kernel
theorem dX2_sharesOf_10 : decode cX2_sharesOf 10 = .ok (.iload_n 1, 1) := by decide +kernel
theorem dX2_sharesOf_11 : decode cX2_sharesOf 11 = .ok (.iload_n 3, 1) := by decide +kernel
theorem dX2_sharesOf_12 : decode cX2_sharesOf 12 = .ok (.ishr, 1) := by decide +kernel
theorem dX2_sharesOf_13 : decode cX2_sharesOf 13 = .ok (.iconst 1, 1) := by decide +kernel
theorem dX2_sharesOf_14 : decode cX2_sharesOf 14 = .ok (.iand, 1) := by decide +kernel
theorem dX2_sharesOf_15 : decode cX2_sharesOf 15 = .ok (.ifCond .eq 12, 3) := by decide +kernel
theorem dX2_sharesOf_18 : decode cX2_sharesOf 18 = .ok (.iload_n 2, 1) := by decide +kernel
theorem dX2_sharesOf_19 : decode cX2_sharesOf 19 = .ok (.aload_n 0, 1) := by decide +kernel
theorem dX2_sharesOf_20 : decode cX2_sharesOf 20 = .ok (.getfield 46, 3) := by decide +kernel
theorem dX2_sharesOf_23 : decode cX2_sharesOf 23 = .ok (.iload_n 3, 1) := by decide +kernel
theorem dX2_sharesOf_24 : decode cX2_sharesOf 24 = .ok (.iaload, 1) := by decide +kernel
theorem dX2_sharesOf_25 : decode cX2_sharesOf 25 = .ok (.iadd, 1) := by decide +kernel
theorem dX2_sharesOf_26 : decode cX2_sharesOf 26 = .ok (.istore_n 2, 1) := by decide +kernel
theorem dX2_sharesOf_27 : decode cX2_sharesOf 27 = .ok (.iinc 3 1, 3) := by decide +kernel
theorem dX2_sharesOf_30 : decode cX2_sharesOf 30 = .ok (.goto (-26), 3) := by decide +kernel
theorem dX2_sharesOf_33 : decode cX2_sharesOf 33 = .ok (.iload_n 2, 1) := by decide +kernel
theorem dX2_sharesOf_34 : decode cX2_sharesOf 34 = .ok (.ireturn, 1) := by decide +kernel
theorem dX2_longestLull_0 : decode cX2_longestLull 0 = .ok (.aload_n 0, 1) := by decide +kernel
theorem dX2_longestLull_1 : decode cX2_longestLull 1 = .ok (.getfield 38, 3) := by decide +kernel
theorem dX2_longestLull_4 : decode cX2_longestLull 4 = .ok (.aload_n 0, 1) := by decide +kernel
theorem dX2_longestLull_5 : decode cX2_longestLull 5 = .ok (.getfield 12, 3) := by decide +kernel
theorem dX2_longestLull_8 : decode cX2_longestLull 8 = .ok (.getfield 92, 3) := by decide +kernel
theorem dX2_longestLull_11 : decode cX2_longestLull 11 = .ok (.invokevirtual 95, 3) := by decide +kernel
theorem dX2_longestLull_14 : decode cX2_longestLull 14 = .ok (.aload_n 0, 1) := by decide +kernel
theorem dX2_longestLull_15 : decode cX2_longestLull 15 = .ok (.invokevirtual 80, 3) := by decide +kernel
theorem dX2_longestLull_18 : decode cX2_longestLull 18 = .ok (.astore_n 3, 1) := by decide +kernel
theorem dX2_longestLull_19 : decode cX2_longestLull 19 = .ok (.iconst 0, 1) := by decide +kernel
theorem dX2_longestLull_20 : decode cX2_longestLull 20 = .ok (.istore 4, 2) := by decide +kernel
theorem dX2_longestLull_22 : decode cX2_longestLull 22 = .ok (.bipush (-2), 2) := by decide +kernel
theorem dX2_longestLull_24 : decode cX2_longestLull 24 = .ok (.istore 5, 2) := by decide +kernel
theorem dX2_longestLull_26 : decode cX2_longestLull 26 = .ok (.iconst 0, 1) := by decide +kernel
theorem dX2_longestLull_27 : decode cX2_longestLull 27 = .ok (.istore 6, 2) := by decide +kernel
theorem dX2_longestLull_29 : decode cX2_longestLull 29 = .ok (.iconst 0, 1) := by decide +kernel
theorem dX2_longestLull_30 : decode cX2_longestLull 30 = .ok (.istore 7, 2) := by decide +kernel
theorem dX2_longestLull_32 : decode cX2_longestLull 32 = .ok (.iload 7, 2) := by decide +kernel
theorem dX2_longestLull_34 : decode cX2_longestLull 34 = .ok (.iload_n 1, 1) := by decide +kernel
theorem dX2_longestLull_35 : decode cX2_longestLull 35 = .ok (.if_icmp .ge 81, 3) := by decide +kernel
theorem dX2_longestLull_38 : decode cX2_longestLull 38 = .ok (.aload_n 0, 1) := by decide +kernel
theorem dX2_longestLull_39 : decode cX2_longestLull 39 = .ok (.getfield 31, 3) := by decide +kernel
theorem dX2_longestLull_42 : decode cX2_longestLull 42 = .ok (.aload_n 0, 1) := by decide +kernel
theorem dX2_longestLull_43 : decode cX2_longestLull 43 = .ok (.getfield 12, 3) := by decide +kernel
theorem dX2_longestLull_46 : decode cX2_longestLull 46 = .ok (.getfield 84, 3) := by decide +kernel
theorem dX2_longestLull_49 : decode cX2_longestLull 49 = .ok (.aload_n 3, 1) := by decide +kernel
theorem dX2_longestLull_50 : decode cX2_longestLull 50 = .ok (.aload_n 0, 1) := by decide +kernel
theorem dX2_longestLull_51 : decode cX2_longestLull 51 = .ok (.getfield 38, 3) := by decide +kernel
theorem dX2_longestLull_54 : decode cX2_longestLull 54 = .ok (.iconst (-1), 1) := by decide +kernel
theorem dX2_longestLull_55 : decode cX2_longestLull 55 = .ok (.invokevirtual 88, 3) := by decide +kernel
theorem dX2_longestLull_58 : decode cX2_longestLull 58 = .ok (.pop, 1) := by decide +kernel
theorem dX2_longestLull_59 : decode cX2_longestLull 59 = .ok (.aload_n 0, 1) := by decide +kernel
theorem dX2_longestLull_60 : decode cX2_longestLull 60 = .ok (.getfield 38, 3) := by decide +kernel
theorem dX2_longestLull_63 : decode cX2_longestLull 63 = .ok (.invokevirtual 168, 3) := by decide +kernel
theorem dX2_longestLull_66 : decode cX2_longestLull 66 = .ok (.ifCond .ne 10, 3) := by decide +kernel
theorem dX2_longestLull_69 : decode cX2_longestLull 69 = .ok (.iload 6, 2) := by decide +kernel
theorem dX2_longestLull_71 : decode cX2_longestLull 71 = .ok (.iconst 1, 1) := by decide +kernel
theorem dX2_longestLull_72 : decode cX2_longestLull 72 = .ok (.iadd, 1) := by decide +kernel
theorem dX2_longestLull_73 : decode cX2_longestLull 73 = .ok (.goto 4, 3) := by decide +kernel
theorem dX2_longestLull_76 : decode cX2_longestLull 76 = .ok (.iconst 0, 1) := by decide +kernel
theorem dX2_longestLull_77 : decode cX2_longestLull 77 = .ok (.istore 6, 2) := by decide +kernel
theorem dX2_longestLull_79 : decode cX2_longestLull 79 = .ok (.iload 6, 2) := by decide +kernel
theorem dX2_longestLull_81 : decode cX2_longestLull 81 = .ok (.iload 4, 2) := by decide +kernel
theorem dX2_longestLull_83 : decode cX2_longestLull 83 = .ok (.if_icmp .le 27, 3) := by decide +kernel
theorem dX2_longestLull_86 : decode cX2_longestLull 86 = .ok (.iload 6, 2) := by decide +kernel
theorem dX2_longestLull_88 : decode cX2_longestLull 88 = .ok (.istore 4, 2) := by decide +kernel
theorem dX2_longestLull_90 : decode cX2_longestLull 90 = .ok (.aload_n 0, 1) := by decide +kernel
theorem dX2_longestLull_91 : decode cX2_longestLull 91 = .ok (.getfield 12, 3) := by decide +kernel
theorem dX2_longestLull_94 : decode cX2_longestLull 94 = .ok (.getfield 92, 3) := by decide +kernel
theorem dX2_longestLull_97 : decode cX2_longestLull 97 = .ok (.getfield 121, 3) := by decide +kernel
theorem dX2_longestLull_100 : decode cX2_longestLull 100 = .ok (.iload 7, 2) := by decide +kernel
theorem dX2_longestLull_102 : decode cX2_longestLull 102 = .ok (.iadd, 1) := by decide +kernel
theorem dX2_longestLull_103 : decode cX2_longestLull 103 = .ok (.iconst 1, 1) := by decide +kernel
theorem dX2_longestLull_104 : decode cX2_longestLull 104 = .ok (.iadd, 1) := by decide +kernel
theorem dX2_longestLull_105 : decode cX2_longestLull 105 = .ok (.iload 6, 2) := by decide +kernel
theorem dX2_longestLull_107 : decode cX2_longestLull 107 = .ok (.isub, 1) := by decide +kernel
theorem dX2_longestLull_108 : decode cX2_longestLull 108 = .ok (.istore 5, 2) := by decide +kernel
theorem dX2_longestLull_110 : decode cX2_longestLull 110 = .ok (.iinc 7 1, 3) := by decide +kernel
theorem dX2_longestLull_113 : decode cX2_longestLull 113 = .ok (.goto (-81), 3) := by decide +kernel
theorem dX2_longestLull_116 : decode cX2_longestLull 116 = .ok (.iload_n 2, 1) := by decide +kernel
theorem dX2_longestLull_117 : decode cX2_longestLull 117 = .ok (.ifCond .ne 8, 3) := by decide +kernel
theorem dX2_longestLull_120 : decode cX2_longestLull 120 = .ok (.iload 4, 2) := by decide +kernel
theorem dX2_longestLull_122 : decode cX2_longestLull 122 = .ok (.goto 5, 3) := by decide +kernel
theorem dX2_longestLull_125 : decode cX2_longestLull 125 = .ok (.iload 5, 2) := by decide +kernel
theorem dX2_longestLull_127 : decode cX2_longestLull 127 = .ok (.ireturn, 1) := by decide +kernel
theorem dX2_windiest_0 : decode cX2_windiest 0 = .ok (.aload_n 0, 1) := by decide +kernel
theorem dX2_windiest_1 : decode cX2_windiest 1 = .ok (.getfield 38, 3) := by decide +kernel
theorem dX2_windiest_4 : decode cX2_windiest 4 = .ok (.aload_n 0, 1) := by decide +kernel
theorem dX2_windiest_5 : decode cX2_windiest 5 = .ok (.getfield 12, 3) := by decide +kernel
theorem dX2_windiest_8 : decode cX2_windiest 8 = .ok (.getfield 92, 3) := by decide +kernel
theorem dX2_windiest_11 : decode cX2_windiest 11 = .ok (.invokevirtual 95, 3) := by decide +kernel
theorem dX2_windiest_14 : decode cX2_windiest 14 = .ok (.aload_n 0, 1) := by decide +kernel
theorem dX2_windiest_15 : decode cX2_windiest 15 = .ok (.invokevirtual 80, 3) := by decide +kernel
theorem dX2_windiest_18 : decode cX2_windiest 18 = .ok (.astore_n 3, 1) := by decide +kernel
theorem dX2_windiest_19 : decode cX2_windiest 19 = .ok (.iconst (-1), 1) := by decide +kernel
theorem dX2_windiest_20 : decode cX2_windiest 20 = .ok (.istore 4, 2) := by decide +kernel
theorem dX2_windiest_22 : decode cX2_windiest 22 = .ok (.aload_n 0, 1) := by decide +kernel
theorem dX2_windiest_23 : decode cX2_windiest 23 = .ok (.getfield 12, 3) := by decide +kernel
theorem dX2_windiest_26 : decode cX2_windiest 26 = .ok (.getfield 92, 3) := by decide +kernel
theorem dX2_windiest_29 : decode cX2_windiest 29 = .ok (.getfield 121, 3) := by decide +kernel
theorem dX2_windiest_32 : decode cX2_windiest 32 = .ok (.istore 5, 2) := by decide +kernel
theorem dX2_windiest_34 : decode cX2_windiest 34 = .ok (.iconst 0, 1) := by decide +kernel
theorem dX2_windiest_35 : decode cX2_windiest 35 = .ok (.istore 6, 2) := by decide +kernel
theorem dX2_windiest_37 : decode cX2_windiest 37 = .ok (.iload 6, 2) := by decide +kernel
theorem dX2_windiest_39 : decode cX2_windiest 39 = .ok (.iload_n 1, 1) := by decide +kernel
theorem dX2_windiest_40 : decode cX2_windiest 40 = .ok (.if_icmp .ge 65, 3) := by decide +kernel
theorem dX2_windiest_43 : decode cX2_windiest 43 = .ok (.aload_n 0, 1) := by decide +kernel
theorem dX2_windiest_44 : decode cX2_windiest 44 = .ok (.getfield 31, 3) := by decide +kernel
theorem dX2_windiest_47 : decode cX2_windiest 47 = .ok (.aload_n 0, 1) := by decide +kernel
theorem dX2_windiest_48 : decode cX2_windiest 48 = .ok (.getfield 12, 3) := by decide +kernel
theorem dX2_windiest_51 : decode cX2_windiest 51 = .ok (.getfield 84, 3) := by decide +kernel
theorem dX2_windiest_54 : decode cX2_windiest 54 = .ok (.aload_n 3, 1) := by decide +kernel
theorem dX2_windiest_55 : decode cX2_windiest 55 = .ok (.aload_n 0, 1) := by decide +kernel
theorem dX2_windiest_56 : decode cX2_windiest 56 = .ok (.getfield 38, 3) := by decide +kernel
theorem dX2_windiest_59 : decode cX2_windiest 59 = .ok (.iconst (-1), 1) := by decide +kernel
theorem dX2_windiest_60 : decode cX2_windiest 60 = .ok (.invokevirtual 88, 3) := by decide +kernel
theorem dX2_windiest_63 : decode cX2_windiest 63 = .ok (.pop, 1) := by decide +kernel
theorem dX2_windiest_64 : decode cX2_windiest 64 = .ok (.aload_n 0, 1) := by decide +kernel
theorem dX2_windiest_65 : decode cX2_windiest 65 = .ok (.getfield 38, 3) := by decide +kernel
theorem dX2_windiest_68 : decode cX2_windiest 68 = .ok (.invokevirtual 168, 3) := by decide +kernel
theorem dX2_windiest_71 : decode cX2_windiest 71 = .ok (.istore 7, 2) := by decide +kernel
theorem dX2_windiest_73 : decode cX2_windiest 73 = .ok (.iload 7, 2) := by decide +kernel
theorem dX2_windiest_75 : decode cX2_windiest 75 = .ok (.iload 4, 2) := by decide +kernel
theorem dX2_windiest_77 : decode cX2_windiest 77 = .ok (.if_icmp .le 22, 3) := by decide +kernel
theorem dX2_windiest_80 : decode cX2_windiest 80 = .ok (.iload 7, 2) := by decide +kernel
theorem dX2_windiest_82 : decode cX2_windiest 82 = .ok (.istore 4, 2) := by decide +kernel
theorem dX2_windiest_84 : decode cX2_windiest 84 = .ok (.aload_n 0, 1) := by decide +kernel
theorem dX2_windiest_85 : decode cX2_windiest 85 = .ok (.getfield 12, 3) := by decide +kernel
theorem dX2_windiest_88 : decode cX2_windiest 88 = .ok (.getfield 92, 3) := by decide +kernel
theorem dX2_windiest_91 : decode cX2_windiest 91 = .ok (.getfield 121, 3) := by decide +kernel
theorem dX2_windiest_94 : decode cX2_windiest 94 = .ok (.iload 6, 2) := by decide +kernel
theorem dX2_windiest_96 : decode cX2_windiest 96 = .ok (.iadd, 1) := by decide +kernel
theorem dX2_windiest_97 : decode cX2_windiest 97 = .ok (.istore 5, 2) := by decide +kernel
theorem dX2_windiest_99 : decode cX2_windiest 99 = .ok (.iinc 6 1, 3) := by decide +kernel
theorem dX2_windiest_102 : decode cX2_windiest 102 = .ok (.goto (-65), 3) := by decide +kernel
theorem dX2_windiest_105 : decode cX2_windiest 105 = .ok (.iload_n 2, 1) := by decide +kernel
theorem dX2_windiest_106 : decode cX2_windiest 106 = .ok (.ifCond .ne 8, 3) := by decide +kernel
theorem dX2_windiest_109 : decode cX2_windiest 109 = .ok (.iload 5, 2) := by decide +kernel
theorem dX2_windiest_111 : decode cX2_windiest 111 = .ok (.goto 5, 3) := by decide +kernel
theorem dX2_windiest_114 : decode cX2_windiest 114 = .ok (.iload 4, 2) := by decide +kernel
theorem dX2_windiest_116 : decode cX2_windiest 116 = .ok (.ireturn, 1) := by decide +kernel
theorem dX2_restsOf_0 : decode cX2_restsOf 0 = .ok (.iconst 0, 1) := by decide +kernel
theorem dX2_restsOf_1 : decode cX2_restsOf 1 = .ok (.istore 5, 2) := by decide +kernel
theorem dX2_restsOf_3 : decode cX2_restsOf 3 = .ok (.iload 5, 2) := by decide +kernel
theorem dX2_restsOf_5 : decode cX2_restsOf 5 = .ok (.bipush 16, 2) := by decide +kernel
theorem dX2_restsOf_7 : decode cX2_restsOf 7 = .ok (.if_icmp .ge 18, 3) := by decide +kernel
theorem dX2_restsOf_10 : decode cX2_restsOf 10 = .ok (.aload_n 0, 1) := by decide +kernel
theorem dX2_restsOf_11 : decode cX2_restsOf 11 = .ok (.iload_n 1, 1) := by decide +kernel
theorem dX2_restsOf_12 : decode cX2_restsOf 12 = .ok (.iload_n 2, 1) := by decide +kernel
theorem dX2_restsOf_13 : decode cX2_restsOf 13 = .ok (.iload 5, 2) := by decide +kernel
theorem dX2_restsOf_15 : decode cX2_restsOf 15 = .ok (.iload_n 3, 1) := by decide +kernel
theorem dX2_restsOf_16 : decode cX2_restsOf 16 = .ok (.invokevirtual 171, 3) := by decide +kernel
theorem dX2_restsOf_19 : decode cX2_restsOf 19 = .ok (.iinc 5 1, 3) := by decide +kernel
theorem dX2_restsOf_22 : decode cX2_restsOf 22 = .ok (.goto (-19), 3) := by decide +kernel
theorem dX2_restsOf_25 : decode cX2_restsOf 25 = .ok (.iconst 0, 1) := by decide +kernel
theorem dX2_restsOf_26 : decode cX2_restsOf 26 = .ok (.istore 5, 2) := by decide +kernel
theorem dX2_restsOf_28 : decode cX2_restsOf 28 = .ok (.iconst (-1), 1) := by decide +kernel
theorem dX2_restsOf_29 : decode cX2_restsOf 29 = .ok (.istore 6, 2) := by decide +kernel
theorem dX2_restsOf_31 : decode cX2_restsOf 31 = .ok (.iconst 0, 1) := by decide +kernel
theorem dX2_restsOf_32 : decode cX2_restsOf 32 = .ok (.istore 7, 2) := by decide +kernel
theorem dX2_restsOf_34 : decode cX2_restsOf 34 = .ok (.iload 7, 2) := by decide +kernel
theorem dX2_restsOf_36 : decode cX2_restsOf 36 = .ok (.bipush 16, 2) := by decide +kernel
theorem dX2_restsOf_38 : decode cX2_restsOf 38 = .ok (.if_icmp .ge 35, 3) := by decide +kernel
theorem dX2_restsOf_41 : decode cX2_restsOf 41 = .ok (.aload_n 0, 1) := by decide +kernel
theorem dX2_restsOf_42 : decode cX2_restsOf 42 = .ok (.iload 7, 2) := by decide +kernel
theorem dX2_restsOf_44 : decode cX2_restsOf 44 = .ok (.invokevirtual 175, 3) := by decide +kernel
theorem dX2_restsOf_47 : decode cX2_restsOf 47 = .ok (.ifCond .eq 20, 3) := by decide +kernel
theorem dX2_restsOf_50 : decode cX2_restsOf 50 = .ok (.iload 5, 2) := by decide +kernel
theorem dX2_restsOf_52 : decode cX2_restsOf 52 = .ok (.ifCond .ne 8, 3) := by decide +kernel
theorem dX2_restsOf_55 : decode cX2_restsOf 55 = .ok (.iload 7, 2) := by decide +kernel
theorem dX2_restsOf_57 : decode cX2_restsOf 57 = .ok (.goto 5, 3) := by decide +kernel
theorem dX2_restsOf_60 : decode cX2_restsOf 60 = .ok (.iload 6, 2) := by decide +kernel
theorem dX2_restsOf_62 : decode cX2_restsOf 62 = .ok (.istore 6, 2) := by decide +kernel
theorem dX2_restsOf_64 : decode cX2_restsOf 64 = .ok (.iinc 5 1, 3) := by decide +kernel
theorem dX2_restsOf_67 : decode cX2_restsOf 67 = .ok (.iinc 7 1, 3) := by decide +kernel
theorem dX2_restsOf_70 : decode cX2_restsOf 70 = .ok (.goto (-36), 3) := by decide +kernel
theorem dX2_restsOf_73 : decode cX2_restsOf 73 = .ok (.iload 4, 2) := by decide +kernel
theorem dX2_restsOf_75 : decode cX2_restsOf 75 = .ok (.ifCond .ne 6, 3) := by decide +kernel
theorem dX2_restsOf_78 : decode cX2_restsOf 78 = .ok (.iload 5, 2) := by decide +kernel
theorem dX2_restsOf_80 : decode cX2_restsOf 80 = .ok (.ireturn, 1) := by decide +kernel
theorem dX2_restsOf_81 : decode cX2_restsOf 81 = .ok (.iload 5, 2) := by decide +kernel
theorem dX2_restsOf_83 : decode cX2_restsOf 83 = .ok (.ifCond .ne 6, 3) := by decide +kernel
theorem dX2_restsOf_86 : decode cX2_restsOf 86 = .ok (.bipush (-2), 2) := by decide +kernel
theorem dX2_restsOf_88 : decode cX2_restsOf 88 = .ok (.ireturn, 1) := by decide +kernel
theorem dX2_restsOf_89 : decode cX2_restsOf 89 = .ok (.iload 4, 2) := by decide +kernel
theorem dX2_restsOf_91 : decode cX2_restsOf 91 = .ok (.iconst 1, 1) := by decide +kernel
theorem dX2_restsOf_92 : decode cX2_restsOf 92 = .ok (.if_icmp .ne 10, 3) := by decide +kernel
theorem dX2_restsOf_95 : decode cX2_restsOf 95 = .ok (.iload 6, 2) := by decide +kernel
theorem dX2_restsOf_97 : decode cX2_restsOf 97 = .ok (.iconst 4, 1) := by decide +kernel
theorem dX2_restsOf_98 : decode cX2_restsOf 98 = .ok (.idiv, 1) := by decide +kernel
theorem dX2_restsOf_99 : decode cX2_restsOf 99 = .ok (.goto 7, 3) := by decide +kernel
theorem dX2_restsOf_102 : decode cX2_restsOf 102 = .ok (.iload 6, 2) := by decide +kernel
theorem dX2_restsOf_104 : decode cX2_restsOf 104 = .ok (.iconst 4, 1) := by decide +kernel
theorem dX2_restsOf_105 : decode cX2_restsOf 105 = .ok (.irem, 1) := by decide +kernel
theorem dX2_restsOf_106 : decode cX2_restsOf 106 = .ok (.ireturn, 1) := by decide +kernel
theorem dX2_playTwo_0 : decode cX2_playTwo 0 = .ok (.aload_n 0, 1) := by decide +kernel
theorem dX2_playTwo_1 : decode cX2_playTwo 1 = .ok (.getfield 38, 3) := by decide +kernel
theorem dX2_playTwo_4 : decode cX2_playTwo 4 = .ok (.aload_n 0, 1) := by decide +kernel
theorem dX2_playTwo_5 : decode cX2_playTwo 5 = .ok (.getfield 12, 3) := by decide +kernel
theorem dX2_playTwo_8 : decode cX2_playTwo 8 = .ok (.getfield 92, 3) := by decide +kernel
theorem dX2_playTwo_11 : decode cX2_playTwo 11 = .ok (.invokevirtual 95, 3) := by decide +kernel
theorem dX2_playTwo_14 : decode cX2_playTwo 14 = .ok (.aload_n 0, 1) := by decide +kernel
theorem dX2_playTwo_15 : decode cX2_playTwo 15 = .ok (.getfield 38, 3) := by decide +kernel
theorem dX2_playTwo_18 : decode cX2_playTwo 18 = .ok (.getfield 146, 3) := by decide +kernel
theorem dX2_playTwo_21 : decode cX2_playTwo 21 = .ok (.iload_n 1, 1) := by decide +kernel
theorem dX2_playTwo_22 : decode cX2_playTwo 22 = .ok (.iload_n 3, 1) := by decide +kernel
theorem dX2_playTwo_23 : decode cX2_playTwo 23 = .ok (.iconst 4, 1) := by decide +kernel
theorem dX2_playTwo_24 : decode cX2_playTwo 24 = .ok (.idiv, 1) := by decide +kernel
theorem dX2_playTwo_25 : decode cX2_playTwo 25 = .ok (.iastore, 1) := by decide +kernel
theorem dX2_playTwo_26 : decode cX2_playTwo 26 = .ok (.aload_n 0, 1) := by decide +kernel
theorem dX2_playTwo_27 : decode cX2_playTwo 27 = .ok (.getfield 38, 3) := by decide +kernel
theorem dX2_playTwo_30 : decode cX2_playTwo 30 = .ok (.getfield 146, 3) := by decide +kernel
theorem dX2_playTwo_33 : decode cX2_playTwo 33 = .ok (.iload_n 2, 1) := by decide +kernel
theorem dX2_playTwo_34 : decode cX2_playTwo 34 = .ok (.iload_n 3, 1) := by decide +kernel
theorem dX2_playTwo_35 : decode cX2_playTwo 35 = .ok (.iconst 4, 1) := by decide +kernel
theorem dX2_playTwo_36 : decode cX2_playTwo 36 = .ok (.irem, 1) := by decide +kernel
theorem dX2_playTwo_37 : decode cX2_playTwo 37 = .ok (.iastore, 1) := by decide +kernel
theorem dX2_playTwo_38 : decode cX2_playTwo 38 = .ok (.aload_n 0, 1) := by decide +kernel
theorem dX2_playTwo_39 : decode cX2_playTwo 39 = .ok (.invokevirtual 80, 3) := by decide +kernel
theorem dX2_playTwo_42 : decode cX2_playTwo 42 = .ok (.astore 5, 2) := by decide +kernel
theorem dX2_playTwo_44 : decode cX2_playTwo 44 = .ok (.iconst 0, 1) := by decide +kernel
theorem dX2_playTwo_45 : decode cX2_playTwo 45 = .ok (.istore 6, 2) := by decide +kernel
theorem dX2_playTwo_47 : decode cX2_playTwo 47 = .ok (.iload 6, 2) := by decide +kernel
theorem dX2_playTwo_49 : decode cX2_playTwo 49 = .ok (.iload 4, 2) := by decide +kernel
theorem dX2_playTwo_51 : decode cX2_playTwo 51 = .ok (.if_icmp .ge 31, 3) := by decide +kernel
theorem dX2_playTwo_54 : decode cX2_playTwo 54 = .ok (.aload_n 0, 1) := by decide +kernel
theorem dX2_playTwo_55 : decode cX2_playTwo 55 = .ok (.getfield 31, 3) := by decide +kernel
theorem dX2_playTwo_58 : decode cX2_playTwo 58 = .ok (.aload_n 0, 1) := by decide +kernel
theorem dX2_playTwo_59 : decode cX2_playTwo 59 = .ok (.getfield 12, 3) := by decide +kernel
theorem dX2_playTwo_62 : decode cX2_playTwo 62 = .ok (.getfield 84, 3) := by decide +kernel
theorem dX2_playTwo_65 : decode cX2_playTwo 65 = .ok (.aload 5, 2) := by decide +kernel
theorem dX2_playTwo_67 : decode cX2_playTwo 67 = .ok (.aload_n 0, 1) := by decide +kernel
theorem dX2_playTwo_68 : decode cX2_playTwo 68 = .ok (.getfield 38, 3) := by decide +kernel
theorem dX2_playTwo_71 : decode cX2_playTwo 71 = .ok (.iconst (-1), 1) := by decide +kernel
theorem dX2_playTwo_72 : decode cX2_playTwo 72 = .ok (.invokevirtual 88, 3) := by decide +kernel
theorem dX2_playTwo_75 : decode cX2_playTwo 75 = .ok (.pop, 1) := by decide +kernel
theorem dX2_playTwo_76 : decode cX2_playTwo 76 = .ok (.iinc 6 1, 3) := by decide +kernel
theorem dX2_playTwo_79 : decode cX2_playTwo 79 = .ok (.goto (-32), 3) := by decide +kernel
theorem dX2_playTwo_82 : decode cX2_playTwo 82 = .ok (.aload_n 0, 1) := by decide +kernel
theorem dX2_playTwo_83 : decode cX2_playTwo 83 = .ok (.getfield 49, 3) := by decide +kernel
theorem dX2_playTwo_86 : decode cX2_playTwo 86 = .ok (.iload_n 3, 1) := by decide +kernel
theorem dX2_playTwo_87 : decode cX2_playTwo 87 = .ok (.aload_n 0, 1) := by decide +kernel
theorem dX2_playTwo_88 : decode cX2_playTwo 88 = .ok (.getfield 38, 3) := by decide +kernel
theorem dX2_playTwo_91 : decode cX2_playTwo 91 = .ok (.getfield 179, 3) := by decide +kernel
theorem dX2_playTwo_94 : decode cX2_playTwo 94 = .ok (.iload_n 1, 1) := by decide +kernel
theorem dX2_playTwo_95 : decode cX2_playTwo 95 = .ok (.iaload, 1) := by decide +kernel
theorem dX2_playTwo_96 : decode cX2_playTwo 96 = .ok (.aload_n 0, 1) := by decide +kernel
theorem dX2_playTwo_97 : decode cX2_playTwo 97 = .ok (.getfield 12, 3) := by decide +kernel
theorem dX2_playTwo_100 : decode cX2_playTwo 100 = .ok (.getfield 92, 3) := by decide +kernel
theorem dX2_playTwo_103 : decode cX2_playTwo 103 = .ok (.getfield 179, 3) := by decide +kernel
theorem dX2_playTwo_106 : decode cX2_playTwo 106 = .ok (.iload_n 1, 1) := by decide +kernel
theorem dX2_playTwo_107 : decode cX2_playTwo 107 = .ok (.iaload, 1) := by decide +kernel
theorem dX2_playTwo_108 : decode cX2_playTwo 108 = .ok (.isub, 1) := by decide +kernel
theorem dX2_playTwo_109 : decode cX2_playTwo 109 = .ok (.iastore, 1) := by decide +kernel
theorem dX2_playTwo_110 : decode cX2_playTwo 110 = .ok (.aload_n 0, 1) := by decide +kernel
theorem dX2_playTwo_111 : decode cX2_playTwo 111 = .ok (.getfield 52, 3) := by decide +kernel
theorem dX2_playTwo_114 : decode cX2_playTwo 114 = .ok (.iload_n 3, 1) := by decide +kernel
theorem dX2_playTwo_115 : decode cX2_playTwo 115 = .ok (.aload_n 0, 1) := by decide +kernel
theorem dX2_playTwo_116 : decode cX2_playTwo 116 = .ok (.getfield 38, 3) := by decide +kernel
theorem dX2_playTwo_119 : decode cX2_playTwo 119 = .ok (.getfield 179, 3) := by decide +kernel
theorem dX2_playTwo_122 : decode cX2_playTwo 122 = .ok (.iload_n 2, 1) := by decide +kernel
theorem dX2_playTwo_123 : decode cX2_playTwo 123 = .ok (.iaload, 1) := by decide +kernel
theorem dX2_playTwo_124 : decode cX2_playTwo 124 = .ok (.aload_n 0, 1) := by decide +kernel
theorem dX2_playTwo_125 : decode cX2_playTwo 125 = .ok (.getfield 12, 3) := by decide +kernel
theorem dX2_playTwo_128 : decode cX2_playTwo 128 = .ok (.getfield 92, 3) := by decide +kernel
theorem dX2_playTwo_131 : decode cX2_playTwo 131 = .ok (.getfield 179, 3) := by decide +kernel
theorem dX2_playTwo_134 : decode cX2_playTwo 134 = .ok (.iload_n 2, 1) := by decide +kernel
theorem dX2_playTwo_135 : decode cX2_playTwo 135 = .ok (.iaload, 1) := by decide +kernel
theorem dX2_playTwo_136 : decode cX2_playTwo 136 = .ok (.isub, 1) := by decide +kernel
theorem dX2_playTwo_137 : decode cX2_playTwo 137 = .ok (.iastore, 1) := by decide +kernel
theorem dX2_playTwo_138 : decode cX2_playTwo 138 = .ok (.return_, 1) := by decide +kernel
theorem dX2_isRest_0 : decode cX2_isRest 0 = .ok (.iconst 0, 1) := by decide +kernel
theorem dX2_isRest_1 : decode cX2_isRest 1 = .ok (.istore_n 2, 1) := by decide +kernel
theorem dX2_isRest_2 : decode cX2_isRest 2 = .ok (.iload_n 2, 1) := by decide +kernel
theorem dX2_isRest_3 : decode cX2_isRest 3 = .ok (.iconst 4, 1) := by decide +kernel
theorem dX2_isRest_4 : decode cX2_isRest 4 = .ok (.if_icmp .ge 55, 3) := by decide +kernel
theorem dX2_isRest_7 : decode cX2_isRest 7 = .ok (.aload_n 0, 1) := by decide +kernel
theorem dX2_isRest_8 : decode cX2_isRest 8 = .ok (.getfield 49, 3) := by decide +kernel
theorem dX2_isRest_11 : decode cX2_isRest 11 = .ok (.iload_n 2, 1) := by decide +kernel
theorem dX2_isRest_12 : decode cX2_isRest 12 = .ok (.iconst 4, 1) := by decide +kernel
theorem dX2_isRest_13 : decode cX2_isRest 13 = .ok (.imul, 1) := by decide +kernel
theorem dX2_isRest_14 : decode cX2_isRest 14 = .ok (.iload_n 1, 1) := by decide +kernel
theorem dX2_isRest_15 : decode cX2_isRest 15 = .ok (.iconst 4, 1) := by decide +kernel
theorem dX2_isRest_16 : decode cX2_isRest 16 = .ok (.irem, 1) := by decide +kernel
theorem dX2_isRest_17 : decode cX2_isRest 17 = .ok (.iadd, 1) := by decide +kernel
theorem dX2_isRest_18 : decode cX2_isRest 18 = .ok (.iaload, 1) := by decide +kernel
theorem dX2_isRest_19 : decode cX2_isRest 19 = .ok (.aload_n 0, 1) := by decide +kernel
theorem dX2_isRest_20 : decode cX2_isRest 20 = .ok (.getfield 49, 3) := by decide +kernel
theorem dX2_isRest_23 : decode cX2_isRest 23 = .ok (.iload_n 1, 1) := by decide +kernel
theorem dX2_isRest_24 : decode cX2_isRest 24 = .ok (.iaload, 1) := by decide +kernel
theorem dX2_isRest_25 : decode cX2_isRest 25 = .ok (.if_icmp .le 5, 3) := by decide +kernel
theorem dX2_isRest_28 : decode cX2_isRest 28 = .ok (.iconst 0, 1) := by decide +kernel
theorem dX2_isRest_29 : decode cX2_isRest 29 = .ok (.ireturn, 1) := by decide +kernel
theorem dX2_isRest_30 : decode cX2_isRest 30 = .ok (.aload_n 0, 1) := by decide +kernel
theorem dX2_isRest_31 : decode cX2_isRest 31 = .ok (.getfield 52, 3) := by decide +kernel
theorem dX2_isRest_34 : decode cX2_isRest 34 = .ok (.iload_n 1, 1) := by decide +kernel
theorem dX2_isRest_35 : decode cX2_isRest 35 = .ok (.iconst 4, 1) := by decide +kernel
theorem dX2_isRest_36 : decode cX2_isRest 36 = .ok (.idiv, 1) := by decide +kernel
theorem dX2_isRest_37 : decode cX2_isRest 37 = .ok (.iconst 4, 1) := by decide +kernel
theorem dX2_isRest_38 : decode cX2_isRest 38 = .ok (.imul, 1) := by decide +kernel
theorem dX2_isRest_39 : decode cX2_isRest 39 = .ok (.iload_n 2, 1) := by decide +kernel
theorem dX2_isRest_40 : decode cX2_isRest 40 = .ok (.iadd, 1) := by decide +kernel
theorem dX2_isRest_41 : decode cX2_isRest 41 = .ok (.iaload, 1) := by decide +kernel
theorem dX2_isRest_42 : decode cX2_isRest 42 = .ok (.aload_n 0, 1) := by decide +kernel
theorem dX2_isRest_43 : decode cX2_isRest 43 = .ok (.getfield 52, 3) := by decide +kernel
theorem dX2_isRest_46 : decode cX2_isRest 46 = .ok (.iload_n 1, 1) := by decide +kernel
theorem dX2_isRest_47 : decode cX2_isRest 47 = .ok (.iaload, 1) := by decide +kernel
theorem dX2_isRest_48 : decode cX2_isRest 48 = .ok (.if_icmp .le 5, 3) := by decide +kernel
theorem dX2_isRest_51 : decode cX2_isRest 51 = .ok (.iconst 0, 1) := by decide +kernel
theorem dX2_isRest_52 : decode cX2_isRest 52 = .ok (.ireturn, 1) := by decide +kernel
theorem dX2_isRest_53 : decode cX2_isRest 53 = .ok (.iinc 2 1, 3) := by decide +kernel
theorem dX2_isRest_56 : decode cX2_isRest 56 = .ok (.goto (-54), 3) := by decide +kernel
theorem dX2_isRest_59 : decode cX2_isRest 59 = .ok (.iconst 1, 1) := by decide +kernel
theorem dX2_isRest_60 : decode cX2_isRest 60 = .ok (.ireturn, 1) := by decide +kernel
theorem dX2_fitting_0 : decode cX2_fitting 0 = .ok (.iconst 0, 1) := by decide +kernel
theorem dX2_fitting_1 : decode cX2_fitting 1 = .ok (.istore_n 1, 1) := by decide +kernel
theorem dX2_fitting_2 : decode cX2_fitting 2 = .ok (.iconst (-1), 1) := by decide +kernel
theorem dX2_fitting_3 : decode cX2_fitting 3 = .ok (.istore_n 2, 1) := by decide +kernel
theorem dX2_fitting_4 : decode cX2_fitting 4 = .ok (.iload_n 2, 1) := by decide +kernel
theorem dX2_fitting_5 : decode cX2_fitting 5 = .ok (.aload_n 0, 1) := by decide +kernel
theorem dX2_fitting_6 : decode cX2_fitting 6 = .ok (.getfield 24, 3) := by decide +kernel
theorem dX2_fitting_9 : decode cX2_fitting 9 = .ok (.if_icmp .ge 29, 3) := by decide +kernel
theorem dX2_fitting_12 : decode cX2_fitting 12 = .ok (.aload_n 0, 1) := by decide +kernel
theorem dX2_fitting_13 : decode cX2_fitting 13 = .ok (.aload_n 0, 1) := by decide +kernel
theorem dX2_fitting_14 : decode cX2_fitting 14 = .ok (.iload_n 2, 1) := by decide +kernel
theorem dX2_fitting_15 : decode cX2_fitting 15 = .ok (.invokevirtual 76, 3) := by decide +kernel
theorem dX2_fitting_18 : decode cX2_fitting 18 = .ok (.invokevirtual 182, 3) := by decide +kernel
theorem dX2_fitting_21 : decode cX2_fitting 21 = .ok (.ifCond .eq 11, 3) := by decide +kernel
theorem dX2_fitting_24 : decode cX2_fitting 24 = .ok (.iload_n 1, 1) := by decide +kernel
theorem dX2_fitting_25 : decode cX2_fitting 25 = .ok (.iconst 1, 1) := by decide +kernel
theorem dX2_fitting_26 : decode cX2_fitting 26 = .ok (.iload_n 2, 1) := by decide +kernel
theorem dX2_fitting_27 : decode cX2_fitting 27 = .ok (.iconst 1, 1) := by decide +kernel
theorem dX2_fitting_28 : decode cX2_fitting 28 = .ok (.iadd, 1) := by decide +kernel
theorem dX2_fitting_29 : decode cX2_fitting 29 = .ok (.ishl, 1) := by decide +kernel
theorem dX2_fitting_30 : decode cX2_fitting 30 = .ok (.ior, 1) := by decide +kernel
theorem dX2_fitting_31 : decode cX2_fitting 31 = .ok (.istore_n 1, 1) := by decide +kernel
theorem dX2_fitting_32 : decode cX2_fitting 32 = .ok (.iinc 2 1, 3) := by decide +kernel
theorem dX2_fitting_35 : decode cX2_fitting 35 = .ok (.goto (-31), 3) := by decide +kernel
theorem dX2_fitting_38 : decode cX2_fitting 38 = .ok (.iload_n 1, 1) := by decide +kernel
theorem dX2_fitting_39 : decode cX2_fitting 39 = .ok (.ireturn, 1) := by decide +kernel
theorem dX2_isFitting_0 : decode cX2_isFitting 0 = .ok (.aload_n 0, 1) := by decide +kernel
theorem dX2_isFitting_1 : decode cX2_isFitting 1 = .ok (.getfield 38, 3) := by decide +kernel
theorem dX2_isFitting_4 : decode cX2_isFitting 4 = .ok (.aload_n 0, 1) := by decide +kernel
theorem dX2_isFitting_5 : decode cX2_isFitting 5 = .ok (.getfield 12, 3) := by decide +kernel
theorem dX2_isFitting_8 : decode cX2_isFitting 8 = .ok (.getfield 84, 3) := by decide +kernel
theorem dX2_isFitting_11 : decode cX2_isFitting 11 = .ok (.invokevirtual 186, 3) := by decide +kernel
theorem dX2_isFitting_14 : decode cX2_isFitting 14 = .ok (.aload_n 0, 1) := by decide +kernel
theorem dX2_isFitting_15 : decode cX2_isFitting 15 = .ok (.getfield 12, 3) := by decide +kernel
theorem dX2_isFitting_18 : decode cX2_isFitting 18 = .ok (.getfield 190, 3) := by decide +kernel
theorem dX2_isFitting_21 : decode cX2_isFitting 21 = .ok (.invokevirtual 194, 3) := by decide +kernel
theorem dX2_isFitting_24 : decode cX2_isFitting 24 = .ok (.istore_n 2, 1) := by decide +kernel
theorem dX2_isFitting_25 : decode cX2_isFitting 25 = .ok (.iconst 0, 1) := by decide +kernel
theorem dX2_isFitting_26 : decode cX2_isFitting 26 = .ok (.istore_n 3, 1) := by decide +kernel
theorem dX2_isFitting_27 : decode cX2_isFitting 27 = .ok (.iload_n 3, 1) := by decide +kernel
theorem dX2_isFitting_28 : decode cX2_isFitting 28 = .ok (.iload_n 2, 1) := by decide +kernel
theorem dX2_isFitting_29 : decode cX2_isFitting 29 = .ok (.if_icmp .gt 50, 3) := by decide +kernel
theorem dX2_isFitting_32 : decode cX2_isFitting 32 = .ok (.aload_n 0, 1) := by decide +kernel
theorem dX2_isFitting_33 : decode cX2_isFitting 33 = .ok (.getfield 31, 3) := by decide +kernel
theorem dX2_isFitting_36 : decode cX2_isFitting 36 = .ok (.aload_n 0, 1) := by decide +kernel
theorem dX2_isFitting_37 : decode cX2_isFitting 37 = .ok (.getfield 12, 3) := by decide +kernel
theorem dX2_isFitting_40 : decode cX2_isFitting 40 = .ok (.getfield 84, 3) := by decide +kernel
theorem dX2_isFitting_43 : decode cX2_isFitting 43 = .ok (.aload_n 1, 1) := by decide +kernel
theorem dX2_isFitting_44 : decode cX2_isFitting 44 = .ok (.aload_n 0, 1) := by decide +kernel
theorem dX2_isFitting_45 : decode cX2_isFitting 45 = .ok (.getfield 38, 3) := by decide +kernel
theorem dX2_isFitting_48 : decode cX2_isFitting 48 = .ok (.iconst (-1), 1) := by decide +kernel
theorem dX2_isFitting_49 : decode cX2_isFitting 49 = .ok (.invokevirtual 88, 3) := by decide +kernel
theorem dX2_isFitting_52 : decode cX2_isFitting 52 = .ok (.pop, 1) := by decide +kernel
theorem dX2_isFitting_53 : decode cX2_isFitting 53 = .ok (.aload_n 0, 1) := by decide +kernel
theorem dX2_isFitting_54 : decode cX2_isFitting 54 = .ok (.getfield 12, 3) := by decide +kernel
theorem dX2_isFitting_57 : decode cX2_isFitting 57 = .ok (.getfield 190, 3) := by decide +kernel
theorem dX2_isFitting_60 : decode cX2_isFitting 60 = .ok (.iload_n 3, 1) := by decide +kernel
theorem dX2_isFitting_61 : decode cX2_isFitting 61 = .ok (.aload_n 0, 1) := by decide +kernel
theorem dX2_isFitting_62 : decode cX2_isFitting 62 = .ok (.getfield 38, 3) := by decide +kernel
theorem dX2_isFitting_65 : decode cX2_isFitting 65 = .ok (.invokevirtual 199, 3) := by decide +kernel
theorem dX2_isFitting_68 : decode cX2_isFitting 68 = .ok (.ifCond .ne 5, 3) := by decide +kernel
theorem dX2_isFitting_71 : decode cX2_isFitting 71 = .ok (.iconst 0, 1) := by decide +kernel
theorem dX2_isFitting_72 : decode cX2_isFitting 72 = .ok (.ireturn, 1) := by decide +kernel
theorem dX2_isFitting_73 : decode cX2_isFitting 73 = .ok (.iinc 3 1, 3) := by decide +kernel
theorem dX2_isFitting_76 : decode cX2_isFitting 76 = .ok (.goto (-49), 3) := by decide +kernel
theorem dX2_isFitting_79 : decode cX2_isFitting 79 = .ok (.iconst 1, 1) := by decide +kernel
theorem dX2_isFitting_80 : decode cX2_isFitting 80 = .ok (.ireturn, 1) := by decide +kernel
theorem dX2_bestLook_0 : decode cX2_bestLook 0 = .ok (.aload_n 0, 1) := by decide +kernel
theorem dX2_bestLook_1 : decode cX2_bestLook 1 = .ok (.iload_n 1, 1) := by decide +kernel
theorem dX2_bestLook_2 : decode cX2_bestLook 2 = .ok (.iload_n 2, 1) := by decide +kernel
theorem dX2_bestLook_3 : decode cX2_bestLook 3 = .ok (.invokevirtual 203, 3) := by decide +kernel
theorem dX2_bestLook_6 : decode cX2_bestLook 6 = .ok (.iconst (-1), 1) := by decide +kernel
theorem dX2_bestLook_7 : decode cX2_bestLook 7 = .ok (.istore 4, 2) := by decide +kernel
theorem dX2_bestLook_9 : decode cX2_bestLook 9 = .ok (.bipush 8, 2) := by decide +kernel
theorem dX2_bestLook_11 : decode cX2_bestLook 11 = .ok (.istore 5, 2) := by decide +kernel
theorem dX2_bestLook_13 : decode cX2_bestLook 13 = .ok (.iconst 0, 1) := by decide +kernel
theorem dX2_bestLook_14 : decode cX2_bestLook 14 = .ok (.istore 6, 2) := by decide +kernel
theorem dX2_bestLook_16 : decode cX2_bestLook 16 = .ok (.iload 6, 2) := by decide +kernel
theorem dX2_bestLook_18 : decode cX2_bestLook 18 = .ok (.aload_n 0, 1) := by decide +kernel
theorem dX2_bestLook_19 : decode cX2_bestLook 19 = .ok (.getfield 12, 3) := by decide +kernel
theorem dX2_bestLook_22 : decode cX2_bestLook 22 = .ok (.getfield 84, 3) := by decide +kernel
theorem dX2_bestLook_25 : decode cX2_bestLook 25 = .ok (.invokevirtual 131, 3) := by decide +kernel
theorem dX2_bestLook_28 : decode cX2_bestLook 28 = .ok (.if_icmp .ge 33, 3) := by decide +kernel
theorem dX2_bestLook_31 : decode cX2_bestLook 31 = .ok (.aload_n 0, 1) := by decide +kernel
theorem dX2_bestLook_32 : decode cX2_bestLook 32 = .ok (.iload_n 1, 1) := by decide +kernel
theorem dX2_bestLook_33 : decode cX2_bestLook 33 = .ok (.iload 6, 2) := by decide +kernel
theorem dX2_bestLook_35 : decode cX2_bestLook 35 = .ok (.invokevirtual 206, 3) := by decide +kernel
theorem dX2_bestLook_38 : decode cX2_bestLook 38 = .ok (.istore 7, 2) := by decide +kernel
theorem dX2_bestLook_40 : decode cX2_bestLook 40 = .ok (.iload 7, 2) := by decide +kernel
theorem dX2_bestLook_42 : decode cX2_bestLook 42 = .ok (.iload 5, 2) := by decide +kernel
theorem dX2_bestLook_44 : decode cX2_bestLook 44 = .ok (.if_icmp .ge 11, 3) := by decide +kernel
theorem dX2_bestLook_47 : decode cX2_bestLook 47 = .ok (.iload 7, 2) := by decide +kernel
theorem dX2_bestLook_49 : decode cX2_bestLook 49 = .ok (.istore 5, 2) := by decide +kernel
theorem dX2_bestLook_51 : decode cX2_bestLook 51 = .ok (.iload 6, 2) := by decide +kernel
theorem dX2_bestLook_53 : decode cX2_bestLook 53 = .ok (.istore 4, 2) := by decide +kernel
theorem dX2_bestLook_55 : decode cX2_bestLook 55 = .ok (.iinc 6 1, 3) := by decide +kernel
theorem dX2_bestLook_58 : decode cX2_bestLook 58 = .ok (.goto (-42), 3) := by decide +kernel
theorem dX2_bestLook_61 : decode cX2_bestLook 61 = .ok (.iload_n 3, 1) := by decide +kernel
theorem dX2_bestLook_62 : decode cX2_bestLook 62 = .ok (.ifCond .ne 8, 3) := by decide +kernel
theorem dX2_bestLook_65 : decode cX2_bestLook 65 = .ok (.iload 4, 2) := by decide +kernel
theorem dX2_bestLook_67 : decode cX2_bestLook 67 = .ok (.goto 5, 3) := by decide +kernel
theorem dX2_bestLook_70 : decode cX2_bestLook 70 = .ok (.iload 5, 2) := by decide +kernel
theorem dX2_bestLook_72 : decode cX2_bestLook 72 = .ok (.ireturn, 1) := by decide +kernel
theorem dX2_fillWinds_0 : decode cX2_fillWinds 0 = .ok (.iconst 0, 1) := by decide +kernel
theorem dX2_fillWinds_1 : decode cX2_fillWinds 1 = .ok (.istore_n 3, 1) := by decide +kernel
theorem dX2_fillWinds_2 : decode cX2_fillWinds 2 = .ok (.iload_n 3, 1) := by decide +kernel
theorem dX2_fillWinds_3 : decode cX2_fillWinds 3 = .ok (.bipush 6, 2) := by decide +kernel
theorem dX2_fillWinds_5 : decode cX2_fillWinds 5 = .ok (.if_icmp .gt 93, 3) := by decide +kernel
theorem dX2_fillWinds_8 : decode cX2_fillWinds 8 = .ok (.iload_n 1, 1) := by decide +kernel
theorem dX2_fillWinds_9 : decode cX2_fillWinds 9 = .ok (.iload_n 3, 1) := by decide +kernel
theorem dX2_fillWinds_10 : decode cX2_fillWinds 10 = .ok (.ishr, 1) := by decide +kernel
theorem dX2_fillWinds_11 : decode cX2_fillWinds 11 = .ok (.iconst 1, 1) := by decide +kernel
theorem dX2_fillWinds_12 : decode cX2_fillWinds 12 = .ok (.iand, 1) := by decide +kernel
theorem dX2_fillWinds_13 : decode cX2_fillWinds 13 = .ok (.ifCond .eq 79, 3) := by decide +kernel
theorem dX2_fillWinds_16 : decode cX2_fillWinds 16 = .ok (.aload_n 0, 1) := by decide +kernel
theorem dX2_fillWinds_17 : decode cX2_fillWinds 17 = .ok (.getfield 38, 3) := by decide +kernel
theorem dX2_fillWinds_20 : decode cX2_fillWinds 20 = .ok (.aload_n 0, 1) := by decide +kernel
theorem dX2_fillWinds_21 : decode cX2_fillWinds 21 = .ok (.getfield 12, 3) := by decide +kernel
theorem dX2_fillWinds_24 : decode cX2_fillWinds 24 = .ok (.getfield 84, 3) := by decide +kernel
theorem dX2_fillWinds_27 : decode cX2_fillWinds 27 = .ok (.invokevirtual 186, 3) := by decide +kernel
theorem dX2_fillWinds_30 : decode cX2_fillWinds 30 = .ok (.iconst 0, 1) := by decide +kernel
theorem dX2_fillWinds_31 : decode cX2_fillWinds 31 = .ok (.istore 4, 2) := by decide +kernel
theorem dX2_fillWinds_33 : decode cX2_fillWinds 33 = .ok (.iload 4, 2) := by decide +kernel
theorem dX2_fillWinds_35 : decode cX2_fillWinds 35 = .ok (.iload_n 2, 1) := by decide +kernel
theorem dX2_fillWinds_36 : decode cX2_fillWinds 36 = .ok (.if_icmp .gt 36, 3) := by decide +kernel
theorem dX2_fillWinds_39 : decode cX2_fillWinds 39 = .ok (.aload_n 0, 1) := by decide +kernel
theorem dX2_fillWinds_40 : decode cX2_fillWinds 40 = .ok (.getfield 31, 3) := by decide +kernel
theorem dX2_fillWinds_43 : decode cX2_fillWinds 43 = .ok (.aload_n 0, 1) := by decide +kernel
theorem dX2_fillWinds_44 : decode cX2_fillWinds 44 = .ok (.getfield 12, 3) := by decide +kernel
theorem dX2_fillWinds_47 : decode cX2_fillWinds 47 = .ok (.getfield 84, 3) := by decide +kernel
theorem dX2_fillWinds_50 : decode cX2_fillWinds 50 = .ok (.aload_n 0, 1) := by decide +kernel
theorem dX2_fillWinds_51 : decode cX2_fillWinds 51 = .ok (.iload_n 3, 1) := by decide +kernel
theorem dX2_fillWinds_52 : decode cX2_fillWinds 52 = .ok (.iconst 1, 1) := by decide +kernel
theorem dX2_fillWinds_53 : decode cX2_fillWinds 53 = .ok (.isub, 1) := by decide +kernel
theorem dX2_fillWinds_54 : decode cX2_fillWinds 54 = .ok (.invokevirtual 76, 3) := by decide +kernel
theorem dX2_fillWinds_57 : decode cX2_fillWinds 57 = .ok (.aload_n 0, 1) := by decide +kernel
theorem dX2_fillWinds_58 : decode cX2_fillWinds 58 = .ok (.getfield 38, 3) := by decide +kernel
theorem dX2_fillWinds_61 : decode cX2_fillWinds 61 = .ok (.iconst (-1), 1) := by decide +kernel
theorem dX2_fillWinds_62 : decode cX2_fillWinds 62 = .ok (.invokevirtual 88, 3) := by decide +kernel
theorem dX2_fillWinds_65 : decode cX2_fillWinds 65 = .ok (.pop, 1) := by decide +kernel
theorem dX2_fillWinds_66 : decode cX2_fillWinds 66 = .ok (.iinc 4 1, 3) := by decide +kernel
theorem dX2_fillWinds_69 : decode cX2_fillWinds 69 = .ok (.goto (-36), 3) := by decide +kernel
theorem dX2_fillWinds_72 : decode cX2_fillWinds 72 = .ok (.aload_n 0, 1) := by decide +kernel
theorem dX2_fillWinds_73 : decode cX2_fillWinds 73 = .ok (.getfield 38, 3) := by decide +kernel
theorem dX2_fillWinds_76 : decode cX2_fillWinds 76 = .ok (.getfield 210, 3) := by decide +kernel
theorem dX2_fillWinds_79 : decode cX2_fillWinds 79 = .ok (.iconst 0, 1) := by decide +kernel
theorem dX2_fillWinds_80 : decode cX2_fillWinds 80 = .ok (.aload_n 0, 1) := by decide +kernel
theorem dX2_fillWinds_81 : decode cX2_fillWinds 81 = .ok (.getfield 57, 3) := by decide +kernel
theorem dX2_fillWinds_84 : decode cX2_fillWinds 84 = .ok (.iload_n 3, 1) := by decide +kernel
theorem dX2_fillWinds_85 : decode cX2_fillWinds 85 = .ok (.aaload, 1) := by decide +kernel
theorem dX2_fillWinds_86 : decode cX2_fillWinds 86 = .ok (.iconst 0, 1) := by decide +kernel
theorem dX2_fillWinds_87 : decode cX2_fillWinds 87 = .ok (.bipush 36, 2) := by decide +kernel
theorem dX2_fillWinds_89 : decode cX2_fillWinds 89 = .ok (.invokestatic 213, 3) := by decide +kernel
theorem dX2_fillWinds_92 : decode cX2_fillWinds 92 = .ok (.iinc 3 1, 3) := by decide +kernel
theorem dX2_fillWinds_95 : decode cX2_fillWinds 95 = .ok (.goto (-93), 3) := by decide +kernel
theorem dX2_fillWinds_98 : decode cX2_fillWinds 98 = .ok (.return_, 1) := by decide +kernel
theorem dX2_mostAlike_0 : decode cX2_mostAlike 0 = .ok (.iconst 0, 1) := by decide +kernel
theorem dX2_mostAlike_1 : decode cX2_mostAlike 1 = .ok (.istore_n 3, 1) := by decide +kernel
theorem dX2_mostAlike_2 : decode cX2_mostAlike 2 = .ok (.iconst 0, 1) := by decide +kernel
theorem dX2_mostAlike_3 : decode cX2_mostAlike 3 = .ok (.istore 4, 2) := by decide +kernel
theorem dX2_mostAlike_5 : decode cX2_mostAlike 5 = .ok (.iload 4, 2) := by decide +kernel
theorem dX2_mostAlike_7 : decode cX2_mostAlike 7 = .ok (.bipush 6, 2) := by decide +kernel
theorem dX2_mostAlike_9 : decode cX2_mostAlike 9 = .ok (.if_icmp .gt 85, 3) := by decide +kernel
theorem dX2_mostAlike_12 : decode cX2_mostAlike 12 = .ok (.iconst 0, 1) := by decide +kernel
theorem dX2_mostAlike_13 : decode cX2_mostAlike 13 = .ok (.istore 5, 2) := by decide +kernel
theorem dX2_mostAlike_15 : decode cX2_mostAlike 15 = .ok (.iconst 0, 1) := by decide +kernel
theorem dX2_mostAlike_16 : decode cX2_mostAlike 16 = .ok (.istore 6, 2) := by decide +kernel
theorem dX2_mostAlike_18 : decode cX2_mostAlike 18 = .ok (.iload 6, 2) := by decide +kernel
theorem dX2_mostAlike_20 : decode cX2_mostAlike 20 = .ok (.bipush 6, 2) := by decide +kernel
theorem dX2_mostAlike_22 : decode cX2_mostAlike 22 = .ok (.if_icmp .gt 59, 3) := by decide +kernel
theorem dX2_mostAlike_25 : decode cX2_mostAlike 25 = .ok (.iload_n 1, 1) := by decide +kernel
theorem dX2_mostAlike_26 : decode cX2_mostAlike 26 = .ok (.iload 4, 2) := by decide +kernel
theorem dX2_mostAlike_28 : decode cX2_mostAlike 28 = .ok (.ishr, 1) := by decide +kernel
theorem dX2_mostAlike_29 : decode cX2_mostAlike 29 = .ok (.iload_n 1, 1) := by decide +kernel
theorem dX2_mostAlike_30 : decode cX2_mostAlike 30 = .ok (.iload 6, 2) := by decide +kernel
theorem dX2_mostAlike_32 : decode cX2_mostAlike 32 = .ok (.ishr, 1) := by decide +kernel
theorem dX2_mostAlike_33 : decode cX2_mostAlike 33 = .ok (.iand, 1) := by decide +kernel
theorem dX2_mostAlike_34 : decode cX2_mostAlike 34 = .ok (.iconst 1, 1) := by decide +kernel
theorem dX2_mostAlike_35 : decode cX2_mostAlike 35 = .ok (.iand, 1) := by decide +kernel
theorem dX2_mostAlike_36 : decode cX2_mostAlike 36 = .ok (.ifCond .eq 7, 3) := by decide +kernel
theorem dX2_mostAlike_39 : decode cX2_mostAlike 39 = .ok (.iconst 1, 1) := by decide +kernel
theorem dX2_mostAlike_40 : decode cX2_mostAlike 40 = .ok (.goto 4, 3) := by decide +kernel
theorem dX2_mostAlike_43 : decode cX2_mostAlike 43 = .ok (.iconst 0, 1) := by decide +kernel
theorem dX2_mostAlike_44 : decode cX2_mostAlike 44 = .ok (.istore 7, 2) := by decide +kernel
theorem dX2_mostAlike_46 : decode cX2_mostAlike 46 = .ok (.iload 7, 2) := by decide +kernel
theorem dX2_mostAlike_48 : decode cX2_mostAlike 48 = .ok (.ifCond .eq 27, 3) := by decide +kernel
theorem dX2_mostAlike_51 : decode cX2_mostAlike 51 = .ok (.aload_n 0, 1) := by decide +kernel
theorem dX2_mostAlike_52 : decode cX2_mostAlike 52 = .ok (.getfield 57, 3) := by decide +kernel
theorem dX2_mostAlike_55 : decode cX2_mostAlike 55 = .ok (.iload 4, 2) := by decide +kernel
theorem dX2_mostAlike_57 : decode cX2_mostAlike 57 = .ok (.aaload, 1) := by decide +kernel
theorem dX2_mostAlike_58 : decode cX2_mostAlike 58 = .ok (.iload_n 2, 1) := by decide +kernel
theorem dX2_mostAlike_59 : decode cX2_mostAlike 59 = .ok (.iaload, 1) := by decide +kernel
theorem dX2_mostAlike_60 : decode cX2_mostAlike 60 = .ok (.aload_n 0, 1) := by decide +kernel
theorem dX2_mostAlike_61 : decode cX2_mostAlike 61 = .ok (.getfield 57, 3) := by decide +kernel
theorem dX2_mostAlike_64 : decode cX2_mostAlike 64 = .ok (.iload 6, 2) := by decide +kernel
theorem dX2_mostAlike_66 : decode cX2_mostAlike 66 = .ok (.aaload, 1) := by decide +kernel
theorem dX2_mostAlike_67 : decode cX2_mostAlike 67 = .ok (.iload_n 2, 1) := by decide +kernel
theorem dX2_mostAlike_68 : decode cX2_mostAlike 68 = .ok (.iaload, 1) := by decide +kernel
theorem dX2_mostAlike_69 : decode cX2_mostAlike 69 = .ok (.if_icmp .ne 6, 3) := by decide +kernel
theorem dX2_mostAlike_72 : decode cX2_mostAlike 72 = .ok (.iinc 5 1, 3) := by decide +kernel
theorem dX2_mostAlike_75 : decode cX2_mostAlike 75 = .ok (.iinc 6 1, 3) := by decide +kernel
theorem dX2_mostAlike_78 : decode cX2_mostAlike 78 = .ok (.goto (-60), 3) := by decide +kernel
theorem dX2_mostAlike_81 : decode cX2_mostAlike 81 = .ok (.iload_n 3, 1) := by decide +kernel
theorem dX2_mostAlike_82 : decode cX2_mostAlike 82 = .ok (.iload 5, 2) := by decide +kernel
theorem dX2_mostAlike_84 : decode cX2_mostAlike 84 = .ok (.invokestatic 219, 3) := by decide +kernel
theorem dX2_mostAlike_87 : decode cX2_mostAlike 87 = .ok (.istore_n 3, 1) := by decide +kernel
theorem dX2_mostAlike_88 : decode cX2_mostAlike 88 = .ok (.iinc 4 1, 3) := by decide +kernel
theorem dX2_mostAlike_91 : decode cX2_mostAlike 91 = .ok (.goto (-86), 3) := by decide +kernel
theorem dX2_mostAlike_94 : decode cX2_mostAlike 94 = .ok (.iload_n 3, 1) := by decide +kernel
theorem dX2_mostAlike_95 : decode cX2_mostAlike 95 = .ok (.ireturn, 1) := by decide +kernel
theorem dX2_yearsOfNotions_0 : decode cX2_yearsOfNotions 0 = .ok (.aload_n 0, 1) := by decide +kernel
theorem dX2_yearsOfNotions_1 : decode cX2_yearsOfNotions 1 = .ok (.aload_n 0, 1) := by decide +kernel
theorem dX2_yearsOfNotions_2 : decode cX2_yearsOfNotions 2 = .ok (.getfield 12, 3) := by decide +kernel
theorem dX2_yearsOfNotions_5 : decode cX2_yearsOfNotions 5 = .ok (.getfield 224, 3) := by decide +kernel
theorem dX2_yearsOfNotions_8 : decode cX2_yearsOfNotions 8 = .ok (.putfield 69, 3) := by decide +kernel
theorem dX2_yearsOfNotions_11 : decode cX2_yearsOfNotions 11 = .ok (.iconst 0, 1) := by decide +kernel
theorem dX2_yearsOfNotions_12 : decode cX2_yearsOfNotions 12 = .ok (.istore 5, 2) := by decide +kernel
theorem dX2_yearsOfNotions_14 : decode cX2_yearsOfNotions 14 = .ok (.iconst 0, 1) := by decide +kernel
theorem dX2_yearsOfNotions_15 : decode cX2_yearsOfNotions 15 = .ok (.istore 6, 2) := by decide +kernel
theorem dX2_yearsOfNotions_17 : decode cX2_yearsOfNotions 17 = .ok (.iconst 0, 1) := by decide +kernel
theorem dX2_yearsOfNotions_18 : decode cX2_yearsOfNotions 18 = .ok (.istore 7, 2) := by decide +kernel
theorem dX2_yearsOfNotions_20 : decode cX2_yearsOfNotions 20 = .ok (.iload 7, 2) := by decide +kernel
theorem dX2_yearsOfNotions_22 : decode cX2_yearsOfNotions 22 = .ok (.iload_n 1, 1) := by decide +kernel
theorem dX2_yearsOfNotions_23 : decode cX2_yearsOfNotions 23 = .ok (.if_icmp .ge 53, 3) := by decide +kernel
theorem dX2_yearsOfNotions_26 : decode cX2_yearsOfNotions 26 = .ok (.aload_n 0, 1) := by decide +kernel
theorem dX2_yearsOfNotions_27 : decode cX2_yearsOfNotions 27 = .ok (.iload_n 2, 1) := by decide +kernel
theorem dX2_yearsOfNotions_28 : decode cX2_yearsOfNotions 28 = .ok (.iload_n 3, 1) := by decide +kernel
theorem dX2_yearsOfNotions_29 : decode cX2_yearsOfNotions 29 = .ok (.invokevirtual 227, 3) := by decide +kernel
theorem dX2_yearsOfNotions_32 : decode cX2_yearsOfNotions 32 = .ok (.iload 5, 2) := by decide +kernel
theorem dX2_yearsOfNotions_34 : decode cX2_yearsOfNotions 34 = .ok (.aload_n 0, 1) := by decide +kernel
theorem dX2_yearsOfNotions_35 : decode cX2_yearsOfNotions 35 = .ok (.getfield 38, 3) := by decide +kernel
theorem dX2_yearsOfNotions_38 : decode cX2_yearsOfNotions 38 = .ok (.invokevirtual 124, 3) := by decide +kernel
theorem dX2_yearsOfNotions_41 : decode cX2_yearsOfNotions 41 = .ok (.aload_n 0, 1) := by decide +kernel
theorem dX2_yearsOfNotions_42 : decode cX2_yearsOfNotions 42 = .ok (.getfield 12, 3) := by decide +kernel
theorem dX2_yearsOfNotions_45 : decode cX2_yearsOfNotions 45 = .ok (.getfield 92, 3) := by decide +kernel
theorem dX2_yearsOfNotions_48 : decode cX2_yearsOfNotions 48 = .ok (.invokevirtual 124, 3) := by decide +kernel
theorem dX2_yearsOfNotions_51 : decode cX2_yearsOfNotions 51 = .ok (.isub, 1) := by decide +kernel
theorem dX2_yearsOfNotions_52 : decode cX2_yearsOfNotions 52 = .ok (.iadd, 1) := by decide +kernel
theorem dX2_yearsOfNotions_53 : decode cX2_yearsOfNotions 53 = .ok (.istore 5, 2) := by decide +kernel
theorem dX2_yearsOfNotions_55 : decode cX2_yearsOfNotions 55 = .ok (.iload 6, 2) := by decide +kernel
theorem dX2_yearsOfNotions_57 : decode cX2_yearsOfNotions 57 = .ok (.aload_n 0, 1) := by decide +kernel
theorem dX2_yearsOfNotions_58 : decode cX2_yearsOfNotions 58 = .ok (.getfield 38, 3) := by decide +kernel
theorem dX2_yearsOfNotions_61 : decode cX2_yearsOfNotions 61 = .ok (.getfield 113, 3) := by decide +kernel
theorem dX2_yearsOfNotions_64 : decode cX2_yearsOfNotions 64 = .ok (.invokestatic 116, 3) := by decide +kernel
theorem dX2_yearsOfNotions_67 : decode cX2_yearsOfNotions 67 = .ok (.iadd, 1) := by decide +kernel
theorem dX2_yearsOfNotions_68 : decode cX2_yearsOfNotions 68 = .ok (.istore 6, 2) := by decide +kernel
theorem dX2_yearsOfNotions_70 : decode cX2_yearsOfNotions 70 = .ok (.iinc 7 1, 3) := by decide +kernel
theorem dX2_yearsOfNotions_73 : decode cX2_yearsOfNotions 73 = .ok (.goto (-53), 3) := by decide +kernel
theorem dX2_yearsOfNotions_76 : decode cX2_yearsOfNotions 76 = .ok (.iload 4, 2) := by decide +kernel
theorem dX2_yearsOfNotions_78 : decode cX2_yearsOfNotions 78 = .ok (.ifCond .ne 8, 3) := by decide +kernel
theorem dX2_yearsOfNotions_81 : decode cX2_yearsOfNotions 81 = .ok (.iload 5, 2) := by decide +kernel
theorem dX2_yearsOfNotions_83 : decode cX2_yearsOfNotions 83 = .ok (.goto 5, 3) := by decide +kernel
theorem dX2_yearsOfNotions_86 : decode cX2_yearsOfNotions 86 = .ok (.iload 6, 2) := by decide +kernel
theorem dX2_yearsOfNotions_88 : decode cX2_yearsOfNotions 88 = .ok (.ireturn, 1) := by decide +kernel
theorem dX2_goThroughNotions_0 : decode cX2_goThroughNotions 0 = .ok (.aload_n 0, 1) := by decide +kernel
theorem dX2_goThroughNotions_1 : decode cX2_goThroughNotions 1 = .ok (.getfield 38, 3) := by decide +kernel
theorem dX2_goThroughNotions_4 : decode cX2_goThroughNotions 4 = .ok (.aload_n 0, 1) := by decide +kernel
theorem dX2_goThroughNotions_5 : decode cX2_goThroughNotions 5 = .ok (.getfield 12, 3) := by decide +kernel
theorem dX2_goThroughNotions_8 : decode cX2_goThroughNotions 8 = .ok (.getfield 92, 3) := by decide +kernel
theorem dX2_goThroughNotions_11 : decode cX2_goThroughNotions 11 = .ok (.invokevirtual 95, 3) := by decide +kernel
theorem dX2_goThroughNotions_14 : decode cX2_goThroughNotions 14 = .ok (.aload_n 0, 1) := by decide +kernel
theorem dX2_goThroughNotions_15 : decode cX2_goThroughNotions 15 = .ok (.invokevirtual 80, 3) := by decide +kernel
theorem dX2_goThroughNotions_18 : decode cX2_goThroughNotions 18 = .ok (.astore_n 3, 1) := by decide +kernel
theorem dX2_goThroughNotions_19 : decode cX2_goThroughNotions 19 = .ok (.aload_n 0, 1) := by decide +kernel
theorem dX2_goThroughNotions_20 : decode cX2_goThroughNotions 20 = .ok (.getfield 12, 3) := by decide +kernel
theorem dX2_goThroughNotions_23 : decode cX2_goThroughNotions 23 = .ok (.getfield 84, 3) := by decide +kernel
theorem dX2_goThroughNotions_26 : decode cX2_goThroughNotions 26 = .ok (.getfield 149, 3) := by decide +kernel
theorem dX2_goThroughNotions_29 : decode cX2_goThroughNotions 29 = .ok (.istore 4, 2) := by decide +kernel
theorem dX2_goThroughNotions_31 : decode cX2_goThroughNotions 31 = .ok (.iconst 0, 1) := by decide +kernel
theorem dX2_goThroughNotions_32 : decode cX2_goThroughNotions 32 = .ok (.istore 5, 2) := by decide +kernel
theorem dX2_goThroughNotions_34 : decode cX2_goThroughNotions 34 = .ok (.iload 5, 2) := by decide +kernel
theorem dX2_goThroughNotions_36 : decode cX2_goThroughNotions 36 = .ok (.iload_n 1, 1) := by decide +kernel
theorem dX2_goThroughNotions_37 : decode cX2_goThroughNotions 37 = .ok (.if_icmp .ge 62, 3) := by decide +kernel
theorem dX2_goThroughNotions_40 : decode cX2_goThroughNotions 40 = .ok (.aload_n 0, 1) := by decide +kernel
theorem dX2_goThroughNotions_41 : decode cX2_goThroughNotions 41 = .ok (.invokevirtual 230, 3) := by decide +kernel
theorem dX2_goThroughNotions_44 : decode cX2_goThroughNotions 44 = .ok (.bipush 100, 2) := by decide +kernel
theorem dX2_goThroughNotions_46 : decode cX2_goThroughNotions 46 = .ok (.irem, 1) := by decide +kernel
theorem dX2_goThroughNotions_47 : decode cX2_goThroughNotions 47 = .ok (.iload_n 2, 1) := by decide +kernel
theorem dX2_goThroughNotions_48 : decode cX2_goThroughNotions 48 = .ok (.if_icmp .ge 24, 3) := by decide +kernel
theorem dX2_goThroughNotions_51 : decode cX2_goThroughNotions 51 = .ok (.iload 4, 2) := by decide +kernel
theorem dX2_goThroughNotions_53 : decode cX2_goThroughNotions 53 = .ok (.ifCond .le 19, 3) := by decide +kernel
theorem dX2_goThroughNotions_56 : decode cX2_goThroughNotions 56 = .ok (.aload_n 0, 1) := by decide +kernel
theorem dX2_goThroughNotions_57 : decode cX2_goThroughNotions 57 = .ok (.getfield 38, 3) := by decide +kernel
theorem dX2_goThroughNotions_60 : decode cX2_goThroughNotions 60 = .ok (.aload_n 0, 1) := by decide +kernel
theorem dX2_goThroughNotions_61 : decode cX2_goThroughNotions 61 = .ok (.invokevirtual 230, 3) := by decide +kernel
theorem dX2_goThroughNotions_64 : decode cX2_goThroughNotions 64 = .ok (.iload 4, 2) := by decide +kernel
theorem dX2_goThroughNotions_66 : decode cX2_goThroughNotions 66 = .ok (.irem, 1) := by decide +kernel
theorem dX2_goThroughNotions_67 : decode cX2_goThroughNotions 67 = .ok (.bipush 9, 2) := by decide +kernel
theorem dX2_goThroughNotions_69 : decode cX2_goThroughNotions 69 = .ok (.invokevirtual 152, 3) := by decide +kernel
theorem dX2_goThroughNotions_72 : decode cX2_goThroughNotions 72 = .ok (.aload_n 0, 1) := by decide +kernel
theorem dX2_goThroughNotions_73 : decode cX2_goThroughNotions 73 = .ok (.getfield 31, 3) := by decide +kernel
theorem dX2_goThroughNotions_76 : decode cX2_goThroughNotions 76 = .ok (.aload_n 0, 1) := by decide +kernel
theorem dX2_goThroughNotions_77 : decode cX2_goThroughNotions 77 = .ok (.getfield 12, 3) := by decide +kernel
theorem dX2_goThroughNotions_80 : decode cX2_goThroughNotions 80 = .ok (.getfield 84, 3) := by decide +kernel
theorem dX2_goThroughNotions_83 : decode cX2_goThroughNotions 83 = .ok (.aload_n 3, 1) := by decide +kernel
theorem dX2_goThroughNotions_84 : decode cX2_goThroughNotions 84 = .ok (.aload_n 0, 1) := by decide +kernel
theorem dX2_goThroughNotions_85 : decode cX2_goThroughNotions 85 = .ok (.getfield 38, 3) := by decide +kernel
theorem dX2_goThroughNotions_88 : decode cX2_goThroughNotions 88 = .ok (.iconst (-1), 1) := by decide +kernel
theorem dX2_goThroughNotions_89 : decode cX2_goThroughNotions 89 = .ok (.invokevirtual 88, 3) := by decide +kernel
theorem dX2_goThroughNotions_92 : decode cX2_goThroughNotions 92 = .ok (.pop, 1) := by decide +kernel
theorem dX2_goThroughNotions_93 : decode cX2_goThroughNotions 93 = .ok (.iinc 5 1, 3) := by decide +kernel
theorem dX2_goThroughNotions_96 : decode cX2_goThroughNotions 96 = .ok (.goto (-62), 3) := by decide +kernel
theorem dX2_goThroughNotions_99 : decode cX2_goThroughNotions 99 = .ok (.return_, 1) := by decide +kernel
theorem dX2_draw_0 : decode cX2_draw 0 = .ok (.aload_n 0, 1) := by decide +kernel
theorem dX2_draw_1 : decode cX2_draw 1 = .ok (.aload_n 0, 1) := by decide +kernel
theorem dX2_draw_2 : decode cX2_draw 2 = .ok (.getfield 69, 3) := by decide +kernel
theorem dX2_draw_5 : decode cX2_draw 5 = .ok (.i2l, 1) := by decide +kernel
theorem dX2_draw_6 : decode cX2_draw 6 = .ok (.ldc2_w 233, 3) := by decide +kernel
theorem dX2_draw_9 : decode cX2_draw 9 = .ok (.lmul, 1) := by decide +kernel
theorem dX2_draw_10 : decode cX2_draw 10 = .ok (.ldc2_w 235, 3) := by decide +kernel
theorem dX2_draw_13 : decode cX2_draw 13 = .ok (.ladd, 1) := by decide +kernel
theorem dX2_draw_14 : decode cX2_draw 14 = .ok (.ldc2_w 237, 3) := by decide +kernel
theorem dX2_draw_17 : decode cX2_draw 17 = .ok (.land, 1) := by decide +kernel
theorem dX2_draw_18 : decode cX2_draw 18 = .ok (.l2i, 1) := by decide +kernel
theorem dX2_draw_19 : decode cX2_draw 19 = .ok (.putfield 69, 3) := by decide +kernel
theorem dX2_draw_22 : decode cX2_draw 22 = .ok (.aload_n 0, 1) := by decide +kernel
theorem dX2_draw_23 : decode cX2_draw 23 = .ok (.getfield 69, 3) := by decide +kernel
theorem dX2_draw_26 : decode cX2_draw 26 = .ok (.ldc 239, 2) := by decide +kernel
theorem dX2_draw_28 : decode cX2_draw 28 = .ok (.idiv, 1) := by decide +kernel
theorem dX2_draw_29 : decode cX2_draw 29 = .ok (.ireturn, 1) := by decide +kernel
theorem dX3_init_0 : decode cX3_init 0 = .ok (.aload_n 0, 1) := by decide +kernel
theorem dX3_init_1 : decode cX3_init 1 = .ok (.invokespecial 3, 3) := by decide +kernel
theorem dX3_init_4 : decode cX3_init 4 = .ok (.aload_n 0, 1) := by decide +kernel
theorem dX3_init_5 : decode cX3_init 5 = .ok (.iconst 0, 1) := by decide +kernel
theorem dX3_init_6 : decode cX3_init 6 = .ok (.putfield 9, 3) := by decide +kernel
theorem dX3_init_9 : decode cX3_init 9 = .ok (.aload_n 0, 1) := by decide +kernel
theorem dX3_init_10 : decode cX3_init 10 = .ok (.iconst 0, 1) := by decide +kernel
theorem dX3_init_11 : decode cX3_init 11 = .ok (.putfield 15, 3) := by decide +kernel
theorem dX3_init_14 : decode cX3_init 14 = .ok (.aload_n 0, 1) := by decide +kernel
theorem dX3_init_15 : decode cX3_init 15 = .ok (.iconst 0, 1) := by decide +kernel
theorem dX3_init_16 : decode cX3_init 16 = .ok (.putfield 18, 3) := by decide +kernel
theorem dX3_init_19 : decode cX3_init 19 = .ok (.aload_n 0, 1) := by decide +kernel
theorem dX3_init_20 : decode cX3_init 20 = .ok (.iconst 0, 1) := by decide +kernel
theorem dX3_init_21 : decode cX3_init 21 = .ok (.putfield 21, 3) := by decide +kernel
theorem dX3_init_24 : decode cX3_init 24 = .ok (.aload_n 0, 1) := by decide +kernel
theorem dX3_init_25 : decode cX3_init 25 = .ok (.iconst 0, 1) := by decide +kernel
theorem dX3_init_26 : decode cX3_init 26 = .ok (.putfield 24, 3) := by decide +kernel
theorem dX3_init_29 : decode cX3_init 29 = .ok (.aload_n 0, 1) := by decide +kernel
theorem dX3_init_30 : decode cX3_init 30 = .ok (.bipush 6, 2) := by decide +kernel
theorem dX3_init_32 : decode cX3_init 32 = .ok (.newarray .int, 2) := by decide +kernel
theorem dX3_init_34 : decode cX3_init 34 = .ok (.putfield 27, 3) := by decide +kernel
theorem dX3_init_37 : decode cX3_init 37 = .ok (.aload_n 0, 1) := by decide +kernel
theorem dX3_init_38 : decode cX3_init 38 = .ok (.bipush 6, 2) := by decide +kernel
theorem dX3_init_40 : decode cX3_init 40 = .ok (.newarray .int, 2) := by decide +kernel
theorem dX3_init_42 : decode cX3_init 42 = .ok (.putfield 31, 3) := by decide +kernel
theorem dX3_init_45 : decode cX3_init 45 = .ok (.aload_n 0, 1) := by decide +kernel
theorem dX3_init_46 : decode cX3_init 46 = .ok (.bipush 6, 2) := by decide +kernel
theorem dX3_init_48 : decode cX3_init 48 = .ok (.newarray .int, 2) := by decide +kernel
theorem dX3_init_50 : decode cX3_init 50 = .ok (.putfield 34, 3) := by decide +kernel
theorem dX3_init_53 : decode cX3_init 53 = .ok (.aload_n 0, 1) := by decide +kernel
theorem dX3_init_54 : decode cX3_init 54 = .ok (.iconst 4, 1) := by decide +kernel
theorem dX3_init_55 : decode cX3_init 55 = .ok (.newarray .int, 2) := by decide +kernel
theorem dX3_init_57 : decode cX3_init 57 = .ok (.putfield 37, 3) := by decide +kernel
theorem dX3_init_60 : decode cX3_init 60 = .ok (.aload_n 0, 1) := by decide +kernel
theorem dX3_init_61 : decode cX3_init 61 = .ok (.iconst 4, 1) := by decide +kernel
theorem dX3_init_62 : decode cX3_init 62 = .ok (.newarray .int, 2) := by decide +kernel
theorem dX3_init_64 : decode cX3_init 64 = .ok (.putfield 40, 3) := by decide +kernel
theorem dX3_init_67 : decode cX3_init 67 = .ok (.aload_n 0, 1) := by decide +kernel
theorem dX3_init_68 : decode cX3_init 68 = .ok (.iconst 4, 1) := by decide +kernel
theorem dX3_init_69 : decode cX3_init 69 = .ok (.newarray .int, 2) := by decide +kernel
theorem dX3_init_71 : decode cX3_init 71 = .ok (.putfield 43, 3) := by decide +kernel
theorem dX3_init_74 : decode cX3_init 74 = .ok (.aload_n 0, 1) := by decide +kernel
theorem dX3_init_75 : decode cX3_init 75 = .ok (.iconst 4, 1) := by decide +kernel
theorem dX3_init_76 : decode cX3_init 76 = .ok (.newarray .int, 2) := by decide +kernel
theorem dX3_init_78 : decode cX3_init 78 = .ok (.putfield 46, 3) := by decide +kernel
theorem dX3_init_81 : decode cX3_init 81 = .ok (.return_, 1) := by decide +kernel
theorem dX3_isThere_0 : decode cX3_isThere 0 = .ok (.aload_n 0, 1) := by decide +kernel
theorem dX3_isThere_1 : decode cX3_isThere 1 = .ok (.getfield 9, 3) := by decide +kernel
theorem dX3_isThere_4 : decode cX3_isThere 4 = .ok (.ifCond .le 7, 3) := by decide +kernel
theorem dX3_isThere_7 : decode cX3_isThere 7 = .ok (.iconst 1, 1) := by decide +kernel
theorem dX3_isThere_8 : decode cX3_isThere 8 = .ok (.goto 4, 3) := by decide +kernel
theorem dX3_isThere_11 : decode cX3_isThere 11 = .ok (.iconst 0, 1) := by decide +kernel
theorem dX3_isThere_12 : decode cX3_isThere 12 = .ok (.ireturn, 1) := by decide +kernel
theorem dX3_cells_0 : decode cX3_cells 0 = .ok (.aload_n 0, 1) := by decide +kernel
theorem dX3_cells_1 : decode cX3_cells 1 = .ok (.getfield 9, 3) := by decide +kernel
theorem dX3_cells_4 : decode cX3_cells 4 = .ok (.aload_n 0, 1) := by decide +kernel
theorem dX3_cells_5 : decode cX3_cells 5 = .ok (.getfield 9, 3) := by decide +kernel
theorem dX3_cells_8 : decode cX3_cells 8 = .ok (.imul, 1) := by decide +kernel
theorem dX3_cells_9 : decode cX3_cells 9 = .ok (.ireturn, 1) := by decide +kernel
theorem dX3_rowOf_0 : decode cX3_rowOf 0 = .ok (.aload_n 0, 1) := by decide +kernel
theorem dX3_rowOf_1 : decode cX3_rowOf 1 = .ok (.getfield 9, 3) := by decide +kernel
theorem dX3_rowOf_4 : decode cX3_rowOf 4 = .ok (.ifCond .le 12, 3) := by decide +kernel
theorem dX3_rowOf_7 : decode cX3_rowOf 7 = .ok (.iload_n 1, 1) := by decide +kernel
theorem dX3_rowOf_8 : decode cX3_rowOf 8 = .ok (.aload_n 0, 1) := by decide +kernel
theorem dX3_rowOf_9 : decode cX3_rowOf 9 = .ok (.getfield 9, 3) := by decide +kernel
theorem dX3_rowOf_12 : decode cX3_rowOf 12 = .ok (.idiv, 1) := by decide +kernel
theorem dX3_rowOf_13 : decode cX3_rowOf 13 = .ok (.goto 4, 3) := by decide +kernel
theorem dX3_rowOf_16 : decode cX3_rowOf 16 = .ok (.iconst 0, 1) := by decide +kernel
theorem dX3_rowOf_17 : decode cX3_rowOf 17 = .ok (.ireturn, 1) := by decide +kernel
theorem dX3_columnOf_0 : decode cX3_columnOf 0 = .ok (.aload_n 0, 1) := by decide +kernel
theorem dX3_columnOf_1 : decode cX3_columnOf 1 = .ok (.getfield 9, 3) := by decide +kernel
theorem dX3_columnOf_4 : decode cX3_columnOf 4 = .ok (.ifCond .le 12, 3) := by decide +kernel
theorem dX3_columnOf_7 : decode cX3_columnOf 7 = .ok (.iload_n 1, 1) := by decide +kernel
theorem dX3_columnOf_8 : decode cX3_columnOf 8 = .ok (.aload_n 0, 1) := by decide +kernel
theorem dX3_columnOf_9 : decode cX3_columnOf 9 = .ok (.getfield 9, 3) := by decide +kernel
theorem dX3_columnOf_12 : decode cX3_columnOf 12 = .ok (.irem, 1) := by decide +kernel
theorem dX3_columnOf_13 : decode cX3_columnOf 13 = .ok (.goto 4, 3) := by decide +kernel
theorem dX3_columnOf_16 : decode cX3_columnOf 16 = .ok (.iconst 0, 1) := by decide +kernel
theorem dX3_columnOf_17 : decode cX3_columnOf 17 = .ok (.ireturn, 1) := by decide +kernel
theorem dX3_has_0 : decode cX3_has 0 = .ok (.iload_n 1, 1) := by decide +kernel
theorem dX3_has_1 : decode cX3_has 1 = .ok (.ifCond .lt 27, 3) := by decide +kernel
theorem dX3_has_4 : decode cX3_has 4 = .ok (.iload_n 1, 1) := by decide +kernel
theorem dX3_has_5 : decode cX3_has 5 = .ok (.aload_n 0, 1) := by decide +kernel
theorem dX3_has_6 : decode cX3_has 6 = .ok (.getfield 9, 3) := by decide +kernel
theorem dX3_has_9 : decode cX3_has 9 = .ok (.if_icmp .ge 19, 3) := by decide +kernel
theorem dX3_has_12 : decode cX3_has 12 = .ok (.iload_n 2, 1) := by decide +kernel
theorem dX3_has_13 : decode cX3_has 13 = .ok (.ifCond .lt 15, 3) := by decide +kernel
theorem dX3_has_16 : decode cX3_has 16 = .ok (.iload_n 2, 1) := by decide +kernel
theorem dX3_has_17 : decode cX3_has 17 = .ok (.aload_n 0, 1) := by decide +kernel
theorem dX3_has_18 : decode cX3_has 18 = .ok (.getfield 9, 3) := by decide +kernel
theorem dX3_has_21 : decode cX3_has 21 = .ok (.if_icmp .ge 7, 3) := by decide +kernel
theorem dX3_has_24 : decode cX3_has 24 = .ok (.iconst 1, 1) := by decide +kernel
theorem dX3_has_25 : decode cX3_has 25 = .ok (.goto 4, 3) := by decide +kernel
theorem dX3_has_28 : decode cX3_has 28 = .ok (.iconst 0, 1) := by decide +kernel
theorem dX3_has_29 : decode cX3_has 29 = .ok (.ireturn, 1) := by decide +kernel
theorem dX3_clear_0 : decode cX3_clear 0 = .ok (.aload_n 0, 1) := by decide +kernel
theorem dX3_clear_1 : decode cX3_clear 1 = .ok (.iconst 0, 1) := by decide +kernel
theorem dX3_clear_2 : decode cX3_clear 2 = .ok (.putfield 9, 3) := by decide +kernel
theorem dX3_clear_5 : decode cX3_clear 5 = .ok (.aload_n 0, 1) := by decide +kernel
theorem dX3_clear_6 : decode cX3_clear 6 = .ok (.iconst 0, 1) := by decide +kernel
theorem dX3_clear_7 : decode cX3_clear 7 = .ok (.putfield 15, 3) := by decide +kernel
theorem dX3_clear_10 : decode cX3_clear 10 = .ok (.aload_n 0, 1) := by decide +kernel
theorem dX3_clear_11 : decode cX3_clear 11 = .ok (.iconst 0, 1) := by decide +kernel
theorem dX3_clear_12 : decode cX3_clear 12 = .ok (.putfield 18, 3) := by decide +kernel
theorem dX3_clear_15 : decode cX3_clear 15 = .ok (.aload_n 0, 1) := by decide +kernel
theorem dX3_clear_16 : decode cX3_clear 16 = .ok (.iconst 0, 1) := by decide +kernel
theorem dX3_clear_17 : decode cX3_clear 17 = .ok (.putfield 21, 3) := by decide +kernel
theorem dX3_clear_20 : decode cX3_clear 20 = .ok (.aload_n 0, 1) := by decide +kernel
theorem dX3_clear_21 : decode cX3_clear 21 = .ok (.iconst 0, 1) := by decide +kernel
theorem dX3_clear_22 : decode cX3_clear 22 = .ok (.putfield 24, 3) := by decide +kernel
theorem dX3_clear_25 : decode cX3_clear 25 = .ok (.return_, 1) := by decide +kernel
theorem dX3_copyFrom_0 : decode cX3_copyFrom 0 = .ok (.aload_n 0, 1) := by decide +kernel
theorem dX3_copyFrom_1 : decode cX3_copyFrom 1 = .ok (.aload_n 1, 1) := by decide +kernel
theorem dX3_copyFrom_2 : decode cX3_copyFrom 2 = .ok (.getfield 9, 3) := by decide +kernel
theorem dX3_copyFrom_5 : decode cX3_copyFrom 5 = .ok (.putfield 9, 3) := by decide +kernel
theorem dX3_copyFrom_8 : decode cX3_copyFrom 8 = .ok (.aload_n 0, 1) := by decide +kernel
theorem dX3_copyFrom_9 : decode cX3_copyFrom 9 = .ok (.aload_n 1, 1) := by decide +kernel
theorem dX3_copyFrom_10 : decode cX3_copyFrom 10 = .ok (.getfield 15, 3) := by decide +kernel
theorem dX3_copyFrom_13 : decode cX3_copyFrom 13 = .ok (.putfield 15, 3) := by decide +kernel
theorem dX3_copyFrom_16 : decode cX3_copyFrom 16 = .ok (.aload_n 0, 1) := by decide +kernel
theorem dX3_copyFrom_17 : decode cX3_copyFrom 17 = .ok (.aload_n 1, 1) := by decide +kernel
theorem dX3_copyFrom_18 : decode cX3_copyFrom 18 = .ok (.getfield 18, 3) := by decide +kernel
theorem dX3_copyFrom_21 : decode cX3_copyFrom 21 = .ok (.putfield 18, 3) := by decide +kernel
theorem dX3_copyFrom_24 : decode cX3_copyFrom 24 = .ok (.aload_n 0, 1) := by decide +kernel
theorem dX3_copyFrom_25 : decode cX3_copyFrom 25 = .ok (.aload_n 1, 1) := by decide +kernel
theorem dX3_copyFrom_26 : decode cX3_copyFrom 26 = .ok (.getfield 21, 3) := by decide +kernel
theorem dX3_copyFrom_29 : decode cX3_copyFrom 29 = .ok (.putfield 21, 3) := by decide +kernel
theorem dX3_copyFrom_32 : decode cX3_copyFrom 32 = .ok (.aload_n 0, 1) := by decide +kernel
theorem dX3_copyFrom_33 : decode cX3_copyFrom 33 = .ok (.aload_n 1, 1) := by decide +kernel
theorem dX3_copyFrom_34 : decode cX3_copyFrom 34 = .ok (.getfield 24, 3) := by decide +kernel
theorem dX3_copyFrom_37 : decode cX3_copyFrom 37 = .ok (.putfield 24, 3) := by decide +kernel
theorem dX3_copyFrom_40 : decode cX3_copyFrom 40 = .ok (.aload_n 1, 1) := by decide +kernel
theorem dX3_copyFrom_41 : decode cX3_copyFrom 41 = .ok (.getfield 27, 3) := by decide +kernel
theorem dX3_copyFrom_44 : decode cX3_copyFrom 44 = .ok (.iconst 0, 1) := by decide +kernel
theorem dX3_copyFrom_45 : decode cX3_copyFrom 45 = .ok (.aload_n 0, 1) := by decide +kernel
theorem dX3_copyFrom_46 : decode cX3_copyFrom 46 = .ok (.getfield 27, 3) := by decide +kernel
theorem dX3_copyFrom_49 : decode cX3_copyFrom 49 = .ok (.iconst 0, 1) := by decide +kernel
theorem dX3_copyFrom_50 : decode cX3_copyFrom 50 = .ok (.bipush 6, 2) := by decide +kernel
theorem dX3_copyFrom_52 : decode cX3_copyFrom 52 = .ok (.invokestatic 49, 3) := by decide +kernel
theorem dX3_copyFrom_55 : decode cX3_copyFrom 55 = .ok (.aload_n 1, 1) := by decide +kernel
theorem dX3_copyFrom_56 : decode cX3_copyFrom 56 = .ok (.getfield 31, 3) := by decide +kernel
theorem dX3_copyFrom_59 : decode cX3_copyFrom 59 = .ok (.iconst 0, 1) := by decide +kernel
theorem dX3_copyFrom_60 : decode cX3_copyFrom 60 = .ok (.aload_n 0, 1) := by decide +kernel
theorem dX3_copyFrom_61 : decode cX3_copyFrom 61 = .ok (.getfield 31, 3) := by decide +kernel
theorem dX3_copyFrom_64 : decode cX3_copyFrom 64 = .ok (.iconst 0, 1) := by decide +kernel
theorem dX3_copyFrom_65 : decode cX3_copyFrom 65 = .ok (.bipush 6, 2) := by decide +kernel
theorem dX3_copyFrom_67 : decode cX3_copyFrom 67 = .ok (.invokestatic 49, 3) := by decide +kernel
theorem dX3_copyFrom_70 : decode cX3_copyFrom 70 = .ok (.aload_n 1, 1) := by decide +kernel
theorem dX3_copyFrom_71 : decode cX3_copyFrom 71 = .ok (.getfield 34, 3) := by decide +kernel
theorem dX3_copyFrom_74 : decode cX3_copyFrom 74 = .ok (.iconst 0, 1) := by decide +kernel
theorem dX3_copyFrom_75 : decode cX3_copyFrom 75 = .ok (.aload_n 0, 1) := by decide +kernel
theorem dX3_copyFrom_76 : decode cX3_copyFrom 76 = .ok (.getfield 34, 3) := by decide +kernel
theorem dX3_copyFrom_79 : decode cX3_copyFrom 79 = .ok (.iconst 0, 1) := by decide +kernel
theorem dX3_copyFrom_80 : decode cX3_copyFrom 80 = .ok (.bipush 6, 2) := by decide +kernel
theorem dX3_copyFrom_82 : decode cX3_copyFrom 82 = .ok (.invokestatic 49, 3) := by decide +kernel
theorem dX3_copyFrom_85 : decode cX3_copyFrom 85 = .ok (.aload_n 1, 1) := by decide +kernel
theorem dX3_copyFrom_86 : decode cX3_copyFrom 86 = .ok (.getfield 37, 3) := by decide +kernel
theorem dX3_copyFrom_89 : decode cX3_copyFrom 89 = .ok (.iconst 0, 1) := by decide +kernel
theorem dX3_copyFrom_90 : decode cX3_copyFrom 90 = .ok (.aload_n 0, 1) := by decide +kernel
theorem dX3_copyFrom_91 : decode cX3_copyFrom 91 = .ok (.getfield 37, 3) := by decide +kernel
theorem dX3_copyFrom_94 : decode cX3_copyFrom 94 = .ok (.iconst 0, 1) := by decide +kernel
theorem dX3_copyFrom_95 : decode cX3_copyFrom 95 = .ok (.iconst 4, 1) := by decide +kernel
theorem dX3_copyFrom_96 : decode cX3_copyFrom 96 = .ok (.invokestatic 49, 3) := by decide +kernel
theorem dX3_copyFrom_99 : decode cX3_copyFrom 99 = .ok (.aload_n 1, 1) := by decide +kernel
theorem dX3_copyFrom_100 : decode cX3_copyFrom 100 = .ok (.getfield 40, 3) := by decide +kernel
theorem dX3_copyFrom_103 : decode cX3_copyFrom 103 = .ok (.iconst 0, 1) := by decide +kernel
theorem dX3_copyFrom_104 : decode cX3_copyFrom 104 = .ok (.aload_n 0, 1) := by decide +kernel
theorem dX3_copyFrom_105 : decode cX3_copyFrom 105 = .ok (.getfield 40, 3) := by decide +kernel
theorem dX3_copyFrom_108 : decode cX3_copyFrom 108 = .ok (.iconst 0, 1) := by decide +kernel
theorem dX3_copyFrom_109 : decode cX3_copyFrom 109 = .ok (.iconst 4, 1) := by decide +kernel
theorem dX3_copyFrom_110 : decode cX3_copyFrom 110 = .ok (.invokestatic 49, 3) := by decide +kernel
theorem dX3_copyFrom_113 : decode cX3_copyFrom 113 = .ok (.aload_n 1, 1) := by decide +kernel
theorem dX3_copyFrom_114 : decode cX3_copyFrom 114 = .ok (.getfield 43, 3) := by decide +kernel
theorem dX3_copyFrom_117 : decode cX3_copyFrom 117 = .ok (.iconst 0, 1) := by decide +kernel
theorem dX3_copyFrom_118 : decode cX3_copyFrom 118 = .ok (.aload_n 0, 1) := by decide +kernel
theorem dX3_copyFrom_119 : decode cX3_copyFrom 119 = .ok (.getfield 43, 3) := by decide +kernel
theorem dX3_copyFrom_122 : decode cX3_copyFrom 122 = .ok (.iconst 0, 1) := by decide +kernel
theorem dX3_copyFrom_123 : decode cX3_copyFrom 123 = .ok (.iconst 4, 1) := by decide +kernel
theorem dX3_copyFrom_124 : decode cX3_copyFrom 124 = .ok (.invokestatic 49, 3) := by decide +kernel
theorem dX3_copyFrom_127 : decode cX3_copyFrom 127 = .ok (.aload_n 1, 1) := by decide +kernel
theorem dX3_copyFrom_128 : decode cX3_copyFrom 128 = .ok (.getfield 46, 3) := by decide +kernel
theorem dX3_copyFrom_131 : decode cX3_copyFrom 131 = .ok (.iconst 0, 1) := by decide +kernel
theorem dX3_copyFrom_132 : decode cX3_copyFrom 132 = .ok (.aload_n 0, 1) := by decide +kernel
theorem dX3_copyFrom_133 : decode cX3_copyFrom 133 = .ok (.getfield 46, 3) := by decide +kernel
theorem dX3_copyFrom_136 : decode cX3_copyFrom 136 = .ok (.iconst 0, 1) := by decide +kernel
theorem dX3_copyFrom_137 : decode cX3_copyFrom 137 = .ok (.iconst 4, 1) := by decide +kernel
theorem dX3_copyFrom_138 : decode cX3_copyFrom 138 = .ok (.invokestatic 49, 3) := by decide +kernel
theorem dX3_copyFrom_141 : decode cX3_copyFrom 141 = .ok (.return_, 1) := by decide +kernel
theorem dX4_read_0 : decode cX4_read 0 = .ok (.aload_n 0, 1) := by decide +kernel
theorem dX4_read_1 : decode cX4_read 1 = .ok (.invokevirtual 9, 3) := by decide +kernel
theorem dX4_read_4 : decode cX4_read 4 = .ok (.aload_n 1, 1) := by decide +kernel
theorem dX4_read_5 : decode cX4_read 5 = .ok (.invokevirtual 14, 3) := by decide +kernel
theorem dX4_read_8 : decode cX4_read 8 = .ok (.iconst 1, 1) := by decide +kernel
theorem dX4_read_9 : decode cX4_read 9 = .ok (.istore_n 2, 1) := by decide +kernel
theorem dX4_read_10 : decode cX4_read 10 = .ok (.iconst 0, 1) := by decide +kernel
theorem dX4_read_11 : decode cX4_read 11 = .ok (.istore_n 3, 1) := by decide +kernel
theorem dX4_read_12 : decode cX4_read 12 = .ok (.iload_n 3, 1) := by decide +kernel
theorem dX4_read_13 : decode cX4_read 13 = .ok (.bipush 40, 2) := by decide +kernel
theorem dX4_read_15 : decode cX4_read 15 = .ok (.if_icmp .gt 56, 3) := by decide +kernel
theorem dX4_read_18 : decode cX4_read 18 = .ok (.iload_n 2, 1) := by decide +kernel
theorem dX4_read_19 : decode cX4_read 19 = .ok (.ifCond .eq 52, 3) := by decide +kernel
theorem dX4_read_22 : decode cX4_read 22 = .ok (.aload_n 0, 1) := by decide +kernel
theorem dX4_read_23 : decode cX4_read 23 = .ok (.invokevirtual 19, 3) := by decide +kernel
theorem dX4_read_26 : decode cX4_read 26 = .ok (.aload_n 0, 1) := by decide +kernel
theorem dX4_read_27 : decode cX4_read 27 = .ok (.aload_n 1, 1) := by decide +kernel
theorem dX4_read_28 : decode cX4_read 28 = .ok (.iload_n 3, 1) := by decide +kernel
theorem dX4_read_29 : decode cX4_read 29 = .ok (.invokestatic 22, 3) := by decide +kernel
theorem dX4_read_32 : decode cX4_read 32 = .ok (.aload_n 0, 1) := by decide +kernel
theorem dX4_read_33 : decode cX4_read 33 = .ok (.invokevirtual 28, 3) := by decide +kernel
theorem dX4_read_36 : decode cX4_read 36 = .ok (.ifCond .eq 7, 3) := by decide +kernel
theorem dX4_read_39 : decode cX4_read 39 = .ok (.aload_n 0, 1) := by decide +kernel
theorem dX4_read_40 : decode cX4_read 40 = .ok (.invokevirtual 19, 3) := by decide +kernel
theorem dX4_read_43 : decode cX4_read 43 = .ok (.aload_n 0, 1) := by decide +kernel
theorem dX4_read_44 : decode cX4_read 44 = .ok (.invokevirtual 28, 3) := by decide +kernel
theorem dX4_read_47 : decode cX4_read 47 = .ok (.ifCond .eq 16, 3) := by decide +kernel
theorem dX4_read_50 : decode cX4_read 50 = .ok (.aload_n 0, 1) := by decide +kernel
theorem dX4_read_51 : decode cX4_read 51 = .ok (.getfield 32, 3) := by decide +kernel
theorem dX4_read_54 : decode cX4_read 54 = .ok (.bipush 59, 2) := by decide +kernel
theorem dX4_read_56 : decode cX4_read 56 = .ok (.if_icmp .ne 7, 3) := by decide +kernel
theorem dX4_read_59 : decode cX4_read 59 = .ok (.iconst 1, 1) := by decide +kernel
theorem dX4_read_60 : decode cX4_read 60 = .ok (.goto 4, 3) := by decide +kernel
theorem dX4_read_63 : decode cX4_read 63 = .ok (.iconst 0, 1) := by decide +kernel
theorem dX4_read_64 : decode cX4_read 64 = .ok (.istore_n 2, 1) := by decide +kernel
theorem dX4_read_65 : decode cX4_read 65 = .ok (.iinc 3 1, 3) := by decide +kernel
theorem dX4_read_68 : decode cX4_read 68 = .ok (.goto (-56), 3) := by decide +kernel
theorem dX4_read_71 : decode cX4_read 71 = .ok (.aload_n 0, 1) := by decide +kernel
theorem dX4_read_72 : decode cX4_read 72 = .ok (.invokevirtual 28, 3) := by decide +kernel
theorem dX4_read_75 : decode cX4_read 75 = .ok (.ifCond .eq 16, 3) := by decide +kernel
theorem dX4_read_78 : decode cX4_read 78 = .ok (.aload_n 0, 1) := by decide +kernel
theorem dX4_read_79 : decode cX4_read 79 = .ok (.getfield 32, 3) := by decide +kernel
theorem dX4_read_82 : decode cX4_read 82 = .ok (.iconst (-1), 1) := by decide +kernel
theorem dX4_read_83 : decode cX4_read 83 = .ok (.if_icmp .eq 8, 3) := by decide +kernel
theorem dX4_read_86 : decode cX4_read 86 = .ok (.aload_n 0, 1) := by decide +kernel
theorem dX4_read_87 : decode cX4_read 87 = .ok (.iconst 0, 1) := by decide +kernel
theorem dX4_read_88 : decode cX4_read 88 = .ok (.invokevirtual 36, 3) := by decide +kernel
theorem dX4_read_91 : decode cX4_read 91 = .ok (.aload_n 0, 1) := by decide +kernel
theorem dX4_read_92 : decode cX4_read 92 = .ok (.getfield 40, 3) := by decide +kernel
theorem dX4_read_95 : decode cX4_read 95 = .ok (.ireturn, 1) := by decide +kernel
theorem dX4_readClause_0 : decode cX4_readClause 0 = .ok (.aload_n 0, 1) := by decide +kernel
theorem dX4_readClause_1 : decode cX4_readClause 1 = .ok (.getfield 32, 3) := by decide +kernel
theorem dX4_readClause_4 : decode cX4_readClause 4 = .ok (.istore_n 3, 1) := by decide +kernel
theorem dX4_readClause_5 : decode cX4_readClause 5 = .ok (.iload_n 3, 1) := by decide +kernel
theorem dX4_readClause_6 : decode cX4_readClause 6 = .ok (.sipush 317, 3) := by decide +kernel
theorem dX4_readClause_9 : decode cX4_readClause 9 = .ok (.if_icmp .eq 32, 3) := by decide +kernel
theorem dX4_readClause_12 : decode cX4_readClause 12 = .ok (.iload_n 3, 1) := by decide +kernel
theorem dX4_readClause_13 : decode cX4_readClause 13 = .ok (.sipush 300, 3) := by decide +kernel
theorem dX4_readClause_16 : decode cX4_readClause 16 = .ok (.if_icmp .eq 25, 3) := by decide +kernel
theorem dX4_readClause_19 : decode cX4_readClause 19 = .ok (.iload_n 3, 1) := by decide +kernel
theorem dX4_readClause_20 : decode cX4_readClause 20 = .ok (.sipush 318, 3) := by decide +kernel
theorem dX4_readClause_23 : decode cX4_readClause 23 = .ok (.if_icmp .eq 18, 3) := by decide +kernel
theorem dX4_readClause_26 : decode cX4_readClause 26 = .ok (.iload_n 3, 1) := by decide +kernel
theorem dX4_readClause_27 : decode cX4_readClause 27 = .ok (.sipush 319, 3) := by decide +kernel
theorem dX4_readClause_30 : decode cX4_readClause 30 = .ok (.if_icmp .eq 11, 3) := by decide +kernel
theorem dX4_readClause_33 : decode cX4_readClause 33 = .ok (.aload_n 0, 1) := by decide +kernel
theorem dX4_readClause_34 : decode cX4_readClause 34 = .ok (.iconst 0, 1) := by decide +kernel
theorem dX4_readClause_35 : decode cX4_readClause 35 = .ok (.invokevirtual 36, 3) := by decide +kernel
theorem dX4_readClause_38 : decode cX4_readClause 38 = .ok (.goto 84, 3) := by decide +kernel
theorem dX4_readClause_41 : decode cX4_readClause 41 = .ok (.iload_n 2, 1) := by decide +kernel
theorem dX4_readClause_42 : decode cX4_readClause 42 = .ok (.bipush 40, 2) := by decide +kernel
theorem dX4_readClause_44 : decode cX4_readClause 44 = .ok (.if_icmp .ge 20, 3) := by decide +kernel
theorem dX4_readClause_47 : decode cX4_readClause 47 = .ok (.iload_n 3, 1) := by decide +kernel
theorem dX4_readClause_48 : decode cX4_readClause 48 = .ok (.aload_n 1, 1) := by decide +kernel
theorem dX4_readClause_49 : decode cX4_readClause 49 = .ok (.iload_n 2, 1) := by decide +kernel
theorem dX4_readClause_50 : decode cX4_readClause 50 = .ok (.ifCond .ne 7, 3) := by decide +kernel
theorem dX4_readClause_53 : decode cX4_readClause 53 = .ok (.iconst 1, 1) := by decide +kernel
theorem dX4_readClause_54 : decode cX4_readClause 54 = .ok (.goto 4, 3) := by decide +kernel
theorem dX4_readClause_57 : decode cX4_readClause 57 = .ok (.iconst 0, 1) := by decide +kernel
theorem dX4_readClause_58 : decode cX4_readClause 58 = .ok (.invokestatic 43, 3) := by decide +kernel
theorem dX4_readClause_61 : decode cX4_readClause 61 = .ok (.ifCond .ne 11, 3) := by decide +kernel
theorem dX4_readClause_64 : decode cX4_readClause 64 = .ok (.aload_n 0, 1) := by decide +kernel
theorem dX4_readClause_65 : decode cX4_readClause 65 = .ok (.iconst 4, 1) := by decide +kernel
theorem dX4_readClause_66 : decode cX4_readClause 66 = .ok (.invokevirtual 36, 3) := by decide +kernel
theorem dX4_readClause_69 : decode cX4_readClause 69 = .ok (.goto 53, 3) := by decide +kernel
theorem dX4_readClause_72 : decode cX4_readClause 72 = .ok (.iload_n 3, 1) := by decide +kernel
theorem dX4_readClause_73 : decode cX4_readClause 73 = .ok (.sipush 317, 3) := by decide +kernel
theorem dX4_readClause_76 : decode cX4_readClause 76 = .ok (.if_icmp .ne 11, 3) := by decide +kernel
theorem dX4_readClause_79 : decode cX4_readClause 79 = .ok (.aload_n 0, 1) := by decide +kernel
theorem dX4_readClause_80 : decode cX4_readClause 80 = .ok (.aload_n 1, 1) := by decide +kernel
theorem dX4_readClause_81 : decode cX4_readClause 81 = .ok (.invokestatic 47, 3) := by decide +kernel
theorem dX4_readClause_84 : decode cX4_readClause 84 = .ok (.goto 38, 3) := by decide +kernel
theorem dX4_readClause_87 : decode cX4_readClause 87 = .ok (.iload_n 3, 1) := by decide +kernel
theorem dX4_readClause_88 : decode cX4_readClause 88 = .ok (.sipush 300, 3) := by decide +kernel
theorem dX4_readClause_91 : decode cX4_readClause 91 = .ok (.if_icmp .ne 11, 3) := by decide +kernel
theorem dX4_readClause_94 : decode cX4_readClause 94 = .ok (.aload_n 0, 1) := by decide +kernel
theorem dX4_readClause_95 : decode cX4_readClause 95 = .ok (.aload_n 1, 1) := by decide +kernel
theorem dX4_readClause_96 : decode cX4_readClause 96 = .ok (.invokestatic 51, 3) := by decide +kernel
theorem dX4_readClause_99 : decode cX4_readClause 99 = .ok (.goto 23, 3) := by decide +kernel
theorem dX4_readClause_102 : decode cX4_readClause 102 = .ok (.iload_n 3, 1) := by decide +kernel
theorem dX4_readClause_103 : decode cX4_readClause 103 = .ok (.sipush 318, 3) := by decide +kernel
theorem dX4_readClause_106 : decode cX4_readClause 106 = .ok (.if_icmp .ne 11, 3) := by decide +kernel
theorem dX4_readClause_109 : decode cX4_readClause 109 = .ok (.aload_n 0, 1) := by decide +kernel
theorem dX4_readClause_110 : decode cX4_readClause 110 = .ok (.aload_n 1, 1) := by decide +kernel
theorem dX4_readClause_111 : decode cX4_readClause 111 = .ok (.invokestatic 54, 3) := by decide +kernel
theorem dX4_readClause_114 : decode cX4_readClause 114 = .ok (.goto 8, 3) := by decide +kernel
theorem dX4_readClause_117 : decode cX4_readClause 117 = .ok (.aload_n 0, 1) := by decide +kernel
theorem dX4_readClause_118 : decode cX4_readClause 118 = .ok (.aload_n 1, 1) := by decide +kernel
theorem dX4_readClause_119 : decode cX4_readClause 119 = .ok (.invokestatic 57, 3) := by decide +kernel
theorem dX4_readClause_122 : decode cX4_readClause 122 = .ok (.return_, 1) := by decide +kernel
theorem dX4_mayStand_0 : decode cX4_mayStand 0 = .ok (.iload_n 0, 1) := by decide +kernel
theorem dX4_mayStand_1 : decode cX4_mayStand 1 = .ok (.lookupswitch 74 #[(300, 37), (317, 35), (318, 56)], 35) := by decide +kernel
theorem dX4_mayStand_36 : decode cX4_mayStand 36 = .ok (.iload_n 2, 1) := by decide +kernel
theorem dX4_mayStand_37 : decode cX4_mayStand 37 = .ok (.ireturn, 1) := by decide +kernel
theorem dX4_mayStand_38 : decode cX4_mayStand 38 = .ok (.iload_n 2, 1) := by decide +kernel
theorem dX4_mayStand_39 : decode cX4_mayStand 39 = .ok (.ifCond .ne 16, 3) := by decide +kernel
theorem dX4_mayStand_42 : decode cX4_mayStand 42 = .ok (.aload_n 1, 1) := by decide +kernel
theorem dX4_mayStand_43 : decode cX4_mayStand 43 = .ok (.getfield 60, 3) := by decide +kernel
theorem dX4_mayStand_46 : decode cX4_mayStand 46 = .ok (.bipush 6, 2) := by decide +kernel
theorem dX4_mayStand_48 : decode cX4_mayStand 48 = .ok (.if_icmp .ge 7, 3) := by decide +kernel
theorem dX4_mayStand_51 : decode cX4_mayStand 51 = .ok (.iconst 1, 1) := by decide +kernel
theorem dX4_mayStand_52 : decode cX4_mayStand 52 = .ok (.goto 4, 3) := by decide +kernel
theorem dX4_mayStand_55 : decode cX4_mayStand 55 = .ok (.iconst 0, 1) := by decide +kernel
theorem dX4_mayStand_56 : decode cX4_mayStand 56 = .ok (.ireturn, 1) := by decide +kernel
theorem dX4_mayStand_57 : decode cX4_mayStand 57 = .ok (.iload_n 2, 1) := by decide +kernel
theorem dX4_mayStand_58 : decode cX4_mayStand 58 = .ok (.ifCond .ne 15, 3) := by decide +kernel
theorem dX4_mayStand_61 : decode cX4_mayStand 61 = .ok (.aload_n 1, 1) := by decide +kernel
theorem dX4_mayStand_62 : decode cX4_mayStand 62 = .ok (.getfield 63, 3) := by decide +kernel
theorem dX4_mayStand_65 : decode cX4_mayStand 65 = .ok (.iconst 4, 1) := by decide +kernel
theorem dX4_mayStand_66 : decode cX4_mayStand 66 = .ok (.if_icmp .ge 7, 3) := by decide +kernel
theorem dX4_mayStand_69 : decode cX4_mayStand 69 = .ok (.iconst 1, 1) := by decide +kernel
theorem dX4_mayStand_70 : decode cX4_mayStand 70 = .ok (.goto 4, 3) := by decide +kernel
theorem dX4_mayStand_73 : decode cX4_mayStand 73 = .ok (.iconst 0, 1) := by decide +kernel
theorem dX4_mayStand_74 : decode cX4_mayStand 74 = .ok (.ireturn, 1) := by decide +kernel
theorem dX4_mayStand_75 : decode cX4_mayStand 75 = .ok (.iload_n 2, 1) := by decide +kernel
theorem dX4_mayStand_76 : decode cX4_mayStand 76 = .ok (.ifCond .ne 15, 3) := by decide +kernel
theorem dX4_mayStand_79 : decode cX4_mayStand 79 = .ok (.aload_n 1, 1) := by decide +kernel
theorem dX4_mayStand_80 : decode cX4_mayStand 80 = .ok (.getfield 66, 3) := by decide +kernel
theorem dX4_mayStand_83 : decode cX4_mayStand 83 = .ok (.iconst 4, 1) := by decide +kernel
theorem dX4_mayStand_84 : decode cX4_mayStand 84 = .ok (.if_icmp .ge 7, 3) := by decide +kernel
theorem dX4_mayStand_87 : decode cX4_mayStand 87 = .ok (.iconst 1, 1) := by decide +kernel
theorem dX4_mayStand_88 : decode cX4_mayStand 88 = .ok (.goto 4, 3) := by decide +kernel
theorem dX4_mayStand_91 : decode cX4_mayStand 91 = .ok (.iconst 0, 1) := by decide +kernel
theorem dX4_mayStand_92 : decode cX4_mayStand 92 = .ok (.ireturn, 1) := by decide +kernel
theorem dX4_readPlateau_0 : decode cX4_readPlateau 0 = .ok (.aload_n 1, 1) := by decide +kernel
theorem dX4_readPlateau_1 : decode cX4_readPlateau 1 = .ok (.aload_n 0, 1) := by decide +kernel
theorem dX4_readPlateau_2 : decode cX4_readPlateau 2 = .ok (.iconst 2, 1) := by decide +kernel
theorem dX4_readPlateau_3 : decode cX4_readPlateau 3 = .ok (.bipush 6, 2) := by decide +kernel
theorem dX4_readPlateau_5 : decode cX4_readPlateau 5 = .ok (.invokestatic 69, 3) := by decide +kernel
theorem dX4_readPlateau_8 : decode cX4_readPlateau 8 = .ok (.putfield 73, 3) := by decide +kernel
theorem dX4_readPlateau_11 : decode cX4_readPlateau 11 = .ok (.aload_n 1, 1) := by decide +kernel
theorem dX4_readPlateau_12 : decode cX4_readPlateau 12 = .ok (.aload_n 0, 1) := by decide +kernel
theorem dX4_readPlateau_13 : decode cX4_readPlateau 13 = .ok (.iconst 1, 1) := by decide +kernel
theorem dX4_readPlateau_14 : decode cX4_readPlateau 14 = .ok (.bipush 9, 2) := by decide +kernel
theorem dX4_readPlateau_16 : decode cX4_readPlateau 16 = .ok (.invokestatic 69, 3) := by decide +kernel
theorem dX4_readPlateau_19 : decode cX4_readPlateau 19 = .ok (.putfield 76, 3) := by decide +kernel
theorem dX4_readPlateau_22 : decode cX4_readPlateau 22 = .ok (.return_, 1) := by decide +kernel
theorem dX4_readPerson_0 : decode cX4_readPerson 0 = .ok (.aload_n 1, 1) := by decide +kernel
theorem dX4_readPerson_1 : decode cX4_readPerson 1 = .ok (.getfield 60, 3) := by decide +kernel
theorem dX4_readPerson_4 : decode cX4_readPerson 4 = .ok (.istore_n 2, 1) := by decide +kernel
theorem dX4_readPerson_5 : decode cX4_readPerson 5 = .ok (.aload_n 1, 1) := by decide +kernel
theorem dX4_readPerson_6 : decode cX4_readPerson 6 = .ok (.getfield 79, 3) := by decide +kernel
theorem dX4_readPerson_9 : decode cX4_readPerson 9 = .ok (.iload_n 2, 1) := by decide +kernel
theorem dX4_readPerson_10 : decode cX4_readPerson 10 = .ok (.aload_n 0, 1) := by decide +kernel
theorem dX4_readPerson_11 : decode cX4_readPerson 11 = .ok (.iconst 0, 1) := by decide +kernel
theorem dX4_readPerson_12 : decode cX4_readPerson 12 = .ok (.aload_n 1, 1) := by decide +kernel
theorem dX4_readPerson_13 : decode cX4_readPerson 13 = .ok (.invokevirtual 83, 3) := by decide +kernel
theorem dX4_readPerson_16 : decode cX4_readPerson 16 = .ok (.iconst 1, 1) := by decide +kernel
theorem dX4_readPerson_17 : decode cX4_readPerson 17 = .ok (.isub, 1) := by decide +kernel
theorem dX4_readPerson_18 : decode cX4_readPerson 18 = .ok (.invokestatic 69, 3) := by decide +kernel
theorem dX4_readPerson_21 : decode cX4_readPerson 21 = .ok (.iastore, 1) := by decide +kernel
theorem dX4_readPerson_22 : decode cX4_readPerson 22 = .ok (.aload_n 1, 1) := by decide +kernel
theorem dX4_readPerson_23 : decode cX4_readPerson 23 = .ok (.getfield 87, 3) := by decide +kernel
theorem dX4_readPerson_26 : decode cX4_readPerson 26 = .ok (.iload_n 2, 1) := by decide +kernel
theorem dX4_readPerson_27 : decode cX4_readPerson 27 = .ok (.aload_n 0, 1) := by decide +kernel
theorem dX4_readPerson_28 : decode cX4_readPerson 28 = .ok (.iconst 0, 1) := by decide +kernel
theorem dX4_readPerson_29 : decode cX4_readPerson 29 = .ok (.bipush 20, 2) := by decide +kernel
theorem dX4_readPerson_31 : decode cX4_readPerson 31 = .ok (.invokestatic 69, 3) := by decide +kernel
theorem dX4_readPerson_34 : decode cX4_readPerson 34 = .ok (.iastore, 1) := by decide +kernel
theorem dX4_readPerson_35 : decode cX4_readPerson 35 = .ok (.aload_n 1, 1) := by decide +kernel
theorem dX4_readPerson_36 : decode cX4_readPerson 36 = .ok (.getfield 90, 3) := by decide +kernel
theorem dX4_readPerson_39 : decode cX4_readPerson 39 = .ok (.iload_n 2, 1) := by decide +kernel
theorem dX4_readPerson_40 : decode cX4_readPerson 40 = .ok (.aload_n 0, 1) := by decide +kernel
theorem dX4_readPerson_41 : decode cX4_readPerson 41 = .ok (.iconst 0, 1) := by decide +kernel
theorem dX4_readPerson_42 : decode cX4_readPerson 42 = .ok (.iconst 3, 1) := by decide +kernel
theorem dX4_readPerson_43 : decode cX4_readPerson 43 = .ok (.invokestatic 69, 3) := by decide +kernel
theorem dX4_readPerson_46 : decode cX4_readPerson 46 = .ok (.iastore, 1) := by decide +kernel
theorem dX4_readPerson_47 : decode cX4_readPerson 47 = .ok (.aload_n 1, 1) := by decide +kernel
theorem dX4_readPerson_48 : decode cX4_readPerson 48 = .ok (.dup, 1) := by decide +kernel
theorem dX4_readPerson_49 : decode cX4_readPerson 49 = .ok (.getfield 60, 3) := by decide +kernel
theorem dX4_readPerson_52 : decode cX4_readPerson 52 = .ok (.iconst 1, 1) := by decide +kernel
theorem dX4_readPerson_53 : decode cX4_readPerson 53 = .ok (.iadd, 1) := by decide +kernel
theorem dX4_readPerson_54 : decode cX4_readPerson 54 = .ok (.putfield 60, 3) := by decide +kernel
theorem dX4_readPerson_57 : decode cX4_readPerson 57 = .ok (.return_, 1) := by decide +kernel
theorem dX4_readMill_0 : decode cX4_readMill 0 = .ok (.aload_n 1, 1) := by decide +kernel
theorem dX4_readMill_1 : decode cX4_readMill 1 = .ok (.getfield 63, 3) := by decide +kernel
theorem dX4_readMill_4 : decode cX4_readMill 4 = .ok (.istore_n 2, 1) := by decide +kernel
theorem dX4_readMill_5 : decode cX4_readMill 5 = .ok (.aload_n 1, 1) := by decide +kernel
theorem dX4_readMill_6 : decode cX4_readMill 6 = .ok (.getfield 93, 3) := by decide +kernel
theorem dX4_readMill_9 : decode cX4_readMill 9 = .ok (.iload_n 2, 1) := by decide +kernel
theorem dX4_readMill_10 : decode cX4_readMill 10 = .ok (.aload_n 0, 1) := by decide +kernel
theorem dX4_readMill_11 : decode cX4_readMill 11 = .ok (.iconst 0, 1) := by decide +kernel
theorem dX4_readMill_12 : decode cX4_readMill 12 = .ok (.aload_n 1, 1) := by decide +kernel
theorem dX4_readMill_13 : decode cX4_readMill 13 = .ok (.invokevirtual 83, 3) := by decide +kernel
theorem dX4_readMill_16 : decode cX4_readMill 16 = .ok (.iconst 1, 1) := by decide +kernel
theorem dX4_readMill_17 : decode cX4_readMill 17 = .ok (.isub, 1) := by decide +kernel
theorem dX4_readMill_18 : decode cX4_readMill 18 = .ok (.invokestatic 69, 3) := by decide +kernel
theorem dX4_readMill_21 : decode cX4_readMill 21 = .ok (.iastore, 1) := by decide +kernel
theorem dX4_readMill_22 : decode cX4_readMill 22 = .ok (.aload_n 1, 1) := by decide +kernel
theorem dX4_readMill_23 : decode cX4_readMill 23 = .ok (.getfield 96, 3) := by decide +kernel
theorem dX4_readMill_26 : decode cX4_readMill 26 = .ok (.iload_n 2, 1) := by decide +kernel
theorem dX4_readMill_27 : decode cX4_readMill 27 = .ok (.aload_n 0, 1) := by decide +kernel
theorem dX4_readMill_28 : decode cX4_readMill 28 = .ok (.iconst 1, 1) := by decide +kernel
theorem dX4_readMill_29 : decode cX4_readMill 29 = .ok (.bipush 20, 2) := by decide +kernel
theorem dX4_readMill_31 : decode cX4_readMill 31 = .ok (.invokestatic 69, 3) := by decide +kernel
theorem dX4_readMill_34 : decode cX4_readMill 34 = .ok (.iastore, 1) := by decide +kernel
theorem dX4_readMill_35 : decode cX4_readMill 35 = .ok (.aload_n 1, 1) := by decide +kernel
theorem dX4_readMill_36 : decode cX4_readMill 36 = .ok (.dup, 1) := by decide +kernel
theorem dX4_readMill_37 : decode cX4_readMill 37 = .ok (.getfield 63, 3) := by decide +kernel
theorem dX4_readMill_40 : decode cX4_readMill 40 = .ok (.iconst 1, 1) := by decide +kernel
theorem dX4_readMill_41 : decode cX4_readMill 41 = .ok (.iadd, 1) := by decide +kernel
theorem dX4_readMill_42 : decode cX4_readMill 42 = .ok (.putfield 63, 3) := by decide +kernel
theorem dX4_readMill_45 : decode cX4_readMill 45 = .ok (.return_, 1) := by decide +kernel
theorem dX4_readRoof_0 : decode cX4_readRoof 0 = .ok (.aload_n 1, 1) := by decide +kernel
theorem dX4_readRoof_1 : decode cX4_readRoof 1 = .ok (.getfield 66, 3) := by decide +kernel
theorem dX4_readRoof_4 : decode cX4_readRoof 4 = .ok (.istore_n 2, 1) := by decide +kernel
theorem dX4_readRoof_5 : decode cX4_readRoof 5 = .ok (.aload_n 1, 1) := by decide +kernel
theorem dX4_readRoof_6 : decode cX4_readRoof 6 = .ok (.getfield 99, 3) := by decide +kernel
theorem dX4_readRoof_9 : decode cX4_readRoof 9 = .ok (.iload_n 2, 1) := by decide +kernel
theorem dX4_readRoof_10 : decode cX4_readRoof 10 = .ok (.aload_n 0, 1) := by decide +kernel
theorem dX4_readRoof_11 : decode cX4_readRoof 11 = .ok (.iconst 0, 1) := by decide +kernel
theorem dX4_readRoof_12 : decode cX4_readRoof 12 = .ok (.aload_n 1, 1) := by decide +kernel
theorem dX4_readRoof_13 : decode cX4_readRoof 13 = .ok (.invokevirtual 83, 3) := by decide +kernel
theorem dX4_readRoof_16 : decode cX4_readRoof 16 = .ok (.iconst 1, 1) := by decide +kernel
theorem dX4_readRoof_17 : decode cX4_readRoof 17 = .ok (.isub, 1) := by decide +kernel
theorem dX4_readRoof_18 : decode cX4_readRoof 18 = .ok (.invokestatic 69, 3) := by decide +kernel
theorem dX4_readRoof_21 : decode cX4_readRoof 21 = .ok (.iastore, 1) := by decide +kernel
theorem dX4_readRoof_22 : decode cX4_readRoof 22 = .ok (.aload_n 1, 1) := by decide +kernel
theorem dX4_readRoof_23 : decode cX4_readRoof 23 = .ok (.getfield 102, 3) := by decide +kernel
theorem dX4_readRoof_26 : decode cX4_readRoof 26 = .ok (.iload_n 2, 1) := by decide +kernel
theorem dX4_readRoof_27 : decode cX4_readRoof 27 = .ok (.aload_n 0, 1) := by decide +kernel
theorem dX4_readRoof_28 : decode cX4_readRoof 28 = .ok (.iconst 0, 1) := by decide +kernel
theorem dX4_readRoof_29 : decode cX4_readRoof 29 = .ok (.bipush 40, 2) := by decide +kernel
theorem dX4_readRoof_31 : decode cX4_readRoof 31 = .ok (.invokestatic 69, 3) := by decide +kernel
theorem dX4_readRoof_34 : decode cX4_readRoof 34 = .ok (.iastore, 1) := by decide +kernel
theorem dX4_readRoof_35 : decode cX4_readRoof 35 = .ok (.aload_n 1, 1) := by decide +kernel
theorem dX4_readRoof_36 : decode cX4_readRoof 36 = .ok (.dup, 1) := by decide +kernel
theorem dX4_readRoof_37 : decode cX4_readRoof 37 = .ok (.getfield 66, 3) := by decide +kernel
theorem dX4_readRoof_40 : decode cX4_readRoof 40 = .ok (.iconst 1, 1) := by decide +kernel
theorem dX4_readRoof_41 : decode cX4_readRoof 41 = .ok (.iadd, 1) := by decide +kernel
theorem dX4_readRoof_42 : decode cX4_readRoof 42 = .ok (.putfield 66, 3) := by decide +kernel
theorem dX4_readRoof_45 : decode cX4_readRoof 45 = .ok (.return_, 1) := by decide +kernel
theorem dX4_next_0 : decode cX4_next 0 = .ok (.aload_n 0, 1) := by decide +kernel
theorem dX4_next_1 : decode cX4_next 1 = .ok (.invokevirtual 28, 3) := by decide +kernel
theorem dX4_next_4 : decode cX4_next 4 = .ok (.ifCond .eq 42, 3) := by decide +kernel
theorem dX4_next_7 : decode cX4_next 7 = .ok (.aload_n 0, 1) := by decide +kernel
theorem dX4_next_8 : decode cX4_next 8 = .ok (.invokevirtual 19, 3) := by decide +kernel
theorem dX4_next_11 : decode cX4_next 11 = .ok (.aload_n 0, 1) := by decide +kernel
theorem dX4_next_12 : decode cX4_next 12 = .ok (.getfield 32, 3) := by decide +kernel
theorem dX4_next_15 : decode cX4_next 15 = .ok (.sipush 256, 3) := by decide +kernel
theorem dX4_next_18 : decode cX4_next 18 = .ok (.if_icmp .eq 11, 3) := by decide +kernel
theorem dX4_next_21 : decode cX4_next 21 = .ok (.aload_n 0, 1) := by decide +kernel
theorem dX4_next_22 : decode cX4_next 22 = .ok (.iconst 0, 1) := by decide +kernel
theorem dX4_next_23 : decode cX4_next 23 = .ok (.invokevirtual 36, 3) := by decide +kernel
theorem dX4_next_26 : decode cX4_next 26 = .ok (.goto 20, 3) := by decide +kernel
theorem dX4_next_29 : decode cX4_next 29 = .ok (.aload_n 0, 1) := by decide +kernel
theorem dX4_next_30 : decode cX4_next 30 = .ok (.getfield 105, 3) := by decide +kernel
theorem dX4_next_33 : decode cX4_next 33 = .ok (.iload_n 1, 1) := by decide +kernel
theorem dX4_next_34 : decode cX4_next 34 = .ok (.iload_n 2, 1) := by decide +kernel
theorem dX4_next_35 : decode cX4_next 35 = .ok (.invokestatic 108, 3) := by decide +kernel
theorem dX4_next_38 : decode cX4_next 38 = .ok (.ifCond .ne 8, 3) := by decide +kernel
theorem dX4_next_41 : decode cX4_next 41 = .ok (.aload_n 0, 1) := by decide +kernel
theorem dX4_next_42 : decode cX4_next 42 = .ok (.iconst 1, 1) := by decide +kernel
theorem dX4_next_43 : decode cX4_next 43 = .ok (.invokevirtual 36, 3) := by decide +kernel
theorem dX4_next_46 : decode cX4_next 46 = .ok (.aload_n 0, 1) := by decide +kernel
theorem dX4_next_47 : decode cX4_next 47 = .ok (.invokevirtual 28, 3) := by decide +kernel
theorem dX4_next_50 : decode cX4_next 50 = .ok (.ifCond .eq 10, 3) := by decide +kernel
theorem dX4_next_53 : decode cX4_next 53 = .ok (.aload_n 0, 1) := by decide +kernel
theorem dX4_next_54 : decode cX4_next 54 = .ok (.getfield 105, 3) := by decide +kernel
theorem dX4_next_57 : decode cX4_next 57 = .ok (.goto 4, 3) := by decide +kernel
theorem dX4_next_60 : decode cX4_next 60 = .ok (.iload_n 1, 1) := by decide +kernel
theorem dX4_next_61 : decode cX4_next 61 = .ok (.ireturn, 1) := by decide +kernel
theorem dX5_init_0 : decode cX5_init 0 = .ok (.aload_n 0, 1) := by decide +kernel
theorem dX5_init_1 : decode cX5_init 1 = .ok (.invokespecial 3, 3) := by decide +kernel
theorem dX5_init_4 : decode cX5_init 4 = .ok (.aload_n 0, 1) := by decide +kernel
theorem dX5_init_5 : decode cX5_init 5 = .ok (.sipush 400, 3) := by decide +kernel
theorem dX5_init_8 : decode cX5_init 8 = .ok (.newarray .int, 2) := by decide +kernel
theorem dX5_init_10 : decode cX5_init 10 = .ok (.putfield 9, 3) := by decide +kernel
theorem dX5_init_13 : decode cX5_init 13 = .ok (.aload_n 0, 1) := by decide +kernel
theorem dX5_init_14 : decode cX5_init 14 = .ok (.sipush 400, 3) := by decide +kernel
theorem dX5_init_17 : decode cX5_init 17 = .ok (.newarray .int, 2) := by decide +kernel
theorem dX5_init_19 : decode cX5_init 19 = .ok (.putfield 15, 3) := by decide +kernel
theorem dX5_init_22 : decode cX5_init 22 = .ok (.aload_n 0, 1) := by decide +kernel
theorem dX5_init_23 : decode cX5_init 23 = .ok (.iconst 0, 1) := by decide +kernel
theorem dX5_init_24 : decode cX5_init 24 = .ok (.putfield 18, 3) := by decide +kernel
theorem dX5_init_27 : decode cX5_init 27 = .ok (.aload_n 0, 1) := by decide +kernel
theorem dX5_init_28 : decode cX5_init 28 = .ok (.iconst 0, 1) := by decide +kernel
theorem dX5_init_29 : decode cX5_init 29 = .ok (.putfield 22, 3) := by decide +kernel
theorem dX5_init_32 : decode cX5_init 32 = .ok (.aload_n 0, 1) := by decide +kernel
theorem dX5_init_33 : decode cX5_init 33 = .ok (.bipush 12, 2) := by decide +kernel
theorem dX5_init_35 : decode cX5_init 35 = .ok (.newarray .int, 2) := by decide +kernel
theorem dX5_init_37 : decode cX5_init 37 = .ok (.putfield 25, 3) := by decide +kernel
theorem dX5_init_40 : decode cX5_init 40 = .ok (.aload_n 0, 1) := by decide +kernel
theorem dX5_init_41 : decode cX5_init 41 = .ok (.bipush 12, 2) := by decide +kernel
theorem dX5_init_43 : decode cX5_init 43 = .ok (.newarray .int, 2) := by decide +kernel
theorem dX5_init_45 : decode cX5_init 45 = .ok (.putfield 28, 3) := by decide +kernel
theorem dX5_init_48 : decode cX5_init 48 = .ok (.aload_n 0, 1) := by decide +kernel
theorem dX5_init_49 : decode cX5_init 49 = .ok (.bipush 12, 2) := by decide +kernel
theorem dX5_init_51 : decode cX5_init 51 = .ok (.newarray .int, 2) := by decide +kernel
theorem dX5_init_53 : decode cX5_init 53 = .ok (.putfield 31, 3) := by decide +kernel
theorem dX5_init_56 : decode cX5_init 56 = .ok (.aload_n 0, 1) := by decide +kernel
theorem dX5_init_57 : decode cX5_init 57 = .ok (.bipush 60, 2) := by decide +kernel
theorem dX5_init_59 : decode cX5_init 59 = .ok (.newarray .long, 2) := by decide +kernel
theorem dX5_init_61 : decode cX5_init 61 = .ok (.putfield 34, 3) := by decide +kernel
theorem dX5_init_64 : decode cX5_init 64 = .ok (.return_, 1) := by decide +kernel
theorem dX5_clear_0 : decode cX5_clear 0 = .ok (.aload_n 0, 1) := by decide +kernel
theorem dX5_clear_1 : decode cX5_clear 1 = .ok (.iconst 0, 1) := by decide +kernel
theorem dX5_clear_2 : decode cX5_clear 2 = .ok (.putfield 18, 3) := by decide +kernel
theorem dX5_clear_5 : decode cX5_clear 5 = .ok (.aload_n 0, 1) := by decide +kernel
theorem dX5_clear_6 : decode cX5_clear 6 = .ok (.iconst 0, 1) := by decide +kernel
theorem dX5_clear_7 : decode cX5_clear 7 = .ok (.putfield 22, 3) := by decide +kernel
theorem dX5_clear_10 : decode cX5_clear 10 = .ok (.return_, 1) := by decide +kernel
theorem dX5_add_0 : decode cX5_add 0 = .ok (.aload_n 0, 1) := by decide +kernel
theorem dX5_add_1 : decode cX5_add 1 = .ok (.getfield 18, 3) := by decide +kernel
theorem dX5_add_4 : decode cX5_add 4 = .ok (.sipush 400, 3) := by decide +kernel
theorem dX5_add_7 : decode cX5_add 7 = .ok (.if_icmp .ge 33, 3) := by decide +kernel
theorem dX5_add_10 : decode cX5_add 10 = .ok (.aload_n 0, 1) := by decide +kernel
theorem dX5_add_11 : decode cX5_add 11 = .ok (.getfield 9, 3) := by decide +kernel
theorem dX5_add_14 : decode cX5_add 14 = .ok (.aload_n 0, 1) := by decide +kernel
theorem dX5_add_15 : decode cX5_add 15 = .ok (.getfield 18, 3) := by decide +kernel
theorem dX5_add_18 : decode cX5_add 18 = .ok (.iload_n 1, 1) := by decide +kernel
theorem dX5_add_19 : decode cX5_add 19 = .ok (.iastore, 1) := by decide +kernel
theorem dX5_add_20 : decode cX5_add 20 = .ok (.aload_n 0, 1) := by decide +kernel
theorem dX5_add_21 : decode cX5_add 21 = .ok (.getfield 15, 3) := by decide +kernel
theorem dX5_add_24 : decode cX5_add 24 = .ok (.aload_n 0, 1) := by decide +kernel
theorem dX5_add_25 : decode cX5_add 25 = .ok (.getfield 18, 3) := by decide +kernel
theorem dX5_add_28 : decode cX5_add 28 = .ok (.iload_n 2, 1) := by decide +kernel
theorem dX5_add_29 : decode cX5_add 29 = .ok (.iastore, 1) := by decide +kernel
theorem dX5_add_30 : decode cX5_add 30 = .ok (.aload_n 0, 1) := by decide +kernel
theorem dX5_add_31 : decode cX5_add 31 = .ok (.dup, 1) := by decide +kernel
theorem dX5_add_32 : decode cX5_add 32 = .ok (.getfield 18, 3) := by decide +kernel
theorem dX5_add_35 : decode cX5_add 35 = .ok (.iconst 1, 1) := by decide +kernel
theorem dX5_add_36 : decode cX5_add 36 = .ok (.iadd, 1) := by decide +kernel
theorem dX5_add_37 : decode cX5_add 37 = .ok (.putfield 18, 3) := by decide +kernel
theorem dX5_add_40 : decode cX5_add 40 = .ok (.return_, 1) := by decide +kernel
theorem dX5_addClause_0 : decode cX5_addClause 0 = .ok (.aload_n 0, 1) := by decide +kernel
theorem dX5_addClause_1 : decode cX5_addClause 1 = .ok (.getfield 22, 3) := by decide +kernel
theorem dX5_addClause_4 : decode cX5_addClause 4 = .ok (.bipush 12, 2) := by decide +kernel
theorem dX5_addClause_6 : decode cX5_addClause 6 = .ok (.if_icmp .ge 46, 3) := by decide +kernel
theorem dX5_addClause_9 : decode cX5_addClause 9 = .ok (.aload_n 0, 1) := by decide +kernel
theorem dX5_addClause_10 : decode cX5_addClause 10 = .ok (.getfield 25, 3) := by decide +kernel
theorem dX5_addClause_13 : decode cX5_addClause 13 = .ok (.aload_n 0, 1) := by decide +kernel
theorem dX5_addClause_14 : decode cX5_addClause 14 = .ok (.getfield 22, 3) := by decide +kernel
theorem dX5_addClause_17 : decode cX5_addClause 17 = .ok (.iload_n 1, 1) := by decide +kernel
theorem dX5_addClause_18 : decode cX5_addClause 18 = .ok (.iastore, 1) := by decide +kernel
theorem dX5_addClause_19 : decode cX5_addClause 19 = .ok (.aload_n 0, 1) := by decide +kernel
theorem dX5_addClause_20 : decode cX5_addClause 20 = .ok (.getfield 28, 3) := by decide +kernel
theorem dX5_addClause_23 : decode cX5_addClause 23 = .ok (.aload_n 0, 1) := by decide +kernel
theorem dX5_addClause_24 : decode cX5_addClause 24 = .ok (.getfield 22, 3) := by decide +kernel
theorem dX5_addClause_27 : decode cX5_addClause 27 = .ok (.iload_n 2, 1) := by decide +kernel
theorem dX5_addClause_28 : decode cX5_addClause 28 = .ok (.iastore, 1) := by decide +kernel
theorem dX5_addClause_29 : decode cX5_addClause 29 = .ok (.aload_n 0, 1) := by decide +kernel
theorem dX5_addClause_30 : decode cX5_addClause 30 = .ok (.getfield 31, 3) := by decide +kernel
theorem dX5_addClause_33 : decode cX5_addClause 33 = .ok (.aload_n 0, 1) := by decide +kernel
theorem dX5_addClause_34 : decode cX5_addClause 34 = .ok (.getfield 22, 3) := by decide +kernel
theorem dX5_addClause_37 : decode cX5_addClause 37 = .ok (.aload_n 0, 1) := by decide +kernel
theorem dX5_addClause_38 : decode cX5_addClause 38 = .ok (.getfield 18, 3) := by decide +kernel
theorem dX5_addClause_41 : decode cX5_addClause 41 = .ok (.iastore, 1) := by decide +kernel
theorem dX5_addClause_42 : decode cX5_addClause 42 = .ok (.aload_n 0, 1) := by decide +kernel
theorem dX5_addClause_43 : decode cX5_addClause 43 = .ok (.dup, 1) := by decide +kernel
theorem dX5_addClause_44 : decode cX5_addClause 44 = .ok (.getfield 22, 3) := by decide +kernel
theorem dX5_addClause_47 : decode cX5_addClause 47 = .ok (.iconst 1, 1) := by decide +kernel
theorem dX5_addClause_48 : decode cX5_addClause 48 = .ok (.iadd, 1) := by decide +kernel
theorem dX5_addClause_49 : decode cX5_addClause 49 = .ok (.putfield 22, 3) := by decide +kernel
theorem dX5_addClause_52 : decode cX5_addClause 52 = .ok (.return_, 1) := by decide +kernel
theorem dX5_says_0 : decode cX5_says 0 = .ok (.iconst 0, 1) := by decide +kernel
theorem dX5_says_1 : decode cX5_says 1 = .ok (.istore_n 2, 1) := by decide +kernel
theorem dX5_says_2 : decode cX5_says 2 = .ok (.iload_n 2, 1) := by decide +kernel
theorem dX5_says_3 : decode cX5_says 3 = .ok (.aload_n 0, 1) := by decide +kernel
theorem dX5_says_4 : decode cX5_says 4 = .ok (.getfield 22, 3) := by decide +kernel
theorem dX5_says_7 : decode cX5_says 7 = .ok (.if_icmp .ge 74, 3) := by decide +kernel
theorem dX5_says_10 : decode cX5_says 10 = .ok (.aload_n 0, 1) := by decide +kernel
theorem dX5_says_11 : decode cX5_says 11 = .ok (.getfield 28, 3) := by decide +kernel
theorem dX5_says_14 : decode cX5_says 14 = .ok (.iload_n 2, 1) := by decide +kernel
theorem dX5_says_15 : decode cX5_says 15 = .ok (.iaload, 1) := by decide +kernel
theorem dX5_says_16 : decode cX5_says 16 = .ok (.aload_n 0, 1) := by decide +kernel
theorem dX5_says_17 : decode cX5_says 17 = .ok (.getfield 31, 3) := by decide +kernel
theorem dX5_says_20 : decode cX5_says 20 = .ok (.iload_n 2, 1) := by decide +kernel
theorem dX5_says_21 : decode cX5_says 21 = .ok (.iaload, 1) := by decide +kernel
theorem dX5_says_22 : decode cX5_says 22 = .ok (.if_icmp .eq 25, 3) := by decide +kernel
theorem dX5_says_25 : decode cX5_says 25 = .ok (.aload_n 0, 1) := by decide +kernel
theorem dX5_says_26 : decode cX5_says 26 = .ok (.aload_n 0, 1) := by decide +kernel
theorem dX5_says_27 : decode cX5_says 27 = .ok (.getfield 28, 3) := by decide +kernel
theorem dX5_says_30 : decode cX5_says 30 = .ok (.iload_n 2, 1) := by decide +kernel
theorem dX5_says_31 : decode cX5_says 31 = .ok (.iaload, 1) := by decide +kernel
theorem dX5_says_32 : decode cX5_says 32 = .ok (.aload_n 0, 1) := by decide +kernel
theorem dX5_says_33 : decode cX5_says 33 = .ok (.getfield 31, 3) := by decide +kernel
theorem dX5_says_36 : decode cX5_says 36 = .ok (.iload_n 2, 1) := by decide +kernel
theorem dX5_says_37 : decode cX5_says 37 = .ok (.iaload, 1) := by decide +kernel
theorem dX5_says_38 : decode cX5_says 38 = .ok (.aload_n 1, 1) := by decide +kernel
theorem dX5_says_39 : decode cX5_says 39 = .ok (.invokevirtual 38, 3) := by decide +kernel
theorem dX5_says_42 : decode cX5_says 42 = .ok (.lconst 0, 1) := by decide +kernel
theorem dX5_says_43 : decode cX5_says 43 = .ok (.lcmp, 1) := by decide +kernel
theorem dX5_says_44 : decode cX5_says 44 = .ok (.ifCond .eq 31, 3) := by decide +kernel
theorem dX5_says_47 : decode cX5_says 47 = .ok (.aload_n 0, 1) := by decide +kernel
theorem dX5_says_48 : decode cX5_says 48 = .ok (.aload_n 0, 1) := by decide +kernel
theorem dX5_says_49 : decode cX5_says 49 = .ok (.getfield 25, 3) := by decide +kernel
theorem dX5_says_52 : decode cX5_says 52 = .ok (.iload_n 2, 1) := by decide +kernel
theorem dX5_says_53 : decode cX5_says 53 = .ok (.iaload, 1) := by decide +kernel
theorem dX5_says_54 : decode cX5_says 54 = .ok (.aload_n 0, 1) := by decide +kernel
theorem dX5_says_55 : decode cX5_says 55 = .ok (.getfield 28, 3) := by decide +kernel
theorem dX5_says_58 : decode cX5_says 58 = .ok (.iload_n 2, 1) := by decide +kernel
theorem dX5_says_59 : decode cX5_says 59 = .ok (.iaload, 1) := by decide +kernel
theorem dX5_says_60 : decode cX5_says 60 = .ok (.aload_n 1, 1) := by decide +kernel
theorem dX5_says_61 : decode cX5_says 61 = .ok (.invokevirtual 38, 3) := by decide +kernel
theorem dX5_says_64 : decode cX5_says 64 = .ok (.lconst 0, 1) := by decide +kernel
theorem dX5_says_65 : decode cX5_says 65 = .ok (.lcmp, 1) := by decide +kernel
theorem dX5_says_66 : decode cX5_says 66 = .ok (.ifCond .le 7, 3) := by decide +kernel
theorem dX5_says_69 : decode cX5_says 69 = .ok (.iconst 1, 1) := by decide +kernel
theorem dX5_says_70 : decode cX5_says 70 = .ok (.goto 4, 3) := by decide +kernel
theorem dX5_says_73 : decode cX5_says 73 = .ok (.iconst 0, 1) := by decide +kernel
theorem dX5_says_74 : decode cX5_says 74 = .ok (.ireturn, 1) := by decide +kernel
theorem dX5_says_75 : decode cX5_says 75 = .ok (.iinc 2 1, 3) := by decide +kernel
theorem dX5_says_78 : decode cX5_says 78 = .ok (.goto (-76), 3) := by decide +kernel
theorem dX5_says_81 : decode cX5_says 81 = .ok (.iconst 0, 1) := by decide +kernel
theorem dX5_says_82 : decode cX5_says 82 = .ok (.ireturn, 1) := by decide +kernel
theorem dX5_worth_0 : decode cX5_worth 0 = .ok (.iconst 0, 1) := by decide +kernel
theorem dX5_worth_1 : decode cX5_worth 1 = .ok (.istore 4, 2) := by decide +kernel
theorem dX5_worth_3 : decode cX5_worth 3 = .ok (.iload_n 1, 1) := by decide +kernel
theorem dX5_worth_4 : decode cX5_worth 4 = .ok (.istore 5, 2) := by decide +kernel
theorem dX5_worth_6 : decode cX5_worth 6 = .ok (.iload 5, 2) := by decide +kernel
theorem dX5_worth_8 : decode cX5_worth 8 = .ok (.iload_n 2, 1) := by decide +kernel
theorem dX5_worth_9 : decode cX5_worth 9 = .ok (.if_icmp .ge 164, 3) := by decide +kernel
theorem dX5_worth_12 : decode cX5_worth 12 = .ok (.iload 5, 2) := by decide +kernel
theorem dX5_worth_14 : decode cX5_worth 14 = .ok (.sipush 400, 3) := by decide +kernel
theorem dX5_worth_17 : decode cX5_worth 17 = .ok (.if_icmp .ge 156, 3) := by decide +kernel
theorem dX5_worth_20 : decode cX5_worth 20 = .ok (.aload_n 0, 1) := by decide +kernel
theorem dX5_worth_21 : decode cX5_worth 21 = .ok (.getfield 9, 3) := by decide +kernel
theorem dX5_worth_24 : decode cX5_worth 24 = .ok (.iload 5, 2) := by decide +kernel
theorem dX5_worth_26 : decode cX5_worth 26 = .ok (.iaload, 1) := by decide +kernel
theorem dX5_worth_27 : decode cX5_worth 27 = .ok (.istore 6, 2) := by decide +kernel
theorem dX5_worth_29 : decode cX5_worth 29 = .ok (.iload 6, 2) := by decide +kernel
theorem dX5_worth_31 : decode cX5_worth 31 = .ok (.sipush 256, 3) := by decide +kernel
theorem dX5_worth_34 : decode cX5_worth 34 = .ok (.if_icmp .eq 11, 3) := by decide +kernel
theorem dX5_worth_37 : decode cX5_worth 37 = .ok (.iload 6, 2) := by decide +kernel
theorem dX5_worth_39 : decode cX5_worth 39 = .ok (.invokestatic 42, 3) := by decide +kernel
theorem dX5_worth_42 : decode cX5_worth 42 = .ok (.ifCond .eq 50, 3) := by decide +kernel
theorem dX5_worth_45 : decode cX5_worth 45 = .ok (.iload 4, 2) := by decide +kernel
theorem dX5_worth_47 : decode cX5_worth 47 = .ok (.bipush 60, 2) := by decide +kernel
theorem dX5_worth_49 : decode cX5_worth 49 = .ok (.if_icmp .ge 118, 3) := by decide +kernel
theorem dX5_worth_52 : decode cX5_worth 52 = .ok (.aload_n 0, 1) := by decide +kernel
theorem dX5_worth_53 : decode cX5_worth 53 = .ok (.getfield 34, 3) := by decide +kernel
theorem dX5_worth_56 : decode cX5_worth 56 = .ok (.iload 4, 2) := by decide +kernel
theorem dX5_worth_58 : decode cX5_worth 58 = .ok (.iload 6, 2) := by decide +kernel
theorem dX5_worth_60 : decode cX5_worth 60 = .ok (.sipush 256, 3) := by decide +kernel
theorem dX5_worth_63 : decode cX5_worth 63 = .ok (.if_icmp .ne 14, 3) := by decide +kernel
theorem dX5_worth_66 : decode cX5_worth 66 = .ok (.aload_n 0, 1) := by decide +kernel
theorem dX5_worth_67 : decode cX5_worth 67 = .ok (.getfield 15, 3) := by decide +kernel
theorem dX5_worth_70 : decode cX5_worth 70 = .ok (.iload 5, 2) := by decide +kernel
theorem dX5_worth_72 : decode cX5_worth 72 = .ok (.iaload, 1) := by decide +kernel
theorem dX5_worth_73 : decode cX5_worth 73 = .ok (.i2l, 1) := by decide +kernel
theorem dX5_worth_74 : decode cX5_worth 74 = .ok (.goto 11, 3) := by decide +kernel
theorem dX5_worth_77 : decode cX5_worth 77 = .ok (.aload_n 3, 1) := by decide +kernel
theorem dX5_worth_78 : decode cX5_worth 78 = .ok (.iload 6, 2) := by decide +kernel
theorem dX5_worth_80 : decode cX5_worth 80 = .ok (.sipush 300, 3) := by decide +kernel
theorem dX5_worth_83 : decode cX5_worth 83 = .ok (.isub, 1) := by decide +kernel
theorem dX5_worth_84 : decode cX5_worth 84 = .ok (.laload, 1) := by decide +kernel
theorem dX5_worth_85 : decode cX5_worth 85 = .ok (.lastore, 1) := by decide +kernel
theorem dX5_worth_86 : decode cX5_worth 86 = .ok (.iinc 4 1, 3) := by decide +kernel
theorem dX5_worth_89 : decode cX5_worth 89 = .ok (.goto 78, 3) := by decide +kernel
theorem dX5_worth_92 : decode cX5_worth 92 = .ok (.iload 6, 2) := by decide +kernel
theorem dX5_worth_94 : decode cX5_worth 94 = .ok (.sipush 315, 3) := by decide +kernel
theorem dX5_worth_97 : decode cX5_worth 97 = .ok (.if_icmp .ne 31, 3) := by decide +kernel
theorem dX5_worth_100 : decode cX5_worth 100 = .ok (.iload 4, 2) := by decide +kernel
theorem dX5_worth_102 : decode cX5_worth 102 = .ok (.ifCond .le 65, 3) := by decide +kernel
theorem dX5_worth_105 : decode cX5_worth 105 = .ok (.aload_n 0, 1) := by decide +kernel
theorem dX5_worth_106 : decode cX5_worth 106 = .ok (.getfield 34, 3) := by decide +kernel
theorem dX5_worth_109 : decode cX5_worth 109 = .ok (.iload 4, 2) := by decide +kernel
theorem dX5_worth_111 : decode cX5_worth 111 = .ok (.iconst 1, 1) := by decide +kernel
theorem dX5_worth_112 : decode cX5_worth 112 = .ok (.isub, 1) := by decide +kernel
theorem dX5_worth_113 : decode cX5_worth 113 = .ok (.lconst 1, 1) := by decide +kernel
theorem dX5_worth_114 : decode cX5_worth 114 = .ok (.aload_n 0, 1) := by decide +kernel
theorem dX5_worth_115 : decode cX5_worth 115 = .ok (.getfield 34, 3) := by decide +kernel
theorem dX5_worth_118 : decode cX5_worth 118 = .ok (.iload 4, 2) := by decide +kernel
theorem dX5_worth_120 : decode cX5_worth 120 = .ok (.iconst 1, 1) := by decide +kernel
theorem dX5_worth_121 : decode cX5_worth 121 = .ok (.isub, 1) := by decide +kernel
theorem dX5_worth_122 : decode cX5_worth 122 = .ok (.laload, 1) := by decide +kernel
theorem dX5_worth_123 : decode cX5_worth 123 = .ok (.lsub, 1) := by decide +kernel
theorem dX5_worth_124 : decode cX5_worth 124 = .ok (.lastore, 1) := by decide +kernel
theorem dX5_worth_125 : decode cX5_worth 125 = .ok (.goto 42, 3) := by decide +kernel
theorem dX5_worth_128 : decode cX5_worth 128 = .ok (.iload 4, 2) := by decide +kernel
theorem dX5_worth_130 : decode cX5_worth 130 = .ok (.iconst 1, 1) := by decide +kernel
theorem dX5_worth_131 : decode cX5_worth 131 = .ok (.if_icmp .le 36, 3) := by decide +kernel
theorem dX5_worth_134 : decode cX5_worth 134 = .ok (.iinc 4 (-1), 3) := by decide +kernel
theorem dX5_worth_137 : decode cX5_worth 137 = .ok (.aload_n 0, 1) := by decide +kernel
theorem dX5_worth_138 : decode cX5_worth 138 = .ok (.getfield 34, 3) := by decide +kernel
theorem dX5_worth_141 : decode cX5_worth 141 = .ok (.iload 4, 2) := by decide +kernel
theorem dX5_worth_143 : decode cX5_worth 143 = .ok (.iconst 1, 1) := by decide +kernel
theorem dX5_worth_144 : decode cX5_worth 144 = .ok (.isub, 1) := by decide +kernel
theorem dX5_worth_145 : decode cX5_worth 145 = .ok (.iload 6, 2) := by decide +kernel
theorem dX5_worth_147 : decode cX5_worth 147 = .ok (.aload_n 0, 1) := by decide +kernel
theorem dX5_worth_148 : decode cX5_worth 148 = .ok (.getfield 34, 3) := by decide +kernel
theorem dX5_worth_151 : decode cX5_worth 151 = .ok (.iload 4, 2) := by decide +kernel
theorem dX5_worth_153 : decode cX5_worth 153 = .ok (.iconst 1, 1) := by decide +kernel
theorem dX5_worth_154 : decode cX5_worth 154 = .ok (.isub, 1) := by decide +kernel
theorem dX5_worth_155 : decode cX5_worth 155 = .ok (.laload, 1) := by decide +kernel
theorem dX5_worth_156 : decode cX5_worth 156 = .ok (.aload_n 0, 1) := by decide +kernel
theorem dX5_worth_157 : decode cX5_worth 157 = .ok (.getfield 34, 3) := by decide +kernel
theorem dX5_worth_160 : decode cX5_worth 160 = .ok (.iload 4, 2) := by decide +kernel
theorem dX5_worth_162 : decode cX5_worth 162 = .ok (.laload, 1) := by decide +kernel
theorem dX5_worth_163 : decode cX5_worth 163 = .ok (.invokestatic 46, 3) := by decide +kernel
theorem dX5_worth_166 : decode cX5_worth 166 = .ok (.lastore, 1) := by decide +kernel
theorem dX5_worth_167 : decode cX5_worth 167 = .ok (.iinc 5 1, 3) := by decide +kernel
theorem dX5_worth_170 : decode cX5_worth 170 = .ok (.goto (-164), 3) := by decide +kernel
theorem dX5_worth_173 : decode cX5_worth 173 = .ok (.iload 4, 2) := by decide +kernel
theorem dX5_worth_175 : decode cX5_worth 175 = .ok (.ifCond .le 12, 3) := by decide +kernel
theorem dX5_worth_178 : decode cX5_worth 178 = .ok (.aload_n 0, 1) := by decide +kernel
theorem dX5_worth_179 : decode cX5_worth 179 = .ok (.getfield 34, 3) := by decide +kernel
theorem dX5_worth_182 : decode cX5_worth 182 = .ok (.iconst 0, 1) := by decide +kernel
theorem dX5_worth_183 : decode cX5_worth 183 = .ok (.laload, 1) := by decide +kernel
theorem dX5_worth_184 : decode cX5_worth 184 = .ok (.goto 4, 3) := by decide +kernel
theorem dX5_worth_187 : decode cX5_worth 187 = .ok (.lconst 0, 1) := by decide +kernel
theorem dX5_worth_188 : decode cX5_worth 188 = .ok (.lreturn, 1) := by decide +kernel
theorem dX5_isWord_0 : decode cX5_isWord 0 = .ok (.iload_n 0, 1) := by decide +kernel
theorem dX5_isWord_1 : decode cX5_isWord 1 = .ok (.sipush 300, 3) := by decide +kernel
theorem dX5_isWord_4 : decode cX5_isWord 4 = .ok (.if_icmp .lt 14, 3) := by decide +kernel
theorem dX5_isWord_7 : decode cX5_isWord 7 = .ok (.iload_n 0, 1) := by decide +kernel
theorem dX5_isWord_8 : decode cX5_isWord 8 = .ok (.sipush 312, 3) := by decide +kernel
theorem dX5_isWord_11 : decode cX5_isWord 11 = .ok (.if_icmp .ge 7, 3) := by decide +kernel
theorem dX5_isWord_14 : decode cX5_isWord 14 = .ok (.iconst 1, 1) := by decide +kernel
theorem dX5_isWord_15 : decode cX5_isWord 15 = .ok (.goto 4, 3) := by decide +kernel
theorem dX5_isWord_18 : decode cX5_isWord 18 = .ok (.iconst 0, 1) := by decide +kernel
theorem dX5_isWord_19 : decode cX5_isWord 19 = .ok (.ireturn, 1) := by decide +kernel
theorem dX5_joined_0 : decode cX5_joined 0 = .ok (.iload_n 0, 1) := by decide +kernel
theorem dX5_joined_1 : decode cX5_joined 1 = .ok (.lookupswitch 215 #[(37, 133), (42, 115), (43, 107), (45, 111), (47, 119), (60, 147), (61, 171), (62, 195), (257, 159), (258, 183), (313, 207), (314, 211)], 107) := by decide +kernel
theorem dX5_joined_108 : decode cX5_joined 108 = .ok (.lload_n 1, 1) := by decide +kernel
theorem dX5_joined_109 : decode cX5_joined 109 = .ok (.lload_n 3, 1) := by decide +kernel
theorem dX5_joined_110 : decode cX5_joined 110 = .ok (.ladd, 1) := by decide +kernel
theorem dX5_joined_111 : decode cX5_joined 111 = .ok (.lreturn, 1) := by decide +kernel
theorem dX5_joined_112 : decode cX5_joined 112 = .ok (.lload_n 1, 1) := by decide +kernel
theorem dX5_joined_113 : decode cX5_joined 113 = .ok (.lload_n 3, 1) := by decide +kernel
theorem dX5_joined_114 : decode cX5_joined 114 = .ok (.lsub, 1) := by decide +kernel
theorem dX5_joined_115 : decode cX5_joined 115 = .ok (.lreturn, 1) := by decide +kernel
theorem dX5_joined_116 : decode cX5_joined 116 = .ok (.lload_n 1, 1) := by decide +kernel
theorem dX5_joined_117 : decode cX5_joined 117 = .ok (.lload_n 3, 1) := by decide +kernel
theorem dX5_joined_118 : decode cX5_joined 118 = .ok (.lmul, 1) := by decide +kernel
theorem dX5_joined_119 : decode cX5_joined 119 = .ok (.lreturn, 1) := by decide +kernel
theorem dX5_joined_120 : decode cX5_joined 120 = .ok (.lload_n 3, 1) := by decide +kernel
theorem dX5_joined_121 : decode cX5_joined 121 = .ok (.lconst 0, 1) := by decide +kernel
theorem dX5_joined_122 : decode cX5_joined 122 = .ok (.lcmp, 1) := by decide +kernel
theorem dX5_joined_123 : decode cX5_joined 123 = .ok (.ifCond .ne 7, 3) := by decide +kernel
theorem dX5_joined_126 : decode cX5_joined 126 = .ok (.lconst 0, 1) := by decide +kernel
theorem dX5_joined_127 : decode cX5_joined 127 = .ok (.goto 6, 3) := by decide +kernel
theorem dX5_joined_130 : decode cX5_joined 130 = .ok (.lload_n 1, 1) := by decide +kernel
theorem dX5_joined_131 : decode cX5_joined 131 = .ok (.lload_n 3, 1) := by decide +kernel
theorem dX5_joined_132 : decode cX5_joined 132 = .ok (.ldiv, 1) := by decide +kernel
theorem dX5_joined_133 : decode cX5_joined 133 = .ok (.lreturn, 1) := by decide +kernel
theorem dX5_joined_134 : decode cX5_joined 134 = .ok (.lload_n 3, 1) := by decide +kernel
theorem dX5_joined_135 : decode cX5_joined 135 = .ok (.lconst 0, 1) := by decide +kernel
theorem dX5_joined_136 : decode cX5_joined 136 = .ok (.lcmp, 1) := by decide +kernel
theorem dX5_joined_137 : decode cX5_joined 137 = .ok (.ifCond .ne 7, 3) := by decide +kernel
theorem dX5_joined_140 : decode cX5_joined 140 = .ok (.lconst 0, 1) := by decide +kernel
theorem dX5_joined_141 : decode cX5_joined 141 = .ok (.goto 6, 3) := by decide +kernel
theorem dX5_joined_144 : decode cX5_joined 144 = .ok (.lload_n 1, 1) := by decide +kernel
theorem dX5_joined_145 : decode cX5_joined 145 = .ok (.lload_n 3, 1) := by decide +kernel
theorem dX5_joined_146 : decode cX5_joined 146 = .ok (.lrem, 1) := by decide +kernel
theorem dX5_joined_147 : decode cX5_joined 147 = .ok (.lreturn, 1) := by decide +kernel
theorem dX5_joined_148 : decode cX5_joined 148 = .ok (.lload_n 1, 1) := by decide +kernel
theorem dX5_joined_149 : decode cX5_joined 149 = .ok (.lload_n 3, 1) := by decide +kernel
theorem dX5_joined_150 : decode cX5_joined 150 = .ok (.lcmp, 1) := by decide +kernel
theorem dX5_joined_151 : decode cX5_joined 151 = .ok (.ifCond .ge 7, 3) := by decide +kernel
theorem dX5_joined_154 : decode cX5_joined 154 = .ok (.lconst 1, 1) := by decide +kernel
theorem dX5_joined_155 : decode cX5_joined 155 = .ok (.goto 4, 3) := by decide +kernel
theorem dX5_joined_158 : decode cX5_joined 158 = .ok (.lconst 0, 1) := by decide +kernel
theorem dX5_joined_159 : decode cX5_joined 159 = .ok (.lreturn, 1) := by decide +kernel
theorem dX5_joined_160 : decode cX5_joined 160 = .ok (.lload_n 1, 1) := by decide +kernel
theorem dX5_joined_161 : decode cX5_joined 161 = .ok (.lload_n 3, 1) := by decide +kernel
theorem dX5_joined_162 : decode cX5_joined 162 = .ok (.lcmp, 1) := by decide +kernel
theorem dX5_joined_163 : decode cX5_joined 163 = .ok (.ifCond .gt 7, 3) := by decide +kernel
theorem dX5_joined_166 : decode cX5_joined 166 = .ok (.lconst 1, 1) := by decide +kernel
theorem dX5_joined_167 : decode cX5_joined 167 = .ok (.goto 4, 3) := by decide +kernel
theorem dX5_joined_170 : decode cX5_joined 170 = .ok (.lconst 0, 1) := by decide +kernel
theorem dX5_joined_171 : decode cX5_joined 171 = .ok (.lreturn, 1) := by decide +kernel
theorem dX5_joined_172 : decode cX5_joined 172 = .ok (.lload_n 1, 1) := by decide +kernel
theorem dX5_joined_173 : decode cX5_joined 173 = .ok (.lload_n 3, 1) := by decide +kernel
theorem dX5_joined_174 : decode cX5_joined 174 = .ok (.lcmp, 1) := by decide +kernel
theorem dX5_joined_175 : decode cX5_joined 175 = .ok (.ifCond .ne 7, 3) := by decide +kernel
theorem dX5_joined_178 : decode cX5_joined 178 = .ok (.lconst 1, 1) := by decide +kernel
theorem dX5_joined_179 : decode cX5_joined 179 = .ok (.goto 4, 3) := by decide +kernel
theorem dX5_joined_182 : decode cX5_joined 182 = .ok (.lconst 0, 1) := by decide +kernel
theorem dX5_joined_183 : decode cX5_joined 183 = .ok (.lreturn, 1) := by decide +kernel
theorem dX5_joined_184 : decode cX5_joined 184 = .ok (.lload_n 1, 1) := by decide +kernel
theorem dX5_joined_185 : decode cX5_joined 185 = .ok (.lload_n 3, 1) := by decide +kernel
theorem dX5_joined_186 : decode cX5_joined 186 = .ok (.lcmp, 1) := by decide +kernel
theorem dX5_joined_187 : decode cX5_joined 187 = .ok (.ifCond .lt 7, 3) := by decide +kernel
theorem dX5_joined_190 : decode cX5_joined 190 = .ok (.lconst 1, 1) := by decide +kernel
theorem dX5_joined_191 : decode cX5_joined 191 = .ok (.goto 4, 3) := by decide +kernel
theorem dX5_joined_194 : decode cX5_joined 194 = .ok (.lconst 0, 1) := by decide +kernel
theorem dX5_joined_195 : decode cX5_joined 195 = .ok (.lreturn, 1) := by decide +kernel
theorem dX5_joined_196 : decode cX5_joined 196 = .ok (.lload_n 1, 1) := by decide +kernel
theorem dX5_joined_197 : decode cX5_joined 197 = .ok (.lload_n 3, 1) := by decide +kernel
theorem dX5_joined_198 : decode cX5_joined 198 = .ok (.lcmp, 1) := by decide +kernel
theorem dX5_joined_199 : decode cX5_joined 199 = .ok (.ifCond .le 7, 3) := by decide +kernel
theorem dX5_joined_202 : decode cX5_joined 202 = .ok (.lconst 1, 1) := by decide +kernel
theorem dX5_joined_203 : decode cX5_joined 203 = .ok (.goto 4, 3) := by decide +kernel
theorem dX5_joined_206 : decode cX5_joined 206 = .ok (.lconst 0, 1) := by decide +kernel
theorem dX5_joined_207 : decode cX5_joined 207 = .ok (.lreturn, 1) := by decide +kernel
theorem dX5_joined_208 : decode cX5_joined 208 = .ok (.lload_n 1, 1) := by decide +kernel
theorem dX5_joined_209 : decode cX5_joined 209 = .ok (.lload_n 3, 1) := by decide +kernel
theorem dX5_joined_210 : decode cX5_joined 210 = .ok (.land, 1) := by decide +kernel
theorem dX5_joined_211 : decode cX5_joined 211 = .ok (.lreturn, 1) := by decide +kernel
theorem dX5_joined_212 : decode cX5_joined 212 = .ok (.lload_n 1, 1) := by decide +kernel
theorem dX5_joined_213 : decode cX5_joined 213 = .ok (.lload_n 3, 1) := by decide +kernel
theorem dX5_joined_214 : decode cX5_joined 214 = .ok (.lor, 1) := by decide +kernel
theorem dX5_joined_215 : decode cX5_joined 215 = .ok (.lreturn, 1) := by decide +kernel
theorem dX5_joined_216 : decode cX5_joined 216 = .ok (.lconst 0, 1) := by decide +kernel
theorem dX5_joined_217 : decode cX5_joined 217 = .ok (.lreturn, 1) := by decide +kernel
theorem dX6_init_0 : decode cX6_init 0 = .ok (.aload_n 0, 1) := by decide +kernel
theorem dX6_init_1 : decode cX6_init 1 = .ok (.invokespecial 3, 3) := by decide +kernel
theorem dX6_init_4 : decode cX6_init 4 = .ok (.aload_n 0, 1) := by decide +kernel
theorem dX6_init_5 : decode cX6_init 5 = .ok (.sipush 400, 3) := by decide +kernel
theorem dX6_init_8 : decode cX6_init 8 = .ok (.newarray .int, 2) := by decide +kernel
theorem dX6_init_10 : decode cX6_init 10 = .ok (.putfield 9, 3) := by decide +kernel
theorem dX6_init_13 : decode cX6_init 13 = .ok (.aload_n 0, 1) := by decide +kernel
theorem dX6_init_14 : decode cX6_init 14 = .ok (.iconst 0, 1) := by decide +kernel
theorem dX6_init_15 : decode cX6_init 15 = .ok (.putfield 15, 3) := by decide +kernel
theorem dX6_init_18 : decode cX6_init 18 = .ok (.aload_n 0, 1) := by decide +kernel
theorem dX6_init_19 : decode cX6_init 19 = .ok (.iconst 0, 1) := by decide +kernel
theorem dX6_init_20 : decode cX6_init 20 = .ok (.putfield 19, 3) := by decide +kernel
theorem dX6_init_23 : decode cX6_init 23 = .ok (.aload_n 0, 1) := by decide +kernel
theorem dX6_init_24 : decode cX6_init 24 = .ok (.iconst 0, 1) := by decide +kernel
theorem dX6_init_25 : decode cX6_init 25 = .ok (.putfield 22, 3) := by decide +kernel
theorem dX6_init_28 : decode cX6_init 28 = .ok (.aload_n 0, 1) := by decide +kernel
theorem dX6_init_29 : decode cX6_init 29 = .ok (.iconst 0, 1) := by decide +kernel
theorem dX6_init_30 : decode cX6_init 30 = .ok (.putfield 25, 3) := by decide +kernel
theorem dX6_init_33 : decode cX6_init 33 = .ok (.aload_n 0, 1) := by decide +kernel
theorem dX6_init_34 : decode cX6_init 34 = .ok (.iconst 0, 1) := by decide +kernel
theorem dX6_init_35 : decode cX6_init 35 = .ok (.putfield 28, 3) := by decide +kernel
theorem dX6_init_38 : decode cX6_init 38 = .ok (.aload_n 0, 1) := by decide +kernel
theorem dX6_init_39 : decode cX6_init 39 = .ok (.iconst 0, 1) := by decide +kernel
theorem dX6_init_40 : decode cX6_init 40 = .ok (.putfield 31, 3) := by decide +kernel
theorem dX6_init_43 : decode cX6_init 43 = .ok (.aload_n 0, 1) := by decide +kernel
theorem dX6_init_44 : decode cX6_init 44 = .ok (.iconst 0, 1) := by decide +kernel
theorem dX6_init_45 : decode cX6_init 45 = .ok (.putfield 34, 3) := by decide +kernel
theorem dX6_init_48 : decode cX6_init 48 = .ok (.return_, 1) := by decide +kernel
theorem dX6_read_0 : decode cX6_read 0 = .ok (.aload_n 1, 1) := by decide +kernel
theorem dX6_read_1 : decode cX6_read 1 = .ok (.invokevirtual 37, 3) := by decide +kernel
theorem dX6_read_4 : decode cX6_read 4 = .ok (.aload_n 2, 1) := by decide +kernel
theorem dX6_read_5 : decode cX6_read 5 = .ok (.invokevirtual 42, 3) := by decide +kernel
theorem dX6_read_8 : decode cX6_read 8 = .ok (.aload_n 0, 1) := by decide +kernel
theorem dX6_read_9 : decode cX6_read 9 = .ok (.iconst 0, 1) := by decide +kernel
theorem dX6_read_10 : decode cX6_read 10 = .ok (.putfield 15, 3) := by decide +kernel
theorem dX6_read_13 : decode cX6_read 13 = .ok (.aload_n 0, 1) := by decide +kernel
theorem dX6_read_14 : decode cX6_read 14 = .ok (.iconst 0, 1) := by decide +kernel
theorem dX6_read_15 : decode cX6_read 15 = .ok (.putfield 19, 3) := by decide +kernel
theorem dX6_read_18 : decode cX6_read 18 = .ok (.aload_n 0, 1) := by decide +kernel
theorem dX6_read_19 : decode cX6_read 19 = .ok (.iconst 0, 1) := by decide +kernel
theorem dX6_read_20 : decode cX6_read 20 = .ok (.putfield 22, 3) := by decide +kernel
theorem dX6_read_23 : decode cX6_read 23 = .ok (.aload_n 0, 1) := by decide +kernel
theorem dX6_read_24 : decode cX6_read 24 = .ok (.iconst 0, 1) := by decide +kernel
theorem dX6_read_25 : decode cX6_read 25 = .ok (.putfield 25, 3) := by decide +kernel
theorem dX6_read_28 : decode cX6_read 28 = .ok (.iconst 0, 1) := by decide +kernel
theorem dX6_read_29 : decode cX6_read 29 = .ok (.istore_n 3, 1) := by decide +kernel
theorem dX6_read_30 : decode cX6_read 30 = .ok (.iload_n 3, 1) := by decide +kernel
theorem dX6_read_31 : decode cX6_read 31 = .ok (.sipush 400, 3) := by decide +kernel
theorem dX6_read_34 : decode cX6_read 34 = .ok (.if_icmp .gt 34, 3) := by decide +kernel
theorem dX6_read_37 : decode cX6_read 37 = .ok (.aload_n 1, 1) := by decide +kernel
theorem dX6_read_38 : decode cX6_read 38 = .ok (.invokevirtual 47, 3) := by decide +kernel
theorem dX6_read_41 : decode cX6_read 41 = .ok (.ifCond .eq 27, 3) := by decide +kernel
theorem dX6_read_44 : decode cX6_read 44 = .ok (.aload_n 0, 1) := by decide +kernel
theorem dX6_read_45 : decode cX6_read 45 = .ok (.getfield 25, 3) := by decide +kernel
theorem dX6_read_48 : decode cX6_read 48 = .ok (.iconst 4, 1) := by decide +kernel
theorem dX6_read_49 : decode cX6_read 49 = .ok (.if_icmp .eq 19, 3) := by decide +kernel
theorem dX6_read_52 : decode cX6_read 52 = .ok (.aload_n 1, 1) := by decide +kernel
theorem dX6_read_53 : decode cX6_read 53 = .ok (.invokevirtual 51, 3) := by decide +kernel
theorem dX6_read_56 : decode cX6_read 56 = .ok (.aload_n 0, 1) := by decide +kernel
theorem dX6_read_57 : decode cX6_read 57 = .ok (.aload_n 1, 1) := by decide +kernel
theorem dX6_read_58 : decode cX6_read 58 = .ok (.aload_n 2, 1) := by decide +kernel
theorem dX6_read_59 : decode cX6_read 59 = .ok (.invokevirtual 54, 3) := by decide +kernel
theorem dX6_read_62 : decode cX6_read 62 = .ok (.iinc 3 1, 3) := by decide +kernel
theorem dX6_read_65 : decode cX6_read 65 = .ok (.goto (-35), 3) := by decide +kernel
theorem dX6_read_68 : decode cX6_read 68 = .ok (.aload_n 1, 1) := by decide +kernel
theorem dX6_read_69 : decode cX6_read 69 = .ok (.getfield 58, 3) := by decide +kernel
theorem dX6_read_72 : decode cX6_read 72 = .ok (.ireturn, 1) := by decide +kernel
theorem dX6_readOn_0 : decode cX6_readOn 0 = .ok (.aload_n 0, 1) := by decide +kernel
theorem dX6_readOn_1 : decode cX6_readOn 1 = .ok (.getfield 25, 3) := by decide +kernel
theorem dX6_readOn_4 : decode cX6_readOn 4 = .ok (.tableswitch 55 0 2 #[28, 37, 46], 28) := by decide +kernel
theorem dX6_readOn_32 : decode cX6_readOn 32 = .ok (.aload_n 0, 1) := by decide +kernel
theorem dX6_readOn_33 : decode cX6_readOn 33 = .ok (.aload_n 1, 1) := by decide +kernel
theorem dX6_readOn_34 : decode cX6_readOn 34 = .ok (.aload_n 2, 1) := by decide +kernel
theorem dX6_readOn_35 : decode cX6_readOn 35 = .ok (.invokevirtual 61, 3) := by decide +kernel
theorem dX6_readOn_38 : decode cX6_readOn 38 = .ok (.goto 27, 3) := by decide +kernel
theorem dX6_readOn_41 : decode cX6_readOn 41 = .ok (.aload_n 0, 1) := by decide +kernel
theorem dX6_readOn_42 : decode cX6_readOn 42 = .ok (.aload_n 1, 1) := by decide +kernel
theorem dX6_readOn_43 : decode cX6_readOn 43 = .ok (.aload_n 2, 1) := by decide +kernel
theorem dX6_readOn_44 : decode cX6_readOn 44 = .ok (.invokevirtual 64, 3) := by decide +kernel
theorem dX6_readOn_47 : decode cX6_readOn 47 = .ok (.goto 18, 3) := by decide +kernel
theorem dX6_readOn_50 : decode cX6_readOn 50 = .ok (.aload_n 0, 1) := by decide +kernel
theorem dX6_readOn_51 : decode cX6_readOn 51 = .ok (.aload_n 1, 1) := by decide +kernel
theorem dX6_readOn_52 : decode cX6_readOn 52 = .ok (.aload_n 2, 1) := by decide +kernel
theorem dX6_readOn_53 : decode cX6_readOn 53 = .ok (.invokevirtual 67, 3) := by decide +kernel
theorem dX6_readOn_56 : decode cX6_readOn 56 = .ok (.goto 9, 3) := by decide +kernel
theorem dX6_readOn_59 : decode cX6_readOn 59 = .ok (.aload_n 0, 1) := by decide +kernel
theorem dX6_readOn_60 : decode cX6_readOn 60 = .ok (.aload_n 1, 1) := by decide +kernel
theorem dX6_readOn_61 : decode cX6_readOn 61 = .ok (.aload_n 2, 1) := by decide +kernel
theorem dX6_readOn_62 : decode cX6_readOn 62 = .ok (.invokevirtual 70, 3) := by decide +kernel
theorem dX6_readOn_65 : decode cX6_readOn 65 = .ok (.return_, 1) := by decide +kernel
theorem dX6_readClause_0 : decode cX6_readClause 0 = .ok (.aload_n 1, 1) := by decide +kernel
theorem dX6_readClause_1 : decode cX6_readClause 1 = .ok (.getfield 73, 3) := by decide +kernel
theorem dX6_readClause_4 : decode cX6_readClause 4 = .ok (.sipush 316, 3) := by decide +kernel
theorem dX6_readClause_7 : decode cX6_readClause 7 = .ok (.if_icmp .eq 11, 3) := by decide +kernel
theorem dX6_readClause_10 : decode cX6_readClause 10 = .ok (.aload_n 1, 1) := by decide +kernel
theorem dX6_readClause_11 : decode cX6_readClause 11 = .ok (.iconst 0, 1) := by decide +kernel
theorem dX6_readClause_12 : decode cX6_readClause 12 = .ok (.invokevirtual 76, 3) := by decide +kernel
theorem dX6_readClause_15 : decode cX6_readClause 15 = .ok (.goto 17, 3) := by decide +kernel
theorem dX6_readClause_18 : decode cX6_readClause 18 = .ok (.aload_n 2, 1) := by decide +kernel
theorem dX6_readClause_19 : decode cX6_readClause 19 = .ok (.getfield 80, 3) := by decide +kernel
theorem dX6_readClause_22 : decode cX6_readClause 22 = .ok (.bipush 12, 2) := by decide +kernel
theorem dX6_readClause_24 : decode cX6_readClause 24 = .ok (.if_icmp .lt 8, 3) := by decide +kernel
theorem dX6_readClause_27 : decode cX6_readClause 27 = .ok (.aload_n 1, 1) := by decide +kernel
theorem dX6_readClause_28 : decode cX6_readClause 28 = .ok (.iconst 4, 1) := by decide +kernel
theorem dX6_readClause_29 : decode cX6_readClause 29 = .ok (.invokevirtual 76, 3) := by decide +kernel
theorem dX6_readClause_32 : decode cX6_readClause 32 = .ok (.aload_n 0, 1) := by decide +kernel
theorem dX6_readClause_33 : decode cX6_readClause 33 = .ok (.aload_n 2, 1) := by decide +kernel
theorem dX6_readClause_34 : decode cX6_readClause 34 = .ok (.getfield 83, 3) := by decide +kernel
theorem dX6_readClause_37 : decode cX6_readClause 37 = .ok (.putfield 31, 3) := by decide +kernel
theorem dX6_readClause_40 : decode cX6_readClause 40 = .ok (.aload_n 0, 1) := by decide +kernel
theorem dX6_readClause_41 : decode cX6_readClause 41 = .ok (.iconst 0, 1) := by decide +kernel
theorem dX6_readClause_42 : decode cX6_readClause 42 = .ok (.putfield 28, 3) := by decide +kernel
theorem dX6_readClause_45 : decode cX6_readClause 45 = .ok (.aload_n 0, 1) := by decide +kernel
theorem dX6_readClause_46 : decode cX6_readClause 46 = .ok (.iconst 1, 1) := by decide +kernel
theorem dX6_readClause_47 : decode cX6_readClause 47 = .ok (.putfield 25, 3) := by decide +kernel
theorem dX6_readClause_50 : decode cX6_readClause 50 = .ok (.return_, 1) := by decide +kernel
theorem dX6_readValue_0 : decode cX6_readValue 0 = .ok (.aload_n 1, 1) := by decide +kernel
theorem dX6_readValue_1 : decode cX6_readValue 1 = .ok (.getfield 73, 3) := by decide +kernel
theorem dX6_readValue_4 : decode cX6_readValue 4 = .ok (.sipush 256, 3) := by decide +kernel
theorem dX6_readValue_7 : decode cX6_readValue 7 = .ok (.if_icmp .eq 21, 3) := by decide +kernel
theorem dX6_readValue_10 : decode cX6_readValue 10 = .ok (.aload_n 1, 1) := by decide +kernel
theorem dX6_readValue_11 : decode cX6_readValue 11 = .ok (.getfield 73, 3) := by decide +kernel
theorem dX6_readValue_14 : decode cX6_readValue 14 = .ok (.invokestatic 86, 3) := by decide +kernel
theorem dX6_readValue_17 : decode cX6_readValue 17 = .ok (.ifCond .ne 11, 3) := by decide +kernel
theorem dX6_readValue_20 : decode cX6_readValue 20 = .ok (.aload_n 1, 1) := by decide +kernel
theorem dX6_readValue_21 : decode cX6_readValue 21 = .ok (.iconst 0, 1) := by decide +kernel
theorem dX6_readValue_22 : decode cX6_readValue 22 = .ok (.invokevirtual 76, 3) := by decide +kernel
theorem dX6_readValue_25 : decode cX6_readValue 25 = .ok (.goto 26, 3) := by decide +kernel
theorem dX6_readValue_28 : decode cX6_readValue 28 = .ok (.aload_n 1, 1) := by decide +kernel
theorem dX6_readValue_29 : decode cX6_readValue 29 = .ok (.getfield 73, 3) := by decide +kernel
theorem dX6_readValue_32 : decode cX6_readValue 32 = .ok (.sipush 256, 3) := by decide +kernel
theorem dX6_readValue_35 : decode cX6_readValue 35 = .ok (.if_icmp .ne 16, 3) := by decide +kernel
theorem dX6_readValue_38 : decode cX6_readValue 38 = .ok (.aload_n 1, 1) := by decide +kernel
theorem dX6_readValue_39 : decode cX6_readValue 39 = .ok (.getfield 90, 3) := by decide +kernel
theorem dX6_readValue_42 : decode cX6_readValue 42 = .ok (.iconst (-1), 1) := by decide +kernel
theorem dX6_readValue_43 : decode cX6_readValue 43 = .ok (.if_icmp .ne 8, 3) := by decide +kernel
theorem dX6_readValue_46 : decode cX6_readValue 46 = .ok (.aload_n 1, 1) := by decide +kernel
theorem dX6_readValue_47 : decode cX6_readValue 47 = .ok (.iconst 1, 1) := by decide +kernel
theorem dX6_readValue_48 : decode cX6_readValue 48 = .ok (.invokevirtual 76, 3) := by decide +kernel
theorem dX6_readValue_51 : decode cX6_readValue 51 = .ok (.aload_n 0, 1) := by decide +kernel
theorem dX6_readValue_52 : decode cX6_readValue 52 = .ok (.aload_n 1, 1) := by decide +kernel
theorem dX6_readValue_53 : decode cX6_readValue 53 = .ok (.invokevirtual 93, 3) := by decide +kernel
theorem dX6_readValue_56 : decode cX6_readValue 56 = .ok (.aload_n 2, 1) := by decide +kernel
theorem dX6_readValue_57 : decode cX6_readValue 57 = .ok (.aload_n 1, 1) := by decide +kernel
theorem dX6_readValue_58 : decode cX6_readValue 58 = .ok (.getfield 73, 3) := by decide +kernel
theorem dX6_readValue_61 : decode cX6_readValue 61 = .ok (.aload_n 1, 1) := by decide +kernel
theorem dX6_readValue_62 : decode cX6_readValue 62 = .ok (.getfield 90, 3) := by decide +kernel
theorem dX6_readValue_65 : decode cX6_readValue 65 = .ok (.invokevirtual 97, 3) := by decide +kernel
theorem dX6_readValue_68 : decode cX6_readValue 68 = .ok (.aload_n 0, 1) := by decide +kernel
theorem dX6_readValue_69 : decode cX6_readValue 69 = .ok (.iconst 3, 1) := by decide +kernel
theorem dX6_readValue_70 : decode cX6_readValue 70 = .ok (.putfield 25, 3) := by decide +kernel
theorem dX6_readValue_73 : decode cX6_readValue 73 = .ok (.return_, 1) := by decide +kernel
theorem dX6_readFact_0 : decode cX6_readFact 0 = .ok (.aload_n 1, 1) := by decide +kernel
theorem dX6_readFact_1 : decode cX6_readFact 1 = .ok (.getfield 73, 3) := by decide +kernel
theorem dX6_readFact_4 : decode cX6_readFact 4 = .ok (.bipush 91, 2) := by decide +kernel
theorem dX6_readFact_6 : decode cX6_readFact 6 = .ok (.if_icmp .eq 27, 3) := by decide +kernel
theorem dX6_readFact_9 : decode cX6_readFact 9 = .ok (.aload_n 1, 1) := by decide +kernel
theorem dX6_readFact_10 : decode cX6_readFact 10 = .ok (.getfield 73, 3) := by decide +kernel
theorem dX6_readFact_13 : decode cX6_readFact 13 = .ok (.sipush 315, 3) := by decide +kernel
theorem dX6_readFact_16 : decode cX6_readFact 16 = .ok (.if_icmp .eq 17, 3) := by decide +kernel
theorem dX6_readFact_19 : decode cX6_readFact 19 = .ok (.aload_n 0, 1) := by decide +kernel
theorem dX6_readFact_20 : decode cX6_readFact 20 = .ok (.iconst 1, 1) := by decide +kernel
theorem dX6_readFact_21 : decode cX6_readFact 21 = .ok (.putfield 28, 3) := by decide +kernel
theorem dX6_readFact_24 : decode cX6_readFact 24 = .ok (.aload_n 0, 1) := by decide +kernel
theorem dX6_readFact_25 : decode cX6_readFact 25 = .ok (.aload_n 1, 1) := by decide +kernel
theorem dX6_readFact_26 : decode cX6_readFact 26 = .ok (.aload_n 2, 1) := by decide +kernel
theorem dX6_readFact_27 : decode cX6_readFact 27 = .ok (.invokevirtual 64, 3) := by decide +kernel
theorem dX6_readFact_30 : decode cX6_readFact 30 = .ok (.goto 38, 3) := by decide +kernel
theorem dX6_readFact_33 : decode cX6_readFact 33 = .ok (.aload_n 0, 1) := by decide +kernel
theorem dX6_readFact_34 : decode cX6_readFact 34 = .ok (.getfield 19, 3) := by decide +kernel
theorem dX6_readFact_37 : decode cX6_readFact 37 = .ok (.bipush 10, 2) := by decide +kernel
theorem dX6_readFact_39 : decode cX6_readFact 39 = .ok (.if_icmp .lt 11, 3) := by decide +kernel
theorem dX6_readFact_42 : decode cX6_readFact 42 = .ok (.aload_n 1, 1) := by decide +kernel
theorem dX6_readFact_43 : decode cX6_readFact 43 = .ok (.iconst 2, 1) := by decide +kernel
theorem dX6_readFact_44 : decode cX6_readFact 44 = .ok (.invokevirtual 76, 3) := by decide +kernel
theorem dX6_readFact_47 : decode cX6_readFact 47 = .ok (.goto 21, 3) := by decide +kernel
theorem dX6_readFact_50 : decode cX6_readFact 50 = .ok (.aload_n 0, 1) := by decide +kernel
theorem dX6_readFact_51 : decode cX6_readFact 51 = .ok (.dup, 1) := by decide +kernel
theorem dX6_readFact_52 : decode cX6_readFact 52 = .ok (.getfield 19, 3) := by decide +kernel
theorem dX6_readFact_55 : decode cX6_readFact 55 = .ok (.iconst 1, 1) := by decide +kernel
theorem dX6_readFact_56 : decode cX6_readFact 56 = .ok (.iadd, 1) := by decide +kernel
theorem dX6_readFact_57 : decode cX6_readFact 57 = .ok (.putfield 19, 3) := by decide +kernel
theorem dX6_readFact_60 : decode cX6_readFact 60 = .ok (.aload_n 0, 1) := by decide +kernel
theorem dX6_readFact_61 : decode cX6_readFact 61 = .ok (.aload_n 1, 1) := by decide +kernel
theorem dX6_readFact_62 : decode cX6_readFact 62 = .ok (.getfield 73, 3) := by decide +kernel
theorem dX6_readFact_65 : decode cX6_readFact 65 = .ok (.invokevirtual 101, 3) := by decide +kernel
theorem dX6_readFact_68 : decode cX6_readFact 68 = .ok (.return_, 1) := by decide +kernel
theorem dX6_readBehind_0 : decode cX6_readBehind 0 = .ok (.aload_n 1, 1) := by decide +kernel
theorem dX6_readBehind_1 : decode cX6_readBehind 1 = .ok (.getfield 73, 3) := by decide +kernel
theorem dX6_readBehind_4 : decode cX6_readBehind 4 = .ok (.istore_n 3, 1) := by decide +kernel
theorem dX6_readBehind_5 : decode cX6_readBehind 5 = .ok (.iload_n 3, 1) := by decide +kernel
theorem dX6_readBehind_6 : decode cX6_readBehind 6 = .ok (.invokestatic 104, 3) := by decide +kernel
theorem dX6_readBehind_9 : decode cX6_readBehind 9 = .ok (.istore 4, 2) := by decide +kernel
theorem dX6_readBehind_11 : decode cX6_readBehind 11 = .ok (.iload_n 3, 1) := by decide +kernel
theorem dX6_readBehind_12 : decode cX6_readBehind 12 = .ok (.bipush 59, 2) := by decide +kernel
theorem dX6_readBehind_14 : decode cX6_readBehind 14 = .ok (.if_icmp .eq 8, 3) := by decide +kernel
theorem dX6_readBehind_17 : decode cX6_readBehind 17 = .ok (.iload_n 3, 1) := by decide +kernel
theorem dX6_readBehind_18 : decode cX6_readBehind 18 = .ok (.iconst (-1), 1) := by decide +kernel
theorem dX6_readBehind_19 : decode cX6_readBehind 19 = .ok (.if_icmp .ne 7, 3) := by decide +kernel
theorem dX6_readBehind_22 : decode cX6_readBehind 22 = .ok (.iconst 1, 1) := by decide +kernel
theorem dX6_readBehind_23 : decode cX6_readBehind 23 = .ok (.goto 4, 3) := by decide +kernel
theorem dX6_readBehind_26 : decode cX6_readBehind 26 = .ok (.iconst 0, 1) := by decide +kernel
theorem dX6_readBehind_27 : decode cX6_readBehind 27 = .ok (.istore 5, 2) := by decide +kernel
theorem dX6_readBehind_29 : decode cX6_readBehind 29 = .ok (.iload 4, 2) := by decide +kernel
theorem dX6_readBehind_31 : decode cX6_readBehind 31 = .ok (.iconst 5, 1) := by decide +kernel
theorem dX6_readBehind_32 : decode cX6_readBehind 32 = .ok (.if_icmp .lt 25, 3) := by decide +kernel
theorem dX6_readBehind_35 : decode cX6_readBehind 35 = .ok (.aload_n 0, 1) := by decide +kernel
theorem dX6_readBehind_36 : decode cX6_readBehind 36 = .ok (.getfield 28, 3) := by decide +kernel
theorem dX6_readBehind_39 : decode cX6_readBehind 39 = .ok (.iconst 3, 1) := by decide +kernel
theorem dX6_readBehind_40 : decode cX6_readBehind 40 = .ok (.if_icmp .eq 17, 3) := by decide +kernel
theorem dX6_readBehind_43 : decode cX6_readBehind 43 = .ok (.aload_n 0, 1) := by decide +kernel
theorem dX6_readBehind_44 : decode cX6_readBehind 44 = .ok (.iload_n 3, 1) := by decide +kernel
theorem dX6_readBehind_45 : decode cX6_readBehind 45 = .ok (.aload_n 2, 1) := by decide +kernel
theorem dX6_readBehind_46 : decode cX6_readBehind 46 = .ok (.invokevirtual 108, 3) := by decide +kernel
theorem dX6_readBehind_49 : decode cX6_readBehind 49 = .ok (.aload_n 0, 1) := by decide +kernel
theorem dX6_readBehind_50 : decode cX6_readBehind 50 = .ok (.iconst 1, 1) := by decide +kernel
theorem dX6_readBehind_51 : decode cX6_readBehind 51 = .ok (.putfield 25, 3) := by decide +kernel
theorem dX6_readBehind_54 : decode cX6_readBehind 54 = .ok (.goto 163, 3) := by decide +kernel
theorem dX6_readBehind_57 : decode cX6_readBehind 57 = .ok (.iload 4, 2) := by decide +kernel
theorem dX6_readBehind_59 : decode cX6_readBehind 59 = .ok (.iconst 4, 1) := by decide +kernel
theorem dX6_readBehind_60 : decode cX6_readBehind 60 = .ok (.if_icmp .ne 35, 3) := by decide +kernel
theorem dX6_readBehind_63 : decode cX6_readBehind 63 = .ok (.aload_n 0, 1) := by decide +kernel
theorem dX6_readBehind_64 : decode cX6_readBehind 64 = .ok (.getfield 28, 3) := by decide +kernel
theorem dX6_readBehind_67 : decode cX6_readBehind 67 = .ok (.iconst 1, 1) := by decide +kernel
theorem dX6_readBehind_68 : decode cX6_readBehind 68 = .ok (.if_icmp .ne 27, 3) := by decide +kernel
theorem dX6_readBehind_71 : decode cX6_readBehind 71 = .ok (.aload_n 0, 1) := by decide +kernel
theorem dX6_readBehind_72 : decode cX6_readBehind 72 = .ok (.aload_n 1, 1) := by decide +kernel
theorem dX6_readBehind_73 : decode cX6_readBehind 73 = .ok (.invokevirtual 93, 3) := by decide +kernel
theorem dX6_readBehind_76 : decode cX6_readBehind 76 = .ok (.aload_n 0, 1) := by decide +kernel
theorem dX6_readBehind_77 : decode cX6_readBehind 77 = .ok (.iload_n 3, 1) := by decide +kernel
theorem dX6_readBehind_78 : decode cX6_readBehind 78 = .ok (.aload_n 2, 1) := by decide +kernel
theorem dX6_readBehind_79 : decode cX6_readBehind 79 = .ok (.invokevirtual 108, 3) := by decide +kernel
theorem dX6_readBehind_82 : decode cX6_readBehind 82 = .ok (.aload_n 0, 1) := by decide +kernel
theorem dX6_readBehind_83 : decode cX6_readBehind 83 = .ok (.iconst 2, 1) := by decide +kernel
theorem dX6_readBehind_84 : decode cX6_readBehind 84 = .ok (.putfield 28, 3) := by decide +kernel
theorem dX6_readBehind_87 : decode cX6_readBehind 87 = .ok (.aload_n 0, 1) := by decide +kernel
theorem dX6_readBehind_88 : decode cX6_readBehind 88 = .ok (.iconst 1, 1) := by decide +kernel
theorem dX6_readBehind_89 : decode cX6_readBehind 89 = .ok (.putfield 25, 3) := by decide +kernel
theorem dX6_readBehind_92 : decode cX6_readBehind 92 = .ok (.goto 125, 3) := by decide +kernel
theorem dX6_readBehind_95 : decode cX6_readBehind 95 = .ok (.iload_n 3, 1) := by decide +kernel
theorem dX6_readBehind_96 : decode cX6_readBehind 96 = .ok (.sipush 313, 3) := by decide +kernel
theorem dX6_readBehind_99 : decode cX6_readBehind 99 = .ok (.if_icmp .eq 10, 3) := by decide +kernel
theorem dX6_readBehind_102 : decode cX6_readBehind 102 = .ok (.iload_n 3, 1) := by decide +kernel
theorem dX6_readBehind_103 : decode cX6_readBehind 103 = .ok (.sipush 314, 3) := by decide +kernel
theorem dX6_readBehind_106 : decode cX6_readBehind 106 = .ok (.if_icmp .ne 25, 3) := by decide +kernel
theorem dX6_readBehind_109 : decode cX6_readBehind 109 = .ok (.aload_n 0, 1) := by decide +kernel
theorem dX6_readBehind_110 : decode cX6_readBehind 110 = .ok (.getfield 28, 3) := by decide +kernel
theorem dX6_readBehind_113 : decode cX6_readBehind 113 = .ok (.iconst 2, 1) := by decide +kernel
theorem dX6_readBehind_114 : decode cX6_readBehind 114 = .ok (.if_icmp .lt 17, 3) := by decide +kernel
theorem dX6_readBehind_117 : decode cX6_readBehind 117 = .ok (.aload_n 0, 1) := by decide +kernel
theorem dX6_readBehind_118 : decode cX6_readBehind 118 = .ok (.iload_n 3, 1) := by decide +kernel
theorem dX6_readBehind_119 : decode cX6_readBehind 119 = .ok (.aload_n 2, 1) := by decide +kernel
theorem dX6_readBehind_120 : decode cX6_readBehind 120 = .ok (.invokevirtual 108, 3) := by decide +kernel
theorem dX6_readBehind_123 : decode cX6_readBehind 123 = .ok (.aload_n 0, 1) := by decide +kernel
theorem dX6_readBehind_124 : decode cX6_readBehind 124 = .ok (.iconst 2, 1) := by decide +kernel
theorem dX6_readBehind_125 : decode cX6_readBehind 125 = .ok (.putfield 25, 3) := by decide +kernel
theorem dX6_readBehind_128 : decode cX6_readBehind 128 = .ok (.goto 89, 3) := by decide +kernel
theorem dX6_readBehind_131 : decode cX6_readBehind 131 = .ok (.iload_n 3, 1) := by decide +kernel
theorem dX6_readBehind_132 : decode cX6_readBehind 132 = .ok (.bipush 93, 2) := by decide +kernel
theorem dX6_readBehind_134 : decode cX6_readBehind 134 = .ok (.if_icmp .ne 20, 3) := by decide +kernel
theorem dX6_readBehind_137 : decode cX6_readBehind 137 = .ok (.aload_n 0, 1) := by decide +kernel
theorem dX6_readBehind_138 : decode cX6_readBehind 138 = .ok (.getfield 28, 3) := by decide +kernel
theorem dX6_readBehind_141 : decode cX6_readBehind 141 = .ok (.iconst 2, 1) := by decide +kernel
theorem dX6_readBehind_142 : decode cX6_readBehind 142 = .ok (.if_icmp .lt 12, 3) := by decide +kernel
theorem dX6_readBehind_145 : decode cX6_readBehind 145 = .ok (.aload_n 0, 1) := by decide +kernel
theorem dX6_readBehind_146 : decode cX6_readBehind 146 = .ok (.aload_n 1, 1) := by decide +kernel
theorem dX6_readBehind_147 : decode cX6_readBehind 147 = .ok (.aload_n 2, 1) := by decide +kernel
theorem dX6_readBehind_148 : decode cX6_readBehind 148 = .ok (.invokevirtual 112, 3) := by decide +kernel
theorem dX6_readBehind_151 : decode cX6_readBehind 151 = .ok (.goto 66, 3) := by decide +kernel
theorem dX6_readBehind_154 : decode cX6_readBehind 154 = .ok (.iload_n 3, 1) := by decide +kernel
theorem dX6_readBehind_155 : decode cX6_readBehind 155 = .ok (.sipush 312, 3) := by decide +kernel
theorem dX6_readBehind_158 : decode cX6_readBehind 158 = .ok (.if_icmp .ne 32, 3) := by decide +kernel
theorem dX6_readBehind_161 : decode cX6_readBehind 161 = .ok (.aload_n 0, 1) := by decide +kernel
theorem dX6_readBehind_162 : decode cX6_readBehind 162 = .ok (.getfield 28, 3) := by decide +kernel
theorem dX6_readBehind_165 : decode cX6_readBehind 165 = .ok (.ifCond .ne 25, 3) := by decide +kernel
theorem dX6_readBehind_168 : decode cX6_readBehind 168 = .ok (.aload_n 0, 1) := by decide +kernel
theorem dX6_readBehind_169 : decode cX6_readBehind 169 = .ok (.iconst 1, 1) := by decide +kernel
theorem dX6_readBehind_170 : decode cX6_readBehind 170 = .ok (.aload_n 2, 1) := by decide +kernel
theorem dX6_readBehind_171 : decode cX6_readBehind 171 = .ok (.invokevirtual 115, 3) := by decide +kernel
theorem dX6_readBehind_174 : decode cX6_readBehind 174 = .ok (.aload_n 0, 1) := by decide +kernel
theorem dX6_readBehind_175 : decode cX6_readBehind 175 = .ok (.aload_n 2, 1) := by decide +kernel
theorem dX6_readBehind_176 : decode cX6_readBehind 176 = .ok (.getfield 83, 3) := by decide +kernel
theorem dX6_readBehind_179 : decode cX6_readBehind 179 = .ok (.putfield 34, 3) := by decide +kernel
theorem dX6_readBehind_182 : decode cX6_readBehind 182 = .ok (.aload_n 0, 1) := by decide +kernel
theorem dX6_readBehind_183 : decode cX6_readBehind 183 = .ok (.iconst 2, 1) := by decide +kernel
theorem dX6_readBehind_184 : decode cX6_readBehind 184 = .ok (.putfield 25, 3) := by decide +kernel
theorem dX6_readBehind_187 : decode cX6_readBehind 187 = .ok (.goto 30, 3) := by decide +kernel
theorem dX6_readBehind_190 : decode cX6_readBehind 190 = .ok (.iload 5, 2) := by decide +kernel
theorem dX6_readBehind_192 : decode cX6_readBehind 192 = .ok (.ifCond .eq 20, 3) := by decide +kernel
theorem dX6_readBehind_195 : decode cX6_readBehind 195 = .ok (.aload_n 0, 1) := by decide +kernel
theorem dX6_readBehind_196 : decode cX6_readBehind 196 = .ok (.getfield 28, 3) := by decide +kernel
theorem dX6_readBehind_199 : decode cX6_readBehind 199 = .ok (.iconst 1, 1) := by decide +kernel
theorem dX6_readBehind_200 : decode cX6_readBehind 200 = .ok (.if_icmp .eq 12, 3) := by decide +kernel
theorem dX6_readBehind_203 : decode cX6_readBehind 203 = .ok (.aload_n 0, 1) := by decide +kernel
theorem dX6_readBehind_204 : decode cX6_readBehind 204 = .ok (.aload_n 1, 1) := by decide +kernel
theorem dX6_readBehind_205 : decode cX6_readBehind 205 = .ok (.aload_n 2, 1) := by decide +kernel
theorem dX6_readBehind_206 : decode cX6_readBehind 206 = .ok (.invokevirtual 118, 3) := by decide +kernel
theorem dX6_readBehind_209 : decode cX6_readBehind 209 = .ok (.goto 8, 3) := by decide +kernel
theorem dX6_readBehind_212 : decode cX6_readBehind 212 = .ok (.aload_n 1, 1) := by decide +kernel
theorem dX6_readBehind_213 : decode cX6_readBehind 213 = .ok (.iconst 0, 1) := by decide +kernel
theorem dX6_readBehind_214 : decode cX6_readBehind 214 = .ok (.invokevirtual 76, 3) := by decide +kernel
theorem dX6_readBehind_217 : decode cX6_readBehind 217 = .ok (.return_, 1) := by decide +kernel
theorem dX6_closeBracket_0 : decode cX6_closeBracket 0 = .ok (.aload_n 0, 1) := by decide +kernel
theorem dX6_closeBracket_1 : decode cX6_closeBracket 1 = .ok (.iconst 1, 1) := by decide +kernel
theorem dX6_closeBracket_2 : decode cX6_closeBracket 2 = .ok (.aload_n 2, 1) := by decide +kernel
theorem dX6_closeBracket_3 : decode cX6_closeBracket 3 = .ok (.invokevirtual 115, 3) := by decide +kernel
theorem dX6_closeBracket_6 : decode cX6_closeBracket 6 = .ok (.aload_n 0, 1) := by decide +kernel
theorem dX6_closeBracket_7 : decode cX6_closeBracket 7 = .ok (.getfield 15, 3) := by decide +kernel
theorem dX6_closeBracket_10 : decode cX6_closeBracket 10 = .ok (.ifCond .le 31, 3) := by decide +kernel
theorem dX6_closeBracket_13 : decode cX6_closeBracket 13 = .ok (.aload_n 0, 1) := by decide +kernel
theorem dX6_closeBracket_14 : decode cX6_closeBracket 14 = .ok (.dup, 1) := by decide +kernel
theorem dX6_closeBracket_15 : decode cX6_closeBracket 15 = .ok (.getfield 15, 3) := by decide +kernel
theorem dX6_closeBracket_18 : decode cX6_closeBracket 18 = .ok (.iconst 1, 1) := by decide +kernel
theorem dX6_closeBracket_19 : decode cX6_closeBracket 19 = .ok (.isub, 1) := by decide +kernel
theorem dX6_closeBracket_20 : decode cX6_closeBracket 20 = .ok (.putfield 15, 3) := by decide +kernel
theorem dX6_closeBracket_23 : decode cX6_closeBracket 23 = .ok (.aload_n 0, 1) := by decide +kernel
theorem dX6_closeBracket_24 : decode cX6_closeBracket 24 = .ok (.dup, 1) := by decide +kernel
theorem dX6_closeBracket_25 : decode cX6_closeBracket 25 = .ok (.getfield 19, 3) := by decide +kernel
theorem dX6_closeBracket_28 : decode cX6_closeBracket 28 = .ok (.iconst 1, 1) := by decide +kernel
theorem dX6_closeBracket_29 : decode cX6_closeBracket 29 = .ok (.isub, 1) := by decide +kernel
theorem dX6_closeBracket_30 : decode cX6_closeBracket 30 = .ok (.putfield 19, 3) := by decide +kernel
theorem dX6_closeBracket_33 : decode cX6_closeBracket 33 = .ok (.aload_n 0, 1) := by decide +kernel
theorem dX6_closeBracket_34 : decode cX6_closeBracket 34 = .ok (.iconst 3, 1) := by decide +kernel
theorem dX6_closeBracket_35 : decode cX6_closeBracket 35 = .ok (.putfield 28, 3) := by decide +kernel
theorem dX6_closeBracket_38 : decode cX6_closeBracket 38 = .ok (.goto 8, 3) := by decide +kernel
theorem dX6_closeBracket_41 : decode cX6_closeBracket 41 = .ok (.aload_n 1, 1) := by decide +kernel
theorem dX6_closeBracket_42 : decode cX6_closeBracket 42 = .ok (.iconst 0, 1) := by decide +kernel
theorem dX6_closeBracket_43 : decode cX6_closeBracket 43 = .ok (.invokevirtual 76, 3) := by decide +kernel
theorem dX6_closeBracket_46 : decode cX6_closeBracket 46 = .ok (.return_, 1) := by decide +kernel
theorem dX6_closeClause_0 : decode cX6_closeClause 0 = .ok (.aload_n 0, 1) := by decide +kernel
theorem dX6_closeClause_1 : decode cX6_closeClause 1 = .ok (.iconst 1, 1) := by decide +kernel
theorem dX6_closeClause_2 : decode cX6_closeClause 2 = .ok (.aload_n 2, 1) := by decide +kernel
theorem dX6_closeClause_3 : decode cX6_closeClause 3 = .ok (.invokevirtual 115, 3) := by decide +kernel
theorem dX6_closeClause_6 : decode cX6_closeClause 6 = .ok (.aload_n 0, 1) := by decide +kernel
theorem dX6_closeClause_7 : decode cX6_closeClause 7 = .ok (.getfield 15, 3) := by decide +kernel
theorem dX6_closeClause_10 : decode cX6_closeClause 10 = .ok (.ifCond .le 8, 3) := by decide +kernel
theorem dX6_closeClause_13 : decode cX6_closeClause 13 = .ok (.aload_n 1, 1) := by decide +kernel
theorem dX6_closeClause_14 : decode cX6_closeClause 14 = .ok (.iconst 0, 1) := by decide +kernel
theorem dX6_closeClause_15 : decode cX6_closeClause 15 = .ok (.invokevirtual 76, 3) := by decide +kernel
theorem dX6_closeClause_18 : decode cX6_closeClause 18 = .ok (.aload_n 2, 1) := by decide +kernel
theorem dX6_closeClause_19 : decode cX6_closeClause 19 = .ok (.aload_n 0, 1) := by decide +kernel
theorem dX6_closeClause_20 : decode cX6_closeClause 20 = .ok (.getfield 31, 3) := by decide +kernel
theorem dX6_closeClause_23 : decode cX6_closeClause 23 = .ok (.aload_n 0, 1) := by decide +kernel
theorem dX6_closeClause_24 : decode cX6_closeClause 24 = .ok (.getfield 28, 3) := by decide +kernel
theorem dX6_closeClause_27 : decode cX6_closeClause 27 = .ok (.ifCond .ne 10, 3) := by decide +kernel
theorem dX6_closeClause_30 : decode cX6_closeClause 30 = .ok (.aload_n 2, 1) := by decide +kernel
theorem dX6_closeClause_31 : decode cX6_closeClause 31 = .ok (.getfield 83, 3) := by decide +kernel
theorem dX6_closeClause_34 : decode cX6_closeClause 34 = .ok (.goto 7, 3) := by decide +kernel
theorem dX6_closeClause_37 : decode cX6_closeClause 37 = .ok (.aload_n 0, 1) := by decide +kernel
theorem dX6_closeClause_38 : decode cX6_closeClause 38 = .ok (.getfield 34, 3) := by decide +kernel
theorem dX6_closeClause_41 : decode cX6_closeClause 41 = .ok (.invokevirtual 121, 3) := by decide +kernel
theorem dX6_closeClause_44 : decode cX6_closeClause 44 = .ok (.aload_n 0, 1) := by decide +kernel
theorem dX6_closeClause_45 : decode cX6_closeClause 45 = .ok (.aload_n 1, 1) := by decide +kernel
theorem dX6_closeClause_46 : decode cX6_closeClause 46 = .ok (.getfield 73, 3) := by decide +kernel
theorem dX6_closeClause_49 : decode cX6_closeClause 49 = .ok (.bipush 59, 2) := by decide +kernel
theorem dX6_closeClause_51 : decode cX6_closeClause 51 = .ok (.if_icmp .ne 7, 3) := by decide +kernel
theorem dX6_closeClause_54 : decode cX6_closeClause 54 = .ok (.iconst 0, 1) := by decide +kernel
theorem dX6_closeClause_55 : decode cX6_closeClause 55 = .ok (.goto 4, 3) := by decide +kernel
theorem dX6_closeClause_58 : decode cX6_closeClause 58 = .ok (.iconst 4, 1) := by decide +kernel
theorem dX6_closeClause_59 : decode cX6_closeClause 59 = .ok (.putfield 25, 3) := by decide +kernel
theorem dX6_closeClause_62 : decode cX6_closeClause 62 = .ok (.return_, 1) := by decide +kernel
theorem dX6_countItem_0 : decode cX6_countItem 0 = .ok (.aload_n 0, 1) := by decide +kernel
theorem dX6_countItem_1 : decode cX6_countItem 1 = .ok (.dup, 1) := by decide +kernel
theorem dX6_countItem_2 : decode cX6_countItem 2 = .ok (.getfield 22, 3) := by decide +kernel
theorem dX6_countItem_5 : decode cX6_countItem 5 = .ok (.iconst 1, 1) := by decide +kernel
theorem dX6_countItem_6 : decode cX6_countItem 6 = .ok (.iadd, 1) := by decide +kernel
theorem dX6_countItem_7 : decode cX6_countItem 7 = .ok (.putfield 22, 3) := by decide +kernel
theorem dX6_countItem_10 : decode cX6_countItem 10 = .ok (.aload_n 0, 1) := by decide +kernel
theorem dX6_countItem_11 : decode cX6_countItem 11 = .ok (.getfield 22, 3) := by decide +kernel
theorem dX6_countItem_14 : decode cX6_countItem 14 = .ok (.bipush 60, 2) := by decide +kernel
theorem dX6_countItem_16 : decode cX6_countItem 16 = .ok (.if_icmp .le 8, 3) := by decide +kernel
theorem dX6_countItem_19 : decode cX6_countItem 19 = .ok (.aload_n 1, 1) := by decide +kernel
theorem dX6_countItem_20 : decode cX6_countItem 20 = .ok (.iconst 3, 1) := by decide +kernel
theorem dX6_countItem_21 : decode cX6_countItem 21 = .ok (.invokevirtual 76, 3) := by decide +kernel
theorem dX6_countItem_24 : decode cX6_countItem 24 = .ok (.return_, 1) := by decide +kernel
theorem dX6_join_0 : decode cX6_join 0 = .ok (.aload_n 0, 1) := by decide +kernel
theorem dX6_join_1 : decode cX6_join 1 = .ok (.iload_n 1, 1) := by decide +kernel
theorem dX6_join_2 : decode cX6_join 2 = .ok (.invokestatic 104, 3) := by decide +kernel
theorem dX6_join_5 : decode cX6_join 5 = .ok (.aload_n 2, 1) := by decide +kernel
theorem dX6_join_6 : decode cX6_join 6 = .ok (.invokevirtual 115, 3) := by decide +kernel
theorem dX6_join_9 : decode cX6_join 9 = .ok (.aload_n 0, 1) := by decide +kernel
theorem dX6_join_10 : decode cX6_join 10 = .ok (.iload_n 1, 1) := by decide +kernel
theorem dX6_join_11 : decode cX6_join 11 = .ok (.invokevirtual 101, 3) := by decide +kernel
theorem dX6_join_14 : decode cX6_join 14 = .ok (.return_, 1) := by decide +kernel
theorem dX6_push_0 : decode cX6_push 0 = .ok (.aload_n 0, 1) := by decide +kernel
theorem dX6_push_1 : decode cX6_push 1 = .ok (.getfield 15, 3) := by decide +kernel
theorem dX6_push_4 : decode cX6_push 4 = .ok (.sipush 400, 3) := by decide +kernel
theorem dX6_push_7 : decode cX6_push 7 = .ok (.if_icmp .ge 23, 3) := by decide +kernel
theorem dX6_push_10 : decode cX6_push 10 = .ok (.aload_n 0, 1) := by decide +kernel
theorem dX6_push_11 : decode cX6_push 11 = .ok (.getfield 9, 3) := by decide +kernel
theorem dX6_push_14 : decode cX6_push 14 = .ok (.aload_n 0, 1) := by decide +kernel
theorem dX6_push_15 : decode cX6_push 15 = .ok (.getfield 15, 3) := by decide +kernel
theorem dX6_push_18 : decode cX6_push 18 = .ok (.iload_n 1, 1) := by decide +kernel
theorem dX6_push_19 : decode cX6_push 19 = .ok (.iastore, 1) := by decide +kernel
theorem dX6_push_20 : decode cX6_push 20 = .ok (.aload_n 0, 1) := by decide +kernel
theorem dX6_push_21 : decode cX6_push 21 = .ok (.dup, 1) := by decide +kernel
theorem dX6_push_22 : decode cX6_push 22 = .ok (.getfield 15, 3) := by decide +kernel
theorem dX6_push_25 : decode cX6_push 25 = .ok (.iconst 1, 1) := by decide +kernel
theorem dX6_push_26 : decode cX6_push 26 = .ok (.iadd, 1) := by decide +kernel
theorem dX6_push_27 : decode cX6_push 27 = .ok (.putfield 15, 3) := by decide +kernel
theorem dX6_push_30 : decode cX6_push 30 = .ok (.return_, 1) := by decide +kernel
theorem dX6_release_0 : decode cX6_release 0 = .ok (.aload_n 0, 1) := by decide +kernel
theorem dX6_release_1 : decode cX6_release 1 = .ok (.getfield 15, 3) := by decide +kernel
theorem dX6_release_4 : decode cX6_release 4 = .ok (.ifCond .le 77, 3) := by decide +kernel
theorem dX6_release_7 : decode cX6_release 7 = .ok (.aload_n 0, 1) := by decide +kernel
theorem dX6_release_8 : decode cX6_release 8 = .ok (.getfield 9, 3) := by decide +kernel
theorem dX6_release_11 : decode cX6_release 11 = .ok (.aload_n 0, 1) := by decide +kernel
theorem dX6_release_12 : decode cX6_release 12 = .ok (.getfield 15, 3) := by decide +kernel
theorem dX6_release_15 : decode cX6_release 15 = .ok (.iconst 1, 1) := by decide +kernel
theorem dX6_release_16 : decode cX6_release 16 = .ok (.isub, 1) := by decide +kernel
theorem dX6_release_17 : decode cX6_release 17 = .ok (.iaload, 1) := by decide +kernel
theorem dX6_release_18 : decode cX6_release 18 = .ok (.invokestatic 104, 3) := by decide +kernel
theorem dX6_release_21 : decode cX6_release 21 = .ok (.iload_n 1, 1) := by decide +kernel
theorem dX6_release_22 : decode cX6_release 22 = .ok (.if_icmp .lt 59, 3) := by decide +kernel
theorem dX6_release_25 : decode cX6_release 25 = .ok (.aload_n 0, 1) := by decide +kernel
theorem dX6_release_26 : decode cX6_release 26 = .ok (.dup, 1) := by decide +kernel
theorem dX6_release_27 : decode cX6_release 27 = .ok (.getfield 15, 3) := by decide +kernel
theorem dX6_release_30 : decode cX6_release 30 = .ok (.iconst 1, 1) := by decide +kernel
theorem dX6_release_31 : decode cX6_release 31 = .ok (.isub, 1) := by decide +kernel
theorem dX6_release_32 : decode cX6_release 32 = .ok (.putfield 15, 3) := by decide +kernel
theorem dX6_release_35 : decode cX6_release 35 = .ok (.aload_n 2, 1) := by decide +kernel
theorem dX6_release_36 : decode cX6_release 36 = .ok (.aload_n 0, 1) := by decide +kernel
theorem dX6_release_37 : decode cX6_release 37 = .ok (.getfield 9, 3) := by decide +kernel
theorem dX6_release_40 : decode cX6_release 40 = .ok (.aload_n 0, 1) := by decide +kernel
theorem dX6_release_41 : decode cX6_release 41 = .ok (.getfield 15, 3) := by decide +kernel
theorem dX6_release_44 : decode cX6_release 44 = .ok (.iaload, 1) := by decide +kernel
theorem dX6_release_45 : decode cX6_release 45 = .ok (.iconst 0, 1) := by decide +kernel
theorem dX6_release_46 : decode cX6_release 46 = .ok (.invokevirtual 97, 3) := by decide +kernel
theorem dX6_release_49 : decode cX6_release 49 = .ok (.aload_n 0, 1) := by decide +kernel
theorem dX6_release_50 : decode cX6_release 50 = .ok (.dup, 1) := by decide +kernel
theorem dX6_release_51 : decode cX6_release 51 = .ok (.getfield 19, 3) := by decide +kernel
theorem dX6_release_54 : decode cX6_release 54 = .ok (.aload_n 0, 1) := by decide +kernel
theorem dX6_release_55 : decode cX6_release 55 = .ok (.getfield 9, 3) := by decide +kernel
theorem dX6_release_58 : decode cX6_release 58 = .ok (.aload_n 0, 1) := by decide +kernel
theorem dX6_release_59 : decode cX6_release 59 = .ok (.getfield 15, 3) := by decide +kernel
theorem dX6_release_62 : decode cX6_release 62 = .ok (.iaload, 1) := by decide +kernel
theorem dX6_release_63 : decode cX6_release 63 = .ok (.sipush 315, 3) := by decide +kernel
theorem dX6_release_66 : decode cX6_release 66 = .ok (.if_icmp .ne 7, 3) := by decide +kernel
theorem dX6_release_69 : decode cX6_release 69 = .ok (.iconst 1, 1) := by decide +kernel
theorem dX6_release_70 : decode cX6_release 70 = .ok (.goto 4, 3) := by decide +kernel
theorem dX6_release_73 : decode cX6_release 73 = .ok (.iconst 0, 1) := by decide +kernel
theorem dX6_release_74 : decode cX6_release 74 = .ok (.isub, 1) := by decide +kernel
theorem dX6_release_75 : decode cX6_release 75 = .ok (.putfield 19, 3) := by decide +kernel
theorem dX6_release_78 : decode cX6_release 78 = .ok (.goto (-78), 3) := by decide +kernel
theorem dX6_release_81 : decode cX6_release 81 = .ok (.return_, 1) := by decide +kernel
theorem dX6_bindingOf_0 : decode cX6_bindingOf 0 = .ok (.iload_n 0, 1) := by decide +kernel
theorem dX6_bindingOf_1 : decode cX6_bindingOf 1 = .ok (.lookupswitch 128 #[(37, 125), (42, 125), (43, 123), (45, 123), (47, 125), (60, 121), (61, 121), (62, 121), (257, 121), (258, 121), (313, 117), (314, 115), (315, 119)], 115) := by decide +kernel
theorem dX6_bindingOf_116 : decode cX6_bindingOf 116 = .ok (.iconst 1, 1) := by decide +kernel
theorem dX6_bindingOf_117 : decode cX6_bindingOf 117 = .ok (.ireturn, 1) := by decide +kernel
theorem dX6_bindingOf_118 : decode cX6_bindingOf 118 = .ok (.iconst 2, 1) := by decide +kernel
theorem dX6_bindingOf_119 : decode cX6_bindingOf 119 = .ok (.ireturn, 1) := by decide +kernel
theorem dX6_bindingOf_120 : decode cX6_bindingOf 120 = .ok (.iconst 3, 1) := by decide +kernel
theorem dX6_bindingOf_121 : decode cX6_bindingOf 121 = .ok (.ireturn, 1) := by decide +kernel
theorem dX6_bindingOf_122 : decode cX6_bindingOf 122 = .ok (.iconst 4, 1) := by decide +kernel
theorem dX6_bindingOf_123 : decode cX6_bindingOf 123 = .ok (.ireturn, 1) := by decide +kernel
theorem dX6_bindingOf_124 : decode cX6_bindingOf 124 = .ok (.iconst 5, 1) := by decide +kernel
theorem dX6_bindingOf_125 : decode cX6_bindingOf 125 = .ok (.ireturn, 1) := by decide +kernel
theorem dX6_bindingOf_126 : decode cX6_bindingOf 126 = .ok (.bipush 6, 2) := by decide +kernel
theorem dX6_bindingOf_128 : decode cX6_bindingOf 128 = .ok (.ireturn, 1) := by decide +kernel
theorem dX6_bindingOf_129 : decode cX6_bindingOf 129 = .ok (.iconst 0, 1) := by decide +kernel
theorem dX6_bindingOf_130 : decode cX6_bindingOf 130 = .ok (.ireturn, 1) := by decide +kernel
theorem dX7_init_0 : decode cX7_init 0 = .ok (.aload_n 0, 1) := by decide +kernel
theorem dX7_init_1 : decode cX7_init 1 = .ok (.invokespecial 3, 3) := by decide +kernel
theorem dX7_init_4 : decode cX7_init 4 = .ok (.aload_n 0, 1) := by decide +kernel
theorem dX7_init_5 : decode cX7_init 5 = .ok (.bipush 6, 2) := by decide +kernel
theorem dX7_init_7 : decode cX7_init 7 = .ok (.newarray .int, 2) := by decide +kernel
theorem dX7_init_9 : decode cX7_init 9 = .ok (.putfield 9, 3) := by decide +kernel
theorem dX7_init_12 : decode cX7_init 12 = .ok (.aload_n 0, 1) := by decide +kernel
theorem dX7_init_13 : decode cX7_init 13 = .ok (.bipush 6, 2) := by decide +kernel
theorem dX7_init_15 : decode cX7_init 15 = .ok (.newarray .int, 2) := by decide +kernel
theorem dX7_init_17 : decode cX7_init 17 = .ok (.putfield 15, 3) := by decide +kernel
theorem dX7_init_20 : decode cX7_init 20 = .ok (.aload_n 0, 1) := by decide +kernel
theorem dX7_init_21 : decode cX7_init 21 = .ok (.bipush 6, 2) := by decide +kernel
theorem dX7_init_23 : decode cX7_init 23 = .ok (.newarray .int, 2) := by decide +kernel
theorem dX7_init_25 : decode cX7_init 25 = .ok (.putfield 18, 3) := by decide +kernel
theorem dX7_init_28 : decode cX7_init 28 = .ok (.aload_n 0, 1) := by decide +kernel
theorem dX7_init_29 : decode cX7_init 29 = .ok (.bipush 6, 2) := by decide +kernel
theorem dX7_init_31 : decode cX7_init 31 = .ok (.newarray .int, 2) := by decide +kernel
theorem dX7_init_33 : decode cX7_init 33 = .ok (.putfield 21, 3) := by decide +kernel
theorem dX7_init_36 : decode cX7_init 36 = .ok (.aload_n 0, 1) := by decide +kernel
theorem dX7_init_37 : decode cX7_init 37 = .ok (.bipush 6, 2) := by decide +kernel
theorem dX7_init_39 : decode cX7_init 39 = .ok (.newarray .int, 2) := by decide +kernel
theorem dX7_init_41 : decode cX7_init 41 = .ok (.putfield 24, 3) := by decide +kernel
theorem dX7_init_44 : decode cX7_init 44 = .ok (.aload_n 0, 1) := by decide +kernel
theorem dX7_init_45 : decode cX7_init 45 = .ok (.iconst 4, 1) := by decide +kernel
theorem dX7_init_46 : decode cX7_init 46 = .ok (.newarray .int, 2) := by decide +kernel
theorem dX7_init_48 : decode cX7_init 48 = .ok (.putfield 27, 3) := by decide +kernel
theorem dX7_init_51 : decode cX7_init 51 = .ok (.aload_n 0, 1) := by decide +kernel
theorem dX7_init_52 : decode cX7_init 52 = .ok (.bipush 36, 2) := by decide +kernel
theorem dX7_init_54 : decode cX7_init 54 = .ok (.newarray .int, 2) := by decide +kernel
theorem dX7_init_56 : decode cX7_init 56 = .ok (.putfield 30, 3) := by decide +kernel
theorem dX7_init_59 : decode cX7_init 59 = .ok (.aload_n 0, 1) := by decide +kernel
theorem dX7_init_60 : decode cX7_init 60 = .ok (.iconst 0, 1) := by decide +kernel
theorem dX7_init_61 : decode cX7_init 61 = .ok (.putfield 33, 3) := by decide +kernel
theorem dX7_init_64 : decode cX7_init 64 = .ok (.aload_n 0, 1) := by decide +kernel
theorem dX7_init_65 : decode cX7_init 65 = .ok (.iconst 0, 1) := by decide +kernel
theorem dX7_init_66 : decode cX7_init 66 = .ok (.putfield 37, 3) := by decide +kernel
theorem dX7_init_69 : decode cX7_init 69 = .ok (.return_, 1) := by decide +kernel
theorem dX7_begin_0 : decode cX7_begin 0 = .ok (.aload_n 1, 1) := by decide +kernel
theorem dX7_begin_1 : decode cX7_begin 1 = .ok (.getfield 40, 3) := by decide +kernel
theorem dX7_begin_4 : decode cX7_begin 4 = .ok (.iconst 0, 1) := by decide +kernel
theorem dX7_begin_5 : decode cX7_begin 5 = .ok (.aload_n 0, 1) := by decide +kernel
theorem dX7_begin_6 : decode cX7_begin 6 = .ok (.getfield 9, 3) := by decide +kernel
theorem dX7_begin_9 : decode cX7_begin 9 = .ok (.iconst 0, 1) := by decide +kernel
theorem dX7_begin_10 : decode cX7_begin 10 = .ok (.bipush 6, 2) := by decide +kernel
theorem dX7_begin_12 : decode cX7_begin 12 = .ok (.invokestatic 43, 3) := by decide +kernel
theorem dX7_begin_15 : decode cX7_begin 15 = .ok (.aload_n 1, 1) := by decide +kernel
theorem dX7_begin_16 : decode cX7_begin 16 = .ok (.getfield 49, 3) := by decide +kernel
theorem dX7_begin_19 : decode cX7_begin 19 = .ok (.iconst 0, 1) := by decide +kernel
theorem dX7_begin_20 : decode cX7_begin 20 = .ok (.aload_n 0, 1) := by decide +kernel
theorem dX7_begin_21 : decode cX7_begin 21 = .ok (.getfield 15, 3) := by decide +kernel
theorem dX7_begin_24 : decode cX7_begin 24 = .ok (.iconst 0, 1) := by decide +kernel
theorem dX7_begin_25 : decode cX7_begin 25 = .ok (.bipush 6, 2) := by decide +kernel
theorem dX7_begin_27 : decode cX7_begin 27 = .ok (.invokestatic 43, 3) := by decide +kernel
theorem dX7_begin_30 : decode cX7_begin 30 = .ok (.aload_n 0, 1) := by decide +kernel
theorem dX7_begin_31 : decode cX7_begin 31 = .ok (.getfield 18, 3) := by decide +kernel
theorem dX7_begin_34 : decode cX7_begin 34 = .ok (.iconst 0, 1) := by decide +kernel
theorem dX7_begin_35 : decode cX7_begin 35 = .ok (.invokestatic 50, 3) := by decide +kernel
theorem dX7_begin_38 : decode cX7_begin 38 = .ok (.aload_n 0, 1) := by decide +kernel
theorem dX7_begin_39 : decode cX7_begin 39 = .ok (.getfield 21, 3) := by decide +kernel
theorem dX7_begin_42 : decode cX7_begin 42 = .ok (.iconst 0, 1) := by decide +kernel
theorem dX7_begin_43 : decode cX7_begin 43 = .ok (.invokestatic 50, 3) := by decide +kernel
theorem dX7_begin_46 : decode cX7_begin 46 = .ok (.aload_n 0, 1) := by decide +kernel
theorem dX7_begin_47 : decode cX7_begin 47 = .ok (.getfield 24, 3) := by decide +kernel
theorem dX7_begin_50 : decode cX7_begin 50 = .ok (.bipush 99, 2) := by decide +kernel
theorem dX7_begin_52 : decode cX7_begin 52 = .ok (.invokestatic 50, 3) := by decide +kernel
theorem dX7_begin_55 : decode cX7_begin 55 = .ok (.aload_n 0, 1) := by decide +kernel
theorem dX7_begin_56 : decode cX7_begin 56 = .ok (.getfield 27, 3) := by decide +kernel
theorem dX7_begin_59 : decode cX7_begin 59 = .ok (.iconst 0, 1) := by decide +kernel
theorem dX7_begin_60 : decode cX7_begin 60 = .ok (.invokestatic 50, 3) := by decide +kernel
theorem dX7_begin_63 : decode cX7_begin 63 = .ok (.aload_n 0, 1) := by decide +kernel
theorem dX7_begin_64 : decode cX7_begin 64 = .ok (.getfield 30, 3) := by decide +kernel
theorem dX7_begin_67 : decode cX7_begin 67 = .ok (.iconst 0, 1) := by decide +kernel
theorem dX7_begin_68 : decode cX7_begin 68 = .ok (.invokestatic 50, 3) := by decide +kernel
theorem dX7_begin_71 : decode cX7_begin 71 = .ok (.aload_n 0, 1) := by decide +kernel
theorem dX7_begin_72 : decode cX7_begin 72 = .ok (.iconst 0, 1) := by decide +kernel
theorem dX7_begin_73 : decode cX7_begin 73 = .ok (.putfield 33, 3) := by decide +kernel
theorem dX7_begin_76 : decode cX7_begin 76 = .ok (.aload_n 0, 1) := by decide +kernel
theorem dX7_begin_77 : decode cX7_begin 77 = .ok (.iconst 0, 1) := by decide +kernel
theorem dX7_begin_78 : decode cX7_begin 78 = .ok (.putfield 37, 3) := by decide +kernel
theorem dX7_begin_81 : decode cX7_begin 81 = .ok (.return_, 1) := by decide +kernel
theorem dX7_copyFrom_0 : decode cX7_copyFrom 0 = .ok (.aload_n 1, 1) := by decide +kernel
theorem dX7_copyFrom_1 : decode cX7_copyFrom 1 = .ok (.getfield 9, 3) := by decide +kernel
theorem dX7_copyFrom_4 : decode cX7_copyFrom 4 = .ok (.iconst 0, 1) := by decide +kernel
theorem dX7_copyFrom_5 : decode cX7_copyFrom 5 = .ok (.aload_n 0, 1) := by decide +kernel
theorem dX7_copyFrom_6 : decode cX7_copyFrom 6 = .ok (.getfield 9, 3) := by decide +kernel
theorem dX7_copyFrom_9 : decode cX7_copyFrom 9 = .ok (.iconst 0, 1) := by decide +kernel
theorem dX7_copyFrom_10 : decode cX7_copyFrom 10 = .ok (.bipush 6, 2) := by decide +kernel
theorem dX7_copyFrom_12 : decode cX7_copyFrom 12 = .ok (.invokestatic 43, 3) := by decide +kernel
