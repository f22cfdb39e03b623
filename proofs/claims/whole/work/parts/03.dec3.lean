theorem dX12_tries_56 : decode cX12_tries 56 = .ok (.aload_n 0, 1) := by decide +kernel
theorem dX12_tries_57 : decode cX12_tries 57 = .ok (.iload_n 3, 1) := by decide +kernel
theorem dX12_tries_58 : decode cX12_tries 58 = .ok (.putfield 457, 3) := by decide +kernel
theorem dX12_tries_61 : decode cX12_tries 61 = .ok (.aload_n 0, 1) := by decide +kernel
theorem dX12_tries_62 : decode cX12_tries 62 = .ok (.iload 4, 2) := by decide +kernel
theorem dX12_tries_64 : decode cX12_tries 64 = .ok (.putfield 460, 3) := by decide +kernel
theorem dX12_tries_67 : decode cX12_tries 67 = .ok (.return_, 1) := by decide +kernel
theorem dX12_ofWays_0 : decode cX12_ofWays 0 = .ok (.iload_n 1, 1) := by decide +kernel
theorem dX12_ofWays_1 : decode cX12_ofWays 1 = .ok (.ifCond .ne 10, 3) := by decide +kernel
theorem dX12_ofWays_4 : decode cX12_ofWays 4 = .ok (.aload_n 0, 1) := by decide +kernel
theorem dX12_ofWays_5 : decode cX12_ofWays 5 = .ok (.getfield 454, 3) := by decide +kernel
theorem dX12_ofWays_8 : decode cX12_ofWays 8 = .ok (.goto 19, 3) := by decide +kernel
theorem dX12_ofWays_11 : decode cX12_ofWays 11 = .ok (.iload_n 1, 1) := by decide +kernel
theorem dX12_ofWays_12 : decode cX12_ofWays 12 = .ok (.iconst 1, 1) := by decide +kernel
theorem dX12_ofWays_13 : decode cX12_ofWays 13 = .ok (.if_icmp .ne 10, 3) := by decide +kernel
theorem dX12_ofWays_16 : decode cX12_ofWays 16 = .ok (.aload_n 0, 1) := by decide +kernel
theorem dX12_ofWays_17 : decode cX12_ofWays 17 = .ok (.getfield 457, 3) := by decide +kernel
theorem dX12_ofWays_20 : decode cX12_ofWays 20 = .ok (.goto 7, 3) := by decide +kernel
theorem dX12_ofWays_23 : decode cX12_ofWays 23 = .ok (.aload_n 0, 1) := by decide +kernel
theorem dX12_ofWays_24 : decode cX12_ofWays 24 = .ok (.getfield 460, 3) := by decide +kernel
theorem dX12_ofWays_27 : decode cX12_ofWays 27 = .ok (.ireturn, 1) := by decide +kernel
theorem dX12_stand_0 : decode cX12_stand 0 = .ok (.aload_n 0, 1) := by decide +kernel
theorem dX12_stand_1 : decode cX12_stand 1 = .ok (.iload_n 1, 1) := by decide +kernel
theorem dX12_stand_2 : decode cX12_stand 2 = .ok (.invokevirtual 358, 3) := by decide +kernel
theorem dX12_stand_5 : decode cX12_stand 5 = .ok (.ifCond .eq 27, 3) := by decide +kernel
theorem dX12_stand_8 : decode cX12_stand 8 = .ok (.iload_n 2, 1) := by decide +kernel
theorem dX12_stand_9 : decode cX12_stand 9 = .ok (.i2l, 1) := by decide +kernel
theorem dX12_stand_10 : decode cX12_stand 10 = .ok (.lconst 1, 1) := by decide +kernel
theorem dX12_stand_11 : decode cX12_stand 11 = .ok (.ldc2_w 463, 3) := by decide +kernel
theorem dX12_stand_14 : decode cX12_stand 14 = .ok (.invokestatic 159, 3) := by decide +kernel
theorem dX12_stand_17 : decode cX12_stand 17 = .ok (.ifCond .eq 15, 3) := by decide +kernel
theorem dX12_stand_20 : decode cX12_stand 20 = .ok (.iload_n 3, 1) := by decide +kernel
theorem dX12_stand_21 : decode cX12_stand 21 = .ok (.i2l, 1) := by decide +kernel
theorem dX12_stand_22 : decode cX12_stand 22 = .ok (.lconst 0, 1) := by decide +kernel
theorem dX12_stand_23 : decode cX12_stand 23 = .ok (.ldc2_w 368, 3) := by decide +kernel
theorem dX12_stand_26 : decode cX12_stand 26 = .ok (.invokestatic 159, 3) := by decide +kernel
theorem dX12_stand_29 : decode cX12_stand 29 = .ok (.ifCond .ne 5, 3) := by decide +kernel
theorem dX12_stand_32 : decode cX12_stand 32 = .ok (.iconst (-1), 1) := by decide +kernel
theorem dX12_stand_33 : decode cX12_stand 33 = .ok (.ireturn, 1) := by decide +kernel
theorem dX12_stand_34 : decode cX12_stand 34 = .ok (.aload_n 0, 1) := by decide +kernel
theorem dX12_stand_35 : decode cX12_stand 35 = .ok (.invokevirtual 443, 3) := by decide +kernel
theorem dX12_stand_38 : decode cX12_stand 38 = .ok (.aload_n 0, 1) := by decide +kernel
theorem dX12_stand_39 : decode cX12_stand 39 = .ok (.invokevirtual 465, 3) := by decide +kernel
theorem dX12_stand_42 : decode cX12_stand 42 = .ok (.iconst 0, 1) := by decide +kernel
theorem dX12_stand_43 : decode cX12_stand 43 = .ok (.istore 4, 2) := by decide +kernel
theorem dX12_stand_45 : decode cX12_stand 45 = .ok (.iload 4, 2) := by decide +kernel
theorem dX12_stand_47 : decode cX12_stand 47 = .ok (.aload_n 0, 1) := by decide +kernel
theorem dX12_stand_48 : decode cX12_stand 48 = .ok (.invokevirtual 155, 3) := by decide +kernel
theorem dX12_stand_51 : decode cX12_stand 51 = .ok (.if_icmp .ge 24, 3) := by decide +kernel
theorem dX12_stand_54 : decode cX12_stand 54 = .ok (.aload_n 0, 1) := by decide +kernel
theorem dX12_stand_55 : decode cX12_stand 55 = .ok (.getfield 13, 3) := by decide +kernel
theorem dX12_stand_58 : decode cX12_stand 58 = .ok (.iload_n 1, 1) := by decide +kernel
theorem dX12_stand_59 : decode cX12_stand 59 = .ok (.iload 4, 2) := by decide +kernel
theorem dX12_stand_61 : decode cX12_stand 61 = .ok (.iastore, 1) := by decide +kernel
theorem dX12_stand_62 : decode cX12_stand 62 = .ok (.aload_n 0, 1) := by decide +kernel
theorem dX12_stand_63 : decode cX12_stand 63 = .ok (.iload 4, 2) := by decide +kernel
theorem dX12_stand_65 : decode cX12_stand 65 = .ok (.iload_n 2, 1) := by decide +kernel
theorem dX12_stand_66 : decode cX12_stand 66 = .ok (.invokevirtual 468, 3) := by decide +kernel
theorem dX12_stand_69 : decode cX12_stand 69 = .ok (.iinc 4 1, 3) := by decide +kernel
theorem dX12_stand_72 : decode cX12_stand 72 = .ok (.goto (-27), 3) := by decide +kernel
theorem dX12_stand_75 : decode cX12_stand 75 = .ok (.aload_n 0, 1) := by decide +kernel
theorem dX12_stand_76 : decode cX12_stand 76 = .ok (.iload_n 3, 1) := by decide +kernel
theorem dX12_stand_77 : decode cX12_stand 77 = .ok (.invokevirtual 471, 3) := by decide +kernel
theorem dX12_stand_80 : decode cX12_stand 80 = .ok (.ireturn, 1) := by decide +kernel
theorem dX12_turn_0 : decode cX12_turn 0 = .ok (.aload_n 0, 1) := by decide +kernel
theorem dX12_turn_1 : decode cX12_turn 1 = .ok (.iload_n 1, 1) := by decide +kernel
theorem dX12_turn_2 : decode cX12_turn 2 = .ok (.invokevirtual 358, 3) := by decide +kernel
theorem dX12_turn_5 : decode cX12_turn 5 = .ok (.ifCond .eq 27, 3) := by decide +kernel
theorem dX12_turn_8 : decode cX12_turn 8 = .ok (.iload_n 2, 1) := by decide +kernel
theorem dX12_turn_9 : decode cX12_turn 9 = .ok (.i2l, 1) := by decide +kernel
theorem dX12_turn_10 : decode cX12_turn 10 = .ok (.lconst 1, 1) := by decide +kernel
theorem dX12_turn_11 : decode cX12_turn 11 = .ok (.ldc2_w 463, 3) := by decide +kernel
theorem dX12_turn_14 : decode cX12_turn 14 = .ok (.invokestatic 159, 3) := by decide +kernel
theorem dX12_turn_17 : decode cX12_turn 17 = .ok (.ifCond .eq 15, 3) := by decide +kernel
theorem dX12_turn_20 : decode cX12_turn 20 = .ok (.iload_n 3, 1) := by decide +kernel
theorem dX12_turn_21 : decode cX12_turn 21 = .ok (.i2l, 1) := by decide +kernel
theorem dX12_turn_22 : decode cX12_turn 22 = .ok (.lconst 0, 1) := by decide +kernel
theorem dX12_turn_23 : decode cX12_turn 23 = .ok (.ldc2_w 368, 3) := by decide +kernel
theorem dX12_turn_26 : decode cX12_turn 26 = .ok (.invokestatic 159, 3) := by decide +kernel
theorem dX12_turn_29 : decode cX12_turn 29 = .ok (.ifCond .ne 5, 3) := by decide +kernel
theorem dX12_turn_32 : decode cX12_turn 32 = .ok (.iconst (-1), 1) := by decide +kernel
theorem dX12_turn_33 : decode cX12_turn 33 = .ok (.ireturn, 1) := by decide +kernel
theorem dX12_turn_34 : decode cX12_turn 34 = .ok (.aload_n 0, 1) := by decide +kernel
theorem dX12_turn_35 : decode cX12_turn 35 = .ok (.invokevirtual 443, 3) := by decide +kernel
theorem dX12_turn_38 : decode cX12_turn 38 = .ok (.aload_n 0, 1) := by decide +kernel
theorem dX12_turn_39 : decode cX12_turn 39 = .ok (.invokevirtual 465, 3) := by decide +kernel
theorem dX12_turn_42 : decode cX12_turn 42 = .ok (.iconst 0, 1) := by decide +kernel
theorem dX12_turn_43 : decode cX12_turn 43 = .ok (.istore 4, 2) := by decide +kernel
theorem dX12_turn_45 : decode cX12_turn 45 = .ok (.iload 4, 2) := by decide +kernel
theorem dX12_turn_47 : decode cX12_turn 47 = .ok (.iconst 4, 1) := by decide +kernel
theorem dX12_turn_48 : decode cX12_turn 48 = .ok (.if_icmp .ge 24, 3) := by decide +kernel
theorem dX12_turn_51 : decode cX12_turn 51 = .ok (.aload_n 0, 1) := by decide +kernel
theorem dX12_turn_52 : decode cX12_turn 52 = .ok (.getfield 16, 3) := by decide +kernel
theorem dX12_turn_55 : decode cX12_turn 55 = .ok (.iload_n 1, 1) := by decide +kernel
theorem dX12_turn_56 : decode cX12_turn 56 = .ok (.iload 4, 2) := by decide +kernel
theorem dX12_turn_58 : decode cX12_turn 58 = .ok (.iastore, 1) := by decide +kernel
theorem dX12_turn_59 : decode cX12_turn 59 = .ok (.aload_n 0, 1) := by decide +kernel
theorem dX12_turn_60 : decode cX12_turn 60 = .ok (.iload 4, 2) := by decide +kernel
theorem dX12_turn_62 : decode cX12_turn 62 = .ok (.iload_n 2, 1) := by decide +kernel
theorem dX12_turn_63 : decode cX12_turn 63 = .ok (.invokevirtual 468, 3) := by decide +kernel
theorem dX12_turn_66 : decode cX12_turn 66 = .ok (.iinc 4 1, 3) := by decide +kernel
theorem dX12_turn_69 : decode cX12_turn 69 = .ok (.goto (-24), 3) := by decide +kernel
theorem dX12_turn_72 : decode cX12_turn 72 = .ok (.aload_n 0, 1) := by decide +kernel
theorem dX12_turn_73 : decode cX12_turn 73 = .ok (.iload_n 3, 1) := by decide +kernel
theorem dX12_turn_74 : decode cX12_turn 74 = .ok (.invokevirtual 471, 3) := by decide +kernel
theorem dX12_turn_77 : decode cX12_turn 77 = .ok (.ireturn, 1) := by decide +kernel
theorem dX12_takes_0 : decode cX12_takes 0 = .ok (.aload_n 0, 1) := by decide +kernel
theorem dX12_takes_1 : decode cX12_takes 1 = .ok (.iload_n 1, 1) := by decide +kernel
theorem dX12_takes_2 : decode cX12_takes 2 = .ok (.invokevirtual 358, 3) := by decide +kernel
theorem dX12_takes_5 : decode cX12_takes 5 = .ok (.ifCond .eq 36, 3) := by decide +kernel
theorem dX12_takes_8 : decode cX12_takes 8 = .ok (.aload_n 0, 1) := by decide +kernel
theorem dX12_takes_9 : decode cX12_takes 9 = .ok (.iload_n 2, 1) := by decide +kernel
theorem dX12_takes_10 : decode cX12_takes 10 = .ok (.invokevirtual 365, 3) := by decide +kernel
theorem dX12_takes_13 : decode cX12_takes 13 = .ok (.ifCond .eq 28, 3) := by decide +kernel
theorem dX12_takes_16 : decode cX12_takes 16 = .ok (.iload_n 3, 1) := by decide +kernel
theorem dX12_takes_17 : decode cX12_takes 17 = .ok (.i2l, 1) := by decide +kernel
theorem dX12_takes_18 : decode cX12_takes 18 = .ok (.lconst 1, 1) := by decide +kernel
theorem dX12_takes_19 : decode cX12_takes 19 = .ok (.ldc2_w 474, 3) := by decide +kernel
theorem dX12_takes_22 : decode cX12_takes 22 = .ok (.invokestatic 159, 3) := by decide +kernel
theorem dX12_takes_25 : decode cX12_takes 25 = .ok (.ifCond .eq 16, 3) := by decide +kernel
theorem dX12_takes_28 : decode cX12_takes 28 = .ok (.iload 4, 2) := by decide +kernel
theorem dX12_takes_30 : decode cX12_takes 30 = .ok (.i2l, 1) := by decide +kernel
theorem dX12_takes_31 : decode cX12_takes 31 = .ok (.lconst 1, 1) := by decide +kernel
theorem dX12_takes_32 : decode cX12_takes 32 = .ok (.ldc2_w 463, 3) := by decide +kernel
theorem dX12_takes_35 : decode cX12_takes 35 = .ok (.invokestatic 159, 3) := by decide +kernel
theorem dX12_takes_38 : decode cX12_takes 38 = .ok (.ifCond .ne 5, 3) := by decide +kernel
theorem dX12_takes_41 : decode cX12_takes 41 = .ok (.iconst (-1), 1) := by decide +kernel
theorem dX12_takes_42 : decode cX12_takes 42 = .ok (.ireturn, 1) := by decide +kernel
theorem dX12_takes_43 : decode cX12_takes 43 = .ok (.aload_n 0, 1) := by decide +kernel
theorem dX12_takes_44 : decode cX12_takes 44 = .ok (.invokevirtual 443, 3) := by decide +kernel
theorem dX12_takes_47 : decode cX12_takes 47 = .ok (.bipush (-2), 2) := by decide +kernel
theorem dX12_takes_49 : decode cX12_takes 49 = .ok (.istore 5, 2) := by decide +kernel
theorem dX12_takes_51 : decode cX12_takes 51 = .ok (.iconst 0, 1) := by decide +kernel
theorem dX12_takes_52 : decode cX12_takes 52 = .ok (.istore 6, 2) := by decide +kernel
theorem dX12_takes_54 : decode cX12_takes 54 = .ok (.iload 6, 2) := by decide +kernel
theorem dX12_takes_56 : decode cX12_takes 56 = .ok (.bipush 40, 2) := by decide +kernel
theorem dX12_takes_58 : decode cX12_takes 58 = .ok (.if_icmp .gt 65, 3) := by decide +kernel
theorem dX12_takes_61 : decode cX12_takes 61 = .ok (.iload 5, 2) := by decide +kernel
theorem dX12_takes_63 : decode cX12_takes 63 = .ok (.bipush (-2), 2) := by decide +kernel
theorem dX12_takes_65 : decode cX12_takes 65 = .ok (.if_icmp .ne 58, 3) := by decide +kernel
theorem dX12_takes_68 : decode cX12_takes 68 = .ok (.aload_n 0, 1) := by decide +kernel
theorem dX12_takes_69 : decode cX12_takes 69 = .ok (.getfield 19, 3) := by decide +kernel
theorem dX12_takes_72 : decode cX12_takes 72 = .ok (.iload_n 1, 1) := by decide +kernel
theorem dX12_takes_73 : decode cX12_takes 73 = .ok (.aload_n 0, 1) := by decide +kernel
theorem dX12_takes_74 : decode cX12_takes 74 = .ok (.getfield 19, 3) := by decide +kernel
theorem dX12_takes_77 : decode cX12_takes 77 = .ok (.iload_n 1, 1) := by decide +kernel
theorem dX12_takes_78 : decode cX12_takes 78 = .ok (.iaload, 1) := by decide +kernel
theorem dX12_takes_79 : decode cX12_takes 79 = .ok (.iload 6, 2) := by decide +kernel
theorem dX12_takes_81 : decode cX12_takes 81 = .ok (.iadd, 1) := by decide +kernel
theorem dX12_takes_82 : decode cX12_takes 82 = .ok (.bipush 99, 2) := by decide +kernel
theorem dX12_takes_84 : decode cX12_takes 84 = .ok (.invokestatic 395, 3) := by decide +kernel
theorem dX12_takes_87 : decode cX12_takes 87 = .ok (.iastore, 1) := by decide +kernel
theorem dX12_takes_88 : decode cX12_takes 88 = .ok (.aload_n 0, 1) := by decide +kernel
theorem dX12_takes_89 : decode cX12_takes 89 = .ok (.iload 4, 2) := by decide +kernel
theorem dX12_takes_91 : decode cX12_takes 91 = .ok (.invokevirtual 446, 3) := by decide +kernel
theorem dX12_takes_94 : decode cX12_takes 94 = .ok (.aload_n 0, 1) := by decide +kernel
theorem dX12_takes_95 : decode cX12_takes 95 = .ok (.getfield 28, 3) := by decide +kernel
theorem dX12_takes_98 : decode cX12_takes 98 = .ok (.iload_n 2, 1) := by decide +kernel
theorem dX12_takes_99 : decode cX12_takes 99 = .ok (.iaload, 1) := by decide +kernel
theorem dX12_takes_100 : decode cX12_takes 100 = .ok (.iload_n 3, 1) := by decide +kernel
theorem dX12_takes_101 : decode cX12_takes 101 = .ok (.if_icmp .lt 8, 3) := by decide +kernel
theorem dX12_takes_104 : decode cX12_takes 104 = .ok (.iload 6, 2) := by decide +kernel
theorem dX12_takes_106 : decode cX12_takes 106 = .ok (.goto 5, 3) := by decide +kernel
theorem dX12_takes_109 : decode cX12_takes 109 = .ok (.bipush (-2), 2) := by decide +kernel
theorem dX12_takes_111 : decode cX12_takes 111 = .ok (.istore 5, 2) := by decide +kernel
theorem dX12_takes_113 : decode cX12_takes 113 = .ok (.aload_n 0, 1) := by decide +kernel
theorem dX12_takes_114 : decode cX12_takes 114 = .ok (.invokevirtual 449, 3) := by decide +kernel
theorem dX12_takes_117 : decode cX12_takes 117 = .ok (.iinc 6 1, 3) := by decide +kernel
theorem dX12_takes_120 : decode cX12_takes 120 = .ok (.goto (-66), 3) := by decide +kernel
theorem dX12_takes_123 : decode cX12_takes 123 = .ok (.iload 5, 2) := by decide +kernel
theorem dX12_takes_125 : decode cX12_takes 125 = .ok (.ireturn, 1) := by decide +kernel
theorem dX12_blown_0 : decode cX12_blown 0 = .ok (.aload_n 0, 1) := by decide +kernel
theorem dX12_blown_1 : decode cX12_blown 1 = .ok (.iload_n 1, 1) := by decide +kernel
theorem dX12_blown_2 : decode cX12_blown 2 = .ok (.invokevirtual 373, 3) := by decide +kernel
theorem dX12_blown_5 : decode cX12_blown 5 = .ok (.ifCond .eq 27, 3) := by decide +kernel
theorem dX12_blown_8 : decode cX12_blown 8 = .ok (.iload_n 2, 1) := by decide +kernel
theorem dX12_blown_9 : decode cX12_blown 9 = .ok (.i2l, 1) := by decide +kernel
theorem dX12_blown_10 : decode cX12_blown 10 = .ok (.lconst 0, 1) := by decide +kernel
theorem dX12_blown_11 : decode cX12_blown 11 = .ok (.ldc2_w 476, 3) := by decide +kernel
theorem dX12_blown_14 : decode cX12_blown 14 = .ok (.invokestatic 159, 3) := by decide +kernel
theorem dX12_blown_17 : decode cX12_blown 17 = .ok (.ifCond .eq 15, 3) := by decide +kernel
theorem dX12_blown_20 : decode cX12_blown 20 = .ok (.iload_n 3, 1) := by decide +kernel
theorem dX12_blown_21 : decode cX12_blown 21 = .ok (.i2l, 1) := by decide +kernel
theorem dX12_blown_22 : decode cX12_blown 22 = .ok (.lconst 0, 1) := by decide +kernel
theorem dX12_blown_23 : decode cX12_blown 23 = .ok (.ldc2_w 368, 3) := by decide +kernel
theorem dX12_blown_26 : decode cX12_blown 26 = .ok (.invokestatic 159, 3) := by decide +kernel
theorem dX12_blown_29 : decode cX12_blown 29 = .ok (.ifCond .ne 6, 3) := by decide +kernel
theorem dX12_blown_32 : decode cX12_blown 32 = .ok (.bipush (-3), 2) := by decide +kernel
theorem dX12_blown_34 : decode cX12_blown 34 = .ok (.ireturn, 1) := by decide +kernel
theorem dX12_blown_35 : decode cX12_blown 35 = .ok (.iconst 0, 1) := by decide +kernel
theorem dX12_blown_36 : decode cX12_blown 36 = .ok (.istore 4, 2) := by decide +kernel
theorem dX12_blown_38 : decode cX12_blown 38 = .ok (.bipush (-2), 2) := by decide +kernel
theorem dX12_blown_40 : decode cX12_blown 40 = .ok (.istore 5, 2) := by decide +kernel
theorem dX12_blown_42 : decode cX12_blown 42 = .ok (.iconst 0, 1) := by decide +kernel
theorem dX12_blown_43 : decode cX12_blown 43 = .ok (.istore 6, 2) := by decide +kernel
theorem dX12_blown_45 : decode cX12_blown 45 = .ok (.iconst 0, 1) := by decide +kernel
theorem dX12_blown_46 : decode cX12_blown 46 = .ok (.istore 7, 2) := by decide +kernel
theorem dX12_blown_48 : decode cX12_blown 48 = .ok (.iload 7, 2) := by decide +kernel
theorem dX12_blown_50 : decode cX12_blown 50 = .ok (.iconst 1, 1) := by decide +kernel
theorem dX12_blown_51 : decode cX12_blown 51 = .ok (.aload_n 0, 1) := by decide +kernel
theorem dX12_blown_52 : decode cX12_blown 52 = .ok (.getfield 9, 3) := by decide +kernel
theorem dX12_blown_55 : decode cX12_blown 55 = .ok (.iconst 2, 1) := by decide +kernel
theorem dX12_blown_56 : decode cX12_blown 56 = .ok (.iaload, 1) := by decide +kernel
theorem dX12_blown_57 : decode cX12_blown 57 = .ok (.ishl, 1) := by decide +kernel
theorem dX12_blown_58 : decode cX12_blown 58 = .ok (.if_icmp .ge 98, 3) := by decide +kernel
theorem dX12_blown_61 : decode cX12_blown 61 = .ok (.iconst 0, 1) := by decide +kernel
theorem dX12_blown_62 : decode cX12_blown 62 = .ok (.istore 8, 2) := by decide +kernel
theorem dX12_blown_64 : decode cX12_blown 64 = .ok (.iconst 0, 1) := by decide +kernel
theorem dX12_blown_65 : decode cX12_blown 65 = .ok (.istore 9, 2) := by decide +kernel
theorem dX12_blown_67 : decode cX12_blown 67 = .ok (.iload 9, 2) := by decide +kernel
theorem dX12_blown_69 : decode cX12_blown 69 = .ok (.aload_n 0, 1) := by decide +kernel
theorem dX12_blown_70 : decode cX12_blown 70 = .ok (.getfield 9, 3) := by decide +kernel
theorem dX12_blown_73 : decode cX12_blown 73 = .ok (.iconst 2, 1) := by decide +kernel
theorem dX12_blown_74 : decode cX12_blown 74 = .ok (.iaload, 1) := by decide +kernel
theorem dX12_blown_75 : decode cX12_blown 75 = .ok (.if_icmp .ge 35, 3) := by decide +kernel
theorem dX12_blown_78 : decode cX12_blown 78 = .ok (.iload 8, 2) := by decide +kernel
theorem dX12_blown_80 : decode cX12_blown 80 = .ok (.iload 7, 2) := by decide +kernel
theorem dX12_blown_82 : decode cX12_blown 82 = .ok (.iload 9, 2) := by decide +kernel
theorem dX12_blown_84 : decode cX12_blown 84 = .ok (.invokestatic 389, 3) := by decide +kernel
theorem dX12_blown_87 : decode cX12_blown 87 = .ok (.ifCond .eq 13, 3) := by decide +kernel
theorem dX12_blown_90 : decode cX12_blown 90 = .ok (.aload_n 0, 1) := by decide +kernel
theorem dX12_blown_91 : decode cX12_blown 91 = .ok (.iload 9, 2) := by decide +kernel
theorem dX12_blown_93 : decode cX12_blown 93 = .ok (.iload_n 1, 1) := by decide +kernel
theorem dX12_blown_94 : decode cX12_blown 94 = .ok (.invokevirtual 392, 3) := by decide +kernel
theorem dX12_blown_97 : decode cX12_blown 97 = .ok (.goto 4, 3) := by decide +kernel
theorem dX12_blown_100 : decode cX12_blown 100 = .ok (.iconst 0, 1) := by decide +kernel
theorem dX12_blown_101 : decode cX12_blown 101 = .ok (.iadd, 1) := by decide +kernel
theorem dX12_blown_102 : decode cX12_blown 102 = .ok (.istore 8, 2) := by decide +kernel
theorem dX12_blown_104 : decode cX12_blown 104 = .ok (.iinc 9 1, 3) := by decide +kernel
theorem dX12_blown_107 : decode cX12_blown 107 = .ok (.goto (-40), 3) := by decide +kernel
theorem dX12_blown_110 : decode cX12_blown 110 = .ok (.iload 8, 2) := by decide +kernel
theorem dX12_blown_112 : decode cX12_blown 112 = .ok (.iload_n 2, 1) := by decide +kernel
theorem dX12_blown_113 : decode cX12_blown 113 = .ok (.if_icmp .ne 37, 3) := by decide +kernel
theorem dX12_blown_116 : decode cX12_blown 116 = .ok (.iload 4, 2) := by decide +kernel
theorem dX12_blown_118 : decode cX12_blown 118 = .ok (.ifCond .ne 8, 3) := by decide +kernel
theorem dX12_blown_121 : decode cX12_blown 121 = .ok (.iload 7, 2) := by decide +kernel
theorem dX12_blown_123 : decode cX12_blown 123 = .ok (.goto 5, 3) := by decide +kernel
theorem dX12_blown_126 : decode cX12_blown 126 = .ok (.iload 5, 2) := by decide +kernel
theorem dX12_blown_128 : decode cX12_blown 128 = .ok (.istore 5, 2) := by decide +kernel
theorem dX12_blown_130 : decode cX12_blown 130 = .ok (.iload 4, 2) := by decide +kernel
theorem dX12_blown_132 : decode cX12_blown 132 = .ok (.ifCond .ne 8, 3) := by decide +kernel
theorem dX12_blown_135 : decode cX12_blown 135 = .ok (.iload 7, 2) := by decide +kernel
theorem dX12_blown_137 : decode cX12_blown 137 = .ok (.goto 8, 3) := by decide +kernel
theorem dX12_blown_140 : decode cX12_blown 140 = .ok (.iload 6, 2) := by decide +kernel
theorem dX12_blown_142 : decode cX12_blown 142 = .ok (.iload 7, 2) := by decide +kernel
theorem dX12_blown_144 : decode cX12_blown 144 = .ok (.iand, 1) := by decide +kernel
theorem dX12_blown_145 : decode cX12_blown 145 = .ok (.istore 6, 2) := by decide +kernel
theorem dX12_blown_147 : decode cX12_blown 147 = .ok (.iinc 4 1, 3) := by decide +kernel
theorem dX12_blown_150 : decode cX12_blown 150 = .ok (.iinc 7 1, 3) := by decide +kernel
theorem dX12_blown_153 : decode cX12_blown 153 = .ok (.goto (-105), 3) := by decide +kernel
theorem dX12_blown_156 : decode cX12_blown 156 = .ok (.iload_n 3, 1) := by decide +kernel
theorem dX12_blown_157 : decode cX12_blown 157 = .ok (.ifCond .ne 8, 3) := by decide +kernel
theorem dX12_blown_160 : decode cX12_blown 160 = .ok (.iload 4, 2) := by decide +kernel
theorem dX12_blown_162 : decode cX12_blown 162 = .ok (.goto 15, 3) := by decide +kernel
theorem dX12_blown_165 : decode cX12_blown 165 = .ok (.iload_n 3, 1) := by decide +kernel
theorem dX12_blown_166 : decode cX12_blown 166 = .ok (.iconst 1, 1) := by decide +kernel
theorem dX12_blown_167 : decode cX12_blown 167 = .ok (.if_icmp .ne 8, 3) := by decide +kernel
theorem dX12_blown_170 : decode cX12_blown 170 = .ok (.iload 5, 2) := by decide +kernel
theorem dX12_blown_172 : decode cX12_blown 172 = .ok (.goto 5, 3) := by decide +kernel
theorem dX12_blown_175 : decode cX12_blown 175 = .ok (.iload 6, 2) := by decide +kernel
theorem dX12_blown_177 : decode cX12_blown 177 = .ok (.ireturn, 1) := by decide +kernel
theorem dX12_still_0 : decode cX12_still 0 = .ok (.aload_n 0, 1) := by decide +kernel
theorem dX12_still_1 : decode cX12_still 1 = .ok (.invokevirtual 428, 3) := by decide +kernel
theorem dX12_still_4 : decode cX12_still 4 = .ok (.ifCond .eq 27, 3) := by decide +kernel
theorem dX12_still_7 : decode cX12_still 7 = .ok (.iload_n 1, 1) := by decide +kernel
theorem dX12_still_8 : decode cX12_still 8 = .ok (.i2l, 1) := by decide +kernel
theorem dX12_still_9 : decode cX12_still 9 = .ok (.lconst 1, 1) := by decide +kernel
theorem dX12_still_10 : decode cX12_still 10 = .ok (.ldc2_w 463, 3) := by decide +kernel
theorem dX12_still_13 : decode cX12_still 13 = .ok (.invokestatic 159, 3) := by decide +kernel
theorem dX12_still_16 : decode cX12_still 16 = .ok (.ifCond .eq 15, 3) := by decide +kernel
theorem dX12_still_19 : decode cX12_still 19 = .ok (.iload_n 2, 1) := by decide +kernel
theorem dX12_still_20 : decode cX12_still 20 = .ok (.i2l, 1) := by decide +kernel
theorem dX12_still_21 : decode cX12_still 21 = .ok (.lconst 0, 1) := by decide +kernel
theorem dX12_still_22 : decode cX12_still 22 = .ok (.ldc2_w 368, 3) := by decide +kernel
theorem dX12_still_25 : decode cX12_still 25 = .ok (.invokestatic 159, 3) := by decide +kernel
theorem dX12_still_28 : decode cX12_still 28 = .ok (.ifCond .ne 6, 3) := by decide +kernel
theorem dX12_still_31 : decode cX12_still 31 = .ok (.bipush (-2), 2) := by decide +kernel
theorem dX12_still_33 : decode cX12_still 33 = .ok (.ireturn, 1) := by decide +kernel
theorem dX12_still_34 : decode cX12_still 34 = .ok (.aload_n 0, 1) := by decide +kernel
theorem dX12_still_35 : decode cX12_still 35 = .ok (.invokevirtual 443, 3) := by decide +kernel
theorem dX12_still_38 : decode cX12_still 38 = .ok (.aload_n 0, 1) := by decide +kernel
theorem dX12_still_39 : decode cX12_still 39 = .ok (.invokevirtual 465, 3) := by decide +kernel
theorem dX12_still_42 : decode cX12_still 42 = .ok (.iconst (-1), 1) := by decide +kernel
theorem dX12_still_43 : decode cX12_still 43 = .ok (.istore_n 3, 1) := by decide +kernel
theorem dX12_still_44 : decode cX12_still 44 = .ok (.iload_n 3, 1) := by decide +kernel
theorem dX12_still_45 : decode cX12_still 45 = .ok (.aload_n 0, 1) := by decide +kernel
theorem dX12_still_46 : decode cX12_still 46 = .ok (.getfield 9, 3) := by decide +kernel
theorem dX12_still_49 : decode cX12_still 49 = .ok (.iconst 2, 1) := by decide +kernel
theorem dX12_still_50 : decode cX12_still 50 = .ok (.iaload, 1) := by decide +kernel
theorem dX12_still_51 : decode cX12_still 51 = .ok (.if_icmp .ge 20, 3) := by decide +kernel
theorem dX12_still_54 : decode cX12_still 54 = .ok (.aload_n 0, 1) := by decide +kernel
theorem dX12_still_55 : decode cX12_still 55 = .ok (.iload_n 3, 1) := by decide +kernel
theorem dX12_still_56 : decode cX12_still 56 = .ok (.putfield 124, 3) := by decide +kernel
theorem dX12_still_59 : decode cX12_still 59 = .ok (.aload_n 0, 1) := by decide +kernel
theorem dX12_still_60 : decode cX12_still 60 = .ok (.iload_n 3, 1) := by decide +kernel
theorem dX12_still_61 : decode cX12_still 61 = .ok (.iload_n 1, 1) := by decide +kernel
theorem dX12_still_62 : decode cX12_still 62 = .ok (.invokevirtual 468, 3) := by decide +kernel
theorem dX12_still_65 : decode cX12_still 65 = .ok (.iinc 3 1, 3) := by decide +kernel
theorem dX12_still_68 : decode cX12_still 68 = .ok (.goto (-24), 3) := by decide +kernel
theorem dX12_still_71 : decode cX12_still 71 = .ok (.aload_n 0, 1) := by decide +kernel
theorem dX12_still_72 : decode cX12_still 72 = .ok (.iconst (-1), 1) := by decide +kernel
theorem dX12_still_73 : decode cX12_still 73 = .ok (.putfield 124, 3) := by decide +kernel
theorem dX12_still_76 : decode cX12_still 76 = .ok (.aload_n 0, 1) := by decide +kernel
theorem dX12_still_77 : decode cX12_still 77 = .ok (.iload_n 2, 1) := by decide +kernel
theorem dX12_still_78 : decode cX12_still 78 = .ok (.invokevirtual 471, 3) := by decide +kernel
theorem dX12_still_81 : decode cX12_still 81 = .ok (.ireturn, 1) := by decide +kernel
theorem dX12_lull_0 : decode cX12_lull 0 = .ok (.aload_n 0, 1) := by decide +kernel
theorem dX12_lull_1 : decode cX12_lull 1 = .ok (.invokevirtual 428, 3) := by decide +kernel
theorem dX12_lull_4 : decode cX12_lull 4 = .ok (.ifCond .eq 25, 3) := by decide +kernel
theorem dX12_lull_7 : decode cX12_lull 7 = .ok (.iload_n 1, 1) := by decide +kernel
theorem dX12_lull_8 : decode cX12_lull 8 = .ok (.i2l, 1) := by decide +kernel
theorem dX12_lull_9 : decode cX12_lull 9 = .ok (.lconst 1, 1) := by decide +kernel
theorem dX12_lull_10 : decode cX12_lull 10 = .ok (.ldc2_w 441, 3) := by decide +kernel
theorem dX12_lull_13 : decode cX12_lull 13 = .ok (.invokestatic 159, 3) := by decide +kernel
theorem dX12_lull_16 : decode cX12_lull 16 = .ok (.ifCond .eq 13, 3) := by decide +kernel
theorem dX12_lull_19 : decode cX12_lull 19 = .ok (.iload_n 2, 1) := by decide +kernel
theorem dX12_lull_20 : decode cX12_lull 20 = .ok (.i2l, 1) := by decide +kernel
theorem dX12_lull_21 : decode cX12_lull 21 = .ok (.lconst 0, 1) := by decide +kernel
theorem dX12_lull_22 : decode cX12_lull 22 = .ok (.lconst 1, 1) := by decide +kernel
theorem dX12_lull_23 : decode cX12_lull 23 = .ok (.invokestatic 159, 3) := by decide +kernel
theorem dX12_lull_26 : decode cX12_lull 26 = .ok (.ifCond .ne 5, 3) := by decide +kernel
theorem dX12_lull_29 : decode cX12_lull 29 = .ok (.iconst (-1), 1) := by decide +kernel
theorem dX12_lull_30 : decode cX12_lull 30 = .ok (.ireturn, 1) := by decide +kernel
theorem dX12_lull_31 : decode cX12_lull 31 = .ok (.iconst 0, 1) := by decide +kernel
theorem dX12_lull_32 : decode cX12_lull 32 = .ok (.istore_n 3, 1) := by decide +kernel
theorem dX12_lull_33 : decode cX12_lull 33 = .ok (.bipush (-2), 2) := by decide +kernel
theorem dX12_lull_35 : decode cX12_lull 35 = .ok (.istore 4, 2) := by decide +kernel
theorem dX12_lull_37 : decode cX12_lull 37 = .ok (.iconst 0, 1) := by decide +kernel
theorem dX12_lull_38 : decode cX12_lull 38 = .ok (.istore 5, 2) := by decide +kernel
theorem dX12_lull_40 : decode cX12_lull 40 = .ok (.aload_n 0, 1) := by decide +kernel
theorem dX12_lull_41 : decode cX12_lull 41 = .ok (.invokevirtual 443, 3) := by decide +kernel
theorem dX12_lull_44 : decode cX12_lull 44 = .ok (.iconst 0, 1) := by decide +kernel
theorem dX12_lull_45 : decode cX12_lull 45 = .ok (.istore 6, 2) := by decide +kernel
theorem dX12_lull_47 : decode cX12_lull 47 = .ok (.iload 6, 2) := by decide +kernel
theorem dX12_lull_49 : decode cX12_lull 49 = .ok (.iload_n 1, 1) := by decide +kernel
theorem dX12_lull_50 : decode cX12_lull 50 = .ok (.if_icmp .ge 51, 3) := by decide +kernel
theorem dX12_lull_53 : decode cX12_lull 53 = .ok (.aload_n 0, 1) := by decide +kernel
theorem dX12_lull_54 : decode cX12_lull 54 = .ok (.invokevirtual 407, 3) := by decide +kernel
theorem dX12_lull_57 : decode cX12_lull 57 = .ok (.pop, 1) := by decide +kernel
theorem dX12_lull_58 : decode cX12_lull 58 = .ok (.aload_n 0, 1) := by decide +kernel
theorem dX12_lull_59 : decode cX12_lull 59 = .ok (.invokevirtual 478, 3) := by decide +kernel
theorem dX12_lull_62 : decode cX12_lull 62 = .ok (.ifCond .ne 10, 3) := by decide +kernel
theorem dX12_lull_65 : decode cX12_lull 65 = .ok (.iload 5, 2) := by decide +kernel
theorem dX12_lull_67 : decode cX12_lull 67 = .ok (.iconst 1, 1) := by decide +kernel
theorem dX12_lull_68 : decode cX12_lull 68 = .ok (.iadd, 1) := by decide +kernel
theorem dX12_lull_69 : decode cX12_lull 69 = .ok (.goto 4, 3) := by decide +kernel
theorem dX12_lull_72 : decode cX12_lull 72 = .ok (.iconst 0, 1) := by decide +kernel
theorem dX12_lull_73 : decode cX12_lull 73 = .ok (.istore 5, 2) := by decide +kernel
theorem dX12_lull_75 : decode cX12_lull 75 = .ok (.iload 5, 2) := by decide +kernel
theorem dX12_lull_77 : decode cX12_lull 77 = .ok (.iload_n 3, 1) := by decide +kernel
theorem dX12_lull_78 : decode cX12_lull 78 = .ok (.if_icmp .le 17, 3) := by decide +kernel
theorem dX12_lull_81 : decode cX12_lull 81 = .ok (.iload 5, 2) := by decide +kernel
theorem dX12_lull_83 : decode cX12_lull 83 = .ok (.istore_n 3, 1) := by decide +kernel
theorem dX12_lull_84 : decode cX12_lull 84 = .ok (.aload_n 0, 1) := by decide +kernel
theorem dX12_lull_85 : decode cX12_lull 85 = .ok (.getfield 9, 3) := by decide +kernel
theorem dX12_lull_88 : decode cX12_lull 88 = .ok (.iconst 5, 1) := by decide +kernel
theorem dX12_lull_89 : decode cX12_lull 89 = .ok (.iaload, 1) := by decide +kernel
theorem dX12_lull_90 : decode cX12_lull 90 = .ok (.iload 5, 2) := by decide +kernel
theorem dX12_lull_92 : decode cX12_lull 92 = .ok (.isub, 1) := by decide +kernel
theorem dX12_lull_93 : decode cX12_lull 93 = .ok (.istore 4, 2) := by decide +kernel
theorem dX12_lull_95 : decode cX12_lull 95 = .ok (.iinc 6 1, 3) := by decide +kernel
theorem dX12_lull_98 : decode cX12_lull 98 = .ok (.goto (-51), 3) := by decide +kernel
theorem dX12_lull_101 : decode cX12_lull 101 = .ok (.aload_n 0, 1) := by decide +kernel
theorem dX12_lull_102 : decode cX12_lull 102 = .ok (.invokevirtual 449, 3) := by decide +kernel
theorem dX12_lull_105 : decode cX12_lull 105 = .ok (.iload_n 2, 1) := by decide +kernel
theorem dX12_lull_106 : decode cX12_lull 106 = .ok (.ifCond .ne 7, 3) := by decide +kernel
theorem dX12_lull_109 : decode cX12_lull 109 = .ok (.iload_n 3, 1) := by decide +kernel
theorem dX12_lull_110 : decode cX12_lull 110 = .ok (.goto 5, 3) := by decide +kernel
theorem dX12_lull_113 : decode cX12_lull 113 = .ok (.iload 4, 2) := by decide +kernel
theorem dX12_lull_115 : decode cX12_lull 115 = .ok (.ireturn, 1) := by decide +kernel
theorem dX12_harvest_0 : decode cX12_harvest 0 = .ok (.aload_n 0, 1) := by decide +kernel
theorem dX12_harvest_1 : decode cX12_harvest 1 = .ok (.invokevirtual 428, 3) := by decide +kernel
theorem dX12_harvest_4 : decode cX12_harvest 4 = .ok (.ifCond .eq 25, 3) := by decide +kernel
theorem dX12_harvest_7 : decode cX12_harvest 7 = .ok (.iload_n 1, 1) := by decide +kernel
theorem dX12_harvest_8 : decode cX12_harvest 8 = .ok (.i2l, 1) := by decide +kernel
theorem dX12_harvest_9 : decode cX12_harvest 9 = .ok (.lconst 1, 1) := by decide +kernel
theorem dX12_harvest_10 : decode cX12_harvest 10 = .ok (.ldc2_w 441, 3) := by decide +kernel
theorem dX12_harvest_13 : decode cX12_harvest 13 = .ok (.invokestatic 159, 3) := by decide +kernel
theorem dX12_harvest_16 : decode cX12_harvest 16 = .ok (.ifCond .eq 13, 3) := by decide +kernel
theorem dX12_harvest_19 : decode cX12_harvest 19 = .ok (.iload_n 2, 1) := by decide +kernel
theorem dX12_harvest_20 : decode cX12_harvest 20 = .ok (.i2l, 1) := by decide +kernel
theorem dX12_harvest_21 : decode cX12_harvest 21 = .ok (.lconst 0, 1) := by decide +kernel
theorem dX12_harvest_22 : decode cX12_harvest 22 = .ok (.lconst 1, 1) := by decide +kernel
theorem dX12_harvest_23 : decode cX12_harvest 23 = .ok (.invokestatic 159, 3) := by decide +kernel
theorem dX12_harvest_26 : decode cX12_harvest 26 = .ok (.ifCond .ne 5, 3) := by decide +kernel
theorem dX12_harvest_29 : decode cX12_harvest 29 = .ok (.iconst (-1), 1) := by decide +kernel
theorem dX12_harvest_30 : decode cX12_harvest 30 = .ok (.ireturn, 1) := by decide +kernel
theorem dX12_harvest_31 : decode cX12_harvest 31 = .ok (.iconst (-1), 1) := by decide +kernel
theorem dX12_harvest_32 : decode cX12_harvest 32 = .ok (.istore_n 3, 1) := by decide +kernel
theorem dX12_harvest_33 : decode cX12_harvest 33 = .ok (.iconst (-1), 1) := by decide +kernel
theorem dX12_harvest_34 : decode cX12_harvest 34 = .ok (.istore 4, 2) := by decide +kernel
theorem dX12_harvest_36 : decode cX12_harvest 36 = .ok (.aload_n 0, 1) := by decide +kernel
theorem dX12_harvest_37 : decode cX12_harvest 37 = .ok (.invokevirtual 443, 3) := by decide +kernel
theorem dX12_harvest_40 : decode cX12_harvest 40 = .ok (.iconst 0, 1) := by decide +kernel
theorem dX12_harvest_41 : decode cX12_harvest 41 = .ok (.istore 5, 2) := by decide +kernel
theorem dX12_harvest_43 : decode cX12_harvest 43 = .ok (.iload 5, 2) := by decide +kernel
theorem dX12_harvest_45 : decode cX12_harvest 45 = .ok (.iload_n 1, 1) := by decide +kernel
theorem dX12_harvest_46 : decode cX12_harvest 46 = .ok (.if_icmp .ge 37, 3) := by decide +kernel
theorem dX12_harvest_49 : decode cX12_harvest 49 = .ok (.aload_n 0, 1) := by decide +kernel
theorem dX12_harvest_50 : decode cX12_harvest 50 = .ok (.invokevirtual 407, 3) := by decide +kernel
theorem dX12_harvest_53 : decode cX12_harvest 53 = .ok (.pop, 1) := by decide +kernel
theorem dX12_harvest_54 : decode cX12_harvest 54 = .ok (.aload_n 0, 1) := by decide +kernel
theorem dX12_harvest_55 : decode cX12_harvest 55 = .ok (.invokevirtual 478, 3) := by decide +kernel
theorem dX12_harvest_58 : decode cX12_harvest 58 = .ok (.iload_n 3, 1) := by decide +kernel
theorem dX12_harvest_59 : decode cX12_harvest 59 = .ok (.if_icmp .le 18, 3) := by decide +kernel
theorem dX12_harvest_62 : decode cX12_harvest 62 = .ok (.aload_n 0, 1) := by decide +kernel
theorem dX12_harvest_63 : decode cX12_harvest 63 = .ok (.invokevirtual 478, 3) := by decide +kernel
theorem dX12_harvest_66 : decode cX12_harvest 66 = .ok (.istore_n 3, 1) := by decide +kernel
theorem dX12_harvest_67 : decode cX12_harvest 67 = .ok (.aload_n 0, 1) := by decide +kernel
theorem dX12_harvest_68 : decode cX12_harvest 68 = .ok (.getfield 9, 3) := by decide +kernel
theorem dX12_harvest_71 : decode cX12_harvest 71 = .ok (.iconst 5, 1) := by decide +kernel
theorem dX12_harvest_72 : decode cX12_harvest 72 = .ok (.iaload, 1) := by decide +kernel
theorem dX12_harvest_73 : decode cX12_harvest 73 = .ok (.iconst 1, 1) := by decide +kernel
theorem dX12_harvest_74 : decode cX12_harvest 74 = .ok (.isub, 1) := by decide +kernel
theorem dX12_harvest_75 : decode cX12_harvest 75 = .ok (.istore 4, 2) := by decide +kernel
theorem dX12_harvest_77 : decode cX12_harvest 77 = .ok (.iinc 5 1, 3) := by decide +kernel
theorem dX12_harvest_80 : decode cX12_harvest 80 = .ok (.goto (-37), 3) := by decide +kernel
theorem dX12_harvest_83 : decode cX12_harvest 83 = .ok (.aload_n 0, 1) := by decide +kernel
theorem dX12_harvest_84 : decode cX12_harvest 84 = .ok (.invokevirtual 449, 3) := by decide +kernel
theorem dX12_harvest_87 : decode cX12_harvest 87 = .ok (.iload_n 2, 1) := by decide +kernel
theorem dX12_harvest_88 : decode cX12_harvest 88 = .ok (.ifCond .ne 8, 3) := by decide +kernel
theorem dX12_harvest_91 : decode cX12_harvest 91 = .ok (.iload 4, 2) := by decide +kernel
theorem dX12_harvest_93 : decode cX12_harvest 93 = .ok (.goto 4, 3) := by decide +kernel
theorem dX12_harvest_96 : decode cX12_harvest 96 = .ok (.iload_n 3, 1) := by decide +kernel
theorem dX12_harvest_97 : decode cX12_harvest 97 = .ok (.ireturn, 1) := by decide +kernel
theorem dX12_laysFaces_0 : decode cX12_laysFaces 0 = .ok (.aload_n 0, 1) := by decide +kernel
theorem dX12_laysFaces_1 : decode cX12_laysFaces 1 = .ok (.invokevirtual 443, 3) := by decide +kernel
theorem dX12_laysFaces_4 : decode cX12_laysFaces 4 = .ok (.iconst 0, 1) := by decide +kernel
theorem dX12_laysFaces_5 : decode cX12_laysFaces 5 = .ok (.istore 4, 2) := by decide +kernel
theorem dX12_laysFaces_7 : decode cX12_laysFaces 7 = .ok (.iload 4, 2) := by decide +kernel
theorem dX12_laysFaces_9 : decode cX12_laysFaces 9 = .ok (.bipush 16, 2) := by decide +kernel
theorem dX12_laysFaces_11 : decode cX12_laysFaces 11 = .ok (.if_icmp .ge 64, 3) := by decide +kernel
theorem dX12_laysFaces_14 : decode cX12_laysFaces 14 = .ok (.aload_n 0, 1) := by decide +kernel
theorem dX12_laysFaces_15 : decode cX12_laysFaces 15 = .ok (.getfield 16, 3) := by decide +kernel
theorem dX12_laysFaces_18 : decode cX12_laysFaces 18 = .ok (.iload_n 1, 1) := by decide +kernel
theorem dX12_laysFaces_19 : decode cX12_laysFaces 19 = .ok (.iload 4, 2) := by decide +kernel
theorem dX12_laysFaces_21 : decode cX12_laysFaces 21 = .ok (.iconst 4, 1) := by decide +kernel
theorem dX12_laysFaces_22 : decode cX12_laysFaces 22 = .ok (.idiv, 1) := by decide +kernel
theorem dX12_laysFaces_23 : decode cX12_laysFaces 23 = .ok (.iastore, 1) := by decide +kernel
theorem dX12_laysFaces_24 : decode cX12_laysFaces 24 = .ok (.aload_n 0, 1) := by decide +kernel
theorem dX12_laysFaces_25 : decode cX12_laysFaces 25 = .ok (.getfield 16, 3) := by decide +kernel
theorem dX12_laysFaces_28 : decode cX12_laysFaces 28 = .ok (.iload_n 2, 1) := by decide +kernel
theorem dX12_laysFaces_29 : decode cX12_laysFaces 29 = .ok (.iload 4, 2) := by decide +kernel
theorem dX12_laysFaces_31 : decode cX12_laysFaces 31 = .ok (.iconst 4, 1) := by decide +kernel
theorem dX12_laysFaces_32 : decode cX12_laysFaces 32 = .ok (.irem, 1) := by decide +kernel
theorem dX12_laysFaces_33 : decode cX12_laysFaces 33 = .ok (.iastore, 1) := by decide +kernel
theorem dX12_laysFaces_34 : decode cX12_laysFaces 34 = .ok (.aload_n 0, 1) := by decide +kernel
theorem dX12_laysFaces_35 : decode cX12_laysFaces 35 = .ok (.iload_n 3, 1) := by decide +kernel
theorem dX12_laysFaces_36 : decode cX12_laysFaces 36 = .ok (.invokevirtual 446, 3) := by decide +kernel
theorem dX12_laysFaces_39 : decode cX12_laysFaces 39 = .ok (.aload_n 0, 1) := by decide +kernel
theorem dX12_laysFaces_40 : decode cX12_laysFaces 40 = .ok (.getfield 133, 3) := by decide +kernel
theorem dX12_laysFaces_43 : decode cX12_laysFaces 43 = .ok (.iload 4, 2) := by decide +kernel
theorem dX12_laysFaces_45 : decode cX12_laysFaces 45 = .ok (.aload_n 0, 1) := by decide +kernel
theorem dX12_laysFaces_46 : decode cX12_laysFaces 46 = .ok (.getfield 22, 3) := by decide +kernel
theorem dX12_laysFaces_49 : decode cX12_laysFaces 49 = .ok (.iload_n 1, 1) := by decide +kernel
theorem dX12_laysFaces_50 : decode cX12_laysFaces 50 = .ok (.iaload, 1) := by decide +kernel
theorem dX12_laysFaces_51 : decode cX12_laysFaces 51 = .ok (.iastore, 1) := by decide +kernel
theorem dX12_laysFaces_52 : decode cX12_laysFaces 52 = .ok (.aload_n 0, 1) := by decide +kernel
theorem dX12_laysFaces_53 : decode cX12_laysFaces 53 = .ok (.getfield 136, 3) := by decide +kernel
theorem dX12_laysFaces_56 : decode cX12_laysFaces 56 = .ok (.iload 4, 2) := by decide +kernel
theorem dX12_laysFaces_58 : decode cX12_laysFaces 58 = .ok (.aload_n 0, 1) := by decide +kernel
theorem dX12_laysFaces_59 : decode cX12_laysFaces 59 = .ok (.getfield 22, 3) := by decide +kernel
theorem dX12_laysFaces_62 : decode cX12_laysFaces 62 = .ok (.iload_n 2, 1) := by decide +kernel
theorem dX12_laysFaces_63 : decode cX12_laysFaces 63 = .ok (.iaload, 1) := by decide +kernel
theorem dX12_laysFaces_64 : decode cX12_laysFaces 64 = .ok (.iastore, 1) := by decide +kernel
theorem dX12_laysFaces_65 : decode cX12_laysFaces 65 = .ok (.aload_n 0, 1) := by decide +kernel
theorem dX12_laysFaces_66 : decode cX12_laysFaces 66 = .ok (.invokevirtual 449, 3) := by decide +kernel
theorem dX12_laysFaces_69 : decode cX12_laysFaces 69 = .ok (.iinc 4 1, 3) := by decide +kernel
theorem dX12_laysFaces_72 : decode cX12_laysFaces 72 = .ok (.goto (-65), 3) := by decide +kernel
theorem dX12_laysFaces_75 : decode cX12_laysFaces 75 = .ok (.return_, 1) := by decide +kernel
theorem dX12_isRest_0 : decode cX12_isRest 0 = .ok (.iconst 0, 1) := by decide +kernel
theorem dX12_isRest_1 : decode cX12_isRest 1 = .ok (.istore_n 2, 1) := by decide +kernel
theorem dX12_isRest_2 : decode cX12_isRest 2 = .ok (.iload_n 2, 1) := by decide +kernel
theorem dX12_isRest_3 : decode cX12_isRest 3 = .ok (.iconst 4, 1) := by decide +kernel
theorem dX12_isRest_4 : decode cX12_isRest 4 = .ok (.if_icmp .ge 53, 3) := by decide +kernel
theorem dX12_isRest_7 : decode cX12_isRest 7 = .ok (.aload_n 0, 1) := by decide +kernel
theorem dX12_isRest_8 : decode cX12_isRest 8 = .ok (.getfield 133, 3) := by decide +kernel
theorem dX12_isRest_11 : decode cX12_isRest 11 = .ok (.iconst 4, 1) := by decide +kernel
theorem dX12_isRest_12 : decode cX12_isRest 12 = .ok (.iload_n 2, 1) := by decide +kernel
theorem dX12_isRest_13 : decode cX12_isRest 13 = .ok (.imul, 1) := by decide +kernel
theorem dX12_isRest_14 : decode cX12_isRest 14 = .ok (.iload_n 1, 1) := by decide +kernel
theorem dX12_isRest_15 : decode cX12_isRest 15 = .ok (.iconst 4, 1) := by decide +kernel
theorem dX12_isRest_16 : decode cX12_isRest 16 = .ok (.irem, 1) := by decide +kernel
theorem dX12_isRest_17 : decode cX12_isRest 17 = .ok (.iadd, 1) := by decide +kernel
theorem dX12_isRest_18 : decode cX12_isRest 18 = .ok (.iaload, 1) := by decide +kernel
theorem dX12_isRest_19 : decode cX12_isRest 19 = .ok (.aload_n 0, 1) := by decide +kernel
theorem dX12_isRest_20 : decode cX12_isRest 20 = .ok (.getfield 133, 3) := by decide +kernel
theorem dX12_isRest_23 : decode cX12_isRest 23 = .ok (.iload_n 1, 1) := by decide +kernel
theorem dX12_isRest_24 : decode cX12_isRest 24 = .ok (.iaload, 1) := by decide +kernel
theorem dX12_isRest_25 : decode cX12_isRest 25 = .ok (.if_icmp .gt 24, 3) := by decide +kernel
theorem dX12_isRest_28 : decode cX12_isRest 28 = .ok (.aload_n 0, 1) := by decide +kernel
theorem dX12_isRest_29 : decode cX12_isRest 29 = .ok (.getfield 136, 3) := by decide +kernel
theorem dX12_isRest_32 : decode cX12_isRest 32 = .ok (.iload_n 1, 1) := by decide +kernel
theorem dX12_isRest_33 : decode cX12_isRest 33 = .ok (.iload_n 1, 1) := by decide +kernel
theorem dX12_isRest_34 : decode cX12_isRest 34 = .ok (.iconst 4, 1) := by decide +kernel
theorem dX12_isRest_35 : decode cX12_isRest 35 = .ok (.irem, 1) := by decide +kernel
theorem dX12_isRest_36 : decode cX12_isRest 36 = .ok (.isub, 1) := by decide +kernel
theorem dX12_isRest_37 : decode cX12_isRest 37 = .ok (.iload_n 2, 1) := by decide +kernel
theorem dX12_isRest_38 : decode cX12_isRest 38 = .ok (.iadd, 1) := by decide +kernel
theorem dX12_isRest_39 : decode cX12_isRest 39 = .ok (.iaload, 1) := by decide +kernel
theorem dX12_isRest_40 : decode cX12_isRest 40 = .ok (.aload_n 0, 1) := by decide +kernel
theorem dX12_isRest_41 : decode cX12_isRest 41 = .ok (.getfield 136, 3) := by decide +kernel
theorem dX12_isRest_44 : decode cX12_isRest 44 = .ok (.iload_n 1, 1) := by decide +kernel
theorem dX12_isRest_45 : decode cX12_isRest 45 = .ok (.iaload, 1) := by decide +kernel
theorem dX12_isRest_46 : decode cX12_isRest 46 = .ok (.if_icmp .le 5, 3) := by decide +kernel
theorem dX12_isRest_49 : decode cX12_isRest 49 = .ok (.iconst 0, 1) := by decide +kernel
theorem dX12_isRest_50 : decode cX12_isRest 50 = .ok (.ireturn, 1) := by decide +kernel
theorem dX12_isRest_51 : decode cX12_isRest 51 = .ok (.iinc 2 1, 3) := by decide +kernel
theorem dX12_isRest_54 : decode cX12_isRest 54 = .ok (.goto (-52), 3) := by decide +kernel
theorem dX12_isRest_57 : decode cX12_isRest 57 = .ok (.iconst 1, 1) := by decide +kernel
theorem dX12_isRest_58 : decode cX12_isRest 58 = .ok (.ireturn, 1) := by decide +kernel
theorem dX12_rests_0 : decode cX12_rests 0 = .ok (.aload_n 0, 1) := by decide +kernel
theorem dX12_rests_1 : decode cX12_rests 1 = .ok (.iload_n 1, 1) := by decide +kernel
theorem dX12_rests_2 : decode cX12_rests 2 = .ok (.invokevirtual 358, 3) := by decide +kernel
theorem dX12_rests_5 : decode cX12_rests 5 = .ok (.ifCond .eq 41, 3) := by decide +kernel
theorem dX12_rests_8 : decode cX12_rests 8 = .ok (.aload_n 0, 1) := by decide +kernel
theorem dX12_rests_9 : decode cX12_rests 9 = .ok (.iload_n 2, 1) := by decide +kernel
theorem dX12_rests_10 : decode cX12_rests 10 = .ok (.invokevirtual 358, 3) := by decide +kernel
theorem dX12_rests_13 : decode cX12_rests 13 = .ok (.ifCond .eq 33, 3) := by decide +kernel
theorem dX12_rests_16 : decode cX12_rests 16 = .ok (.iload_n 1, 1) := by decide +kernel
theorem dX12_rests_17 : decode cX12_rests 17 = .ok (.iload_n 2, 1) := by decide +kernel
theorem dX12_rests_18 : decode cX12_rests 18 = .ok (.if_icmp .eq 28, 3) := by decide +kernel
theorem dX12_rests_21 : decode cX12_rests 21 = .ok (.iload_n 3, 1) := by decide +kernel
theorem dX12_rests_22 : decode cX12_rests 22 = .ok (.i2l, 1) := by decide +kernel
theorem dX12_rests_23 : decode cX12_rests 23 = .ok (.lconst 1, 1) := by decide +kernel
theorem dX12_rests_24 : decode cX12_rests 24 = .ok (.ldc2_w 481, 3) := by decide +kernel
theorem dX12_rests_27 : decode cX12_rests 27 = .ok (.invokestatic 159, 3) := by decide +kernel
theorem dX12_rests_30 : decode cX12_rests 30 = .ok (.ifCond .eq 16, 3) := by decide +kernel
theorem dX12_rests_33 : decode cX12_rests 33 = .ok (.iload 4, 2) := by decide +kernel
theorem dX12_rests_35 : decode cX12_rests 35 = .ok (.i2l, 1) := by decide +kernel
theorem dX12_rests_36 : decode cX12_rests 36 = .ok (.lconst 0, 1) := by decide +kernel
theorem dX12_rests_37 : decode cX12_rests 37 = .ok (.ldc2_w 368, 3) := by decide +kernel
theorem dX12_rests_40 : decode cX12_rests 40 = .ok (.invokestatic 159, 3) := by decide +kernel
theorem dX12_rests_43 : decode cX12_rests 43 = .ok (.ifCond .ne 5, 3) := by decide +kernel
theorem dX12_rests_46 : decode cX12_rests 46 = .ok (.iconst (-1), 1) := by decide +kernel
theorem dX12_rests_47 : decode cX12_rests 47 = .ok (.ireturn, 1) := by decide +kernel
theorem dX12_rests_48 : decode cX12_rests 48 = .ok (.aload_n 0, 1) := by decide +kernel
theorem dX12_rests_49 : decode cX12_rests 49 = .ok (.iload_n 1, 1) := by decide +kernel
theorem dX12_rests_50 : decode cX12_rests 50 = .ok (.iload_n 2, 1) := by decide +kernel
theorem dX12_rests_51 : decode cX12_rests 51 = .ok (.iload_n 3, 1) := by decide +kernel
theorem dX12_rests_52 : decode cX12_rests 52 = .ok (.invokevirtual 483, 3) := by decide +kernel
theorem dX12_rests_55 : decode cX12_rests 55 = .ok (.iconst 0, 1) := by decide +kernel
theorem dX12_rests_56 : decode cX12_rests 56 = .ok (.istore 5, 2) := by decide +kernel
theorem dX12_rests_58 : decode cX12_rests 58 = .ok (.iconst (-1), 1) := by decide +kernel
theorem dX12_rests_59 : decode cX12_rests 59 = .ok (.istore 6, 2) := by decide +kernel
theorem dX12_rests_61 : decode cX12_rests 61 = .ok (.iconst 0, 1) := by decide +kernel
theorem dX12_rests_62 : decode cX12_rests 62 = .ok (.istore 7, 2) := by decide +kernel
theorem dX12_rests_64 : decode cX12_rests 64 = .ok (.iload 7, 2) := by decide +kernel
theorem dX12_rests_66 : decode cX12_rests 66 = .ok (.bipush 16, 2) := by decide +kernel
theorem dX12_rests_68 : decode cX12_rests 68 = .ok (.if_icmp .ge 35, 3) := by decide +kernel
theorem dX12_rests_71 : decode cX12_rests 71 = .ok (.aload_n 0, 1) := by decide +kernel
theorem dX12_rests_72 : decode cX12_rests 72 = .ok (.iload 7, 2) := by decide +kernel
theorem dX12_rests_74 : decode cX12_rests 74 = .ok (.invokevirtual 487, 3) := by decide +kernel
theorem dX12_rests_77 : decode cX12_rests 77 = .ok (.ifCond .eq 20, 3) := by decide +kernel
theorem dX12_rests_80 : decode cX12_rests 80 = .ok (.iload 5, 2) := by decide +kernel
theorem dX12_rests_82 : decode cX12_rests 82 = .ok (.ifCond .ne 8, 3) := by decide +kernel
theorem dX12_rests_85 : decode cX12_rests 85 = .ok (.iload 7, 2) := by decide +kernel
theorem dX12_rests_87 : decode cX12_rests 87 = .ok (.goto 5, 3) := by decide +kernel
theorem dX12_rests_90 : decode cX12_rests 90 = .ok (.iload 6, 2) := by decide +kernel
theorem dX12_rests_92 : decode cX12_rests 92 = .ok (.istore 6, 2) := by decide +kernel
theorem dX12_rests_94 : decode cX12_rests 94 = .ok (.iinc 5 1, 3) := by decide +kernel
theorem dX12_rests_97 : decode cX12_rests 97 = .ok (.iinc 7 1, 3) := by decide +kernel
theorem dX12_rests_100 : decode cX12_rests 100 = .ok (.goto (-36), 3) := by decide +kernel
theorem dX12_rests_103 : decode cX12_rests 103 = .ok (.iload 4, 2) := by decide +kernel
theorem dX12_rests_105 : decode cX12_rests 105 = .ok (.ifCond .ne 6, 3) := by decide +kernel
theorem dX12_rests_108 : decode cX12_rests 108 = .ok (.iload 5, 2) := by decide +kernel
theorem dX12_rests_110 : decode cX12_rests 110 = .ok (.ireturn, 1) := by decide +kernel
theorem dX12_rests_111 : decode cX12_rests 111 = .ok (.iload 6, 2) := by decide +kernel
theorem dX12_rests_113 : decode cX12_rests 113 = .ok (.iconst (-1), 1) := by decide +kernel
theorem dX12_rests_114 : decode cX12_rests 114 = .ok (.if_icmp .ne 8, 3) := by decide +kernel
theorem dX12_rests_117 : decode cX12_rests 117 = .ok (.bipush (-2), 2) := by decide +kernel
theorem dX12_rests_119 : decode cX12_rests 119 = .ok (.goto 20, 3) := by decide +kernel
theorem dX12_rests_122 : decode cX12_rests 122 = .ok (.iload 4, 2) := by decide +kernel
theorem dX12_rests_124 : decode cX12_rests 124 = .ok (.iconst 1, 1) := by decide +kernel
theorem dX12_rests_125 : decode cX12_rests 125 = .ok (.if_icmp .ne 10, 3) := by decide +kernel
theorem dX12_rests_128 : decode cX12_rests 128 = .ok (.iload 6, 2) := by decide +kernel
theorem dX12_rests_130 : decode cX12_rests 130 = .ok (.iconst 4, 1) := by decide +kernel
theorem dX12_rests_131 : decode cX12_rests 131 = .ok (.idiv, 1) := by decide +kernel
theorem dX12_rests_132 : decode cX12_rests 132 = .ok (.goto 7, 3) := by decide +kernel
theorem dX12_rests_135 : decode cX12_rests 135 = .ok (.iload 6, 2) := by decide +kernel
theorem dX12_rests_137 : decode cX12_rests 137 = .ok (.iconst 4, 1) := by decide +kernel
theorem dX12_rests_138 : decode cX12_rests 138 = .ok (.irem, 1) := by decide +kernel
theorem dX12_rests_139 : decode cX12_rests 139 = .ok (.ireturn, 1) := by decide +kernel
theorem dX12_pence_0 : decode cX12_pence 0 = .ok (.aload_n 0, 1) := by decide +kernel
theorem dX12_pence_1 : decode cX12_pence 1 = .ok (.iload_n 2, 1) := by decide +kernel
theorem dX12_pence_2 : decode cX12_pence 2 = .ok (.invokevirtual 358, 3) := by decide +kernel
theorem dX12_pence_5 : decode cX12_pence 5 = .ok (.ifCond .eq 15, 3) := by decide +kernel
theorem dX12_pence_8 : decode cX12_pence 8 = .ok (.iload_n 1, 1) := by decide +kernel
theorem dX12_pence_9 : decode cX12_pence 9 = .ok (.i2l, 1) := by decide +kernel
theorem dX12_pence_10 : decode cX12_pence 10 = .ok (.lconst 0, 1) := by decide +kernel
theorem dX12_pence_11 : decode cX12_pence 11 = .ok (.ldc2_w 474, 3) := by decide +kernel
theorem dX12_pence_14 : decode cX12_pence 14 = .ok (.invokestatic 159, 3) := by decide +kernel
theorem dX12_pence_17 : decode cX12_pence 17 = .ok (.ifCond .ne 5, 3) := by decide +kernel
theorem dX12_pence_20 : decode cX12_pence 20 = .ok (.iconst (-1), 1) := by decide +kernel
theorem dX12_pence_21 : decode cX12_pence 21 = .ok (.ireturn, 1) := by decide +kernel
theorem dX12_pence_22 : decode cX12_pence 22 = .ok (.aload_n 0, 1) := by decide +kernel
theorem dX12_pence_23 : decode cX12_pence 23 = .ok (.invokevirtual 490, 3) := by decide +kernel
theorem dX12_pence_26 : decode cX12_pence 26 = .ok (.istore_n 3, 1) := by decide +kernel
theorem dX12_pence_27 : decode cX12_pence 27 = .ok (.iload_n 3, 1) := by decide +kernel
theorem dX12_pence_28 : decode cX12_pence 28 = .ok (.ifCond .ne 5, 3) := by decide +kernel
theorem dX12_pence_31 : decode cX12_pence 31 = .ok (.iconst 0, 1) := by decide +kernel
theorem dX12_pence_32 : decode cX12_pence 32 = .ok (.ireturn, 1) := by decide +kernel
theorem dX12_pence_33 : decode cX12_pence 33 = .ok (.iload_n 1, 1) := by decide +kernel
theorem dX12_pence_34 : decode cX12_pence 34 = .ok (.istore 4, 2) := by decide +kernel
theorem dX12_pence_36 : decode cX12_pence 36 = .ok (.iconst 0, 1) := by decide +kernel
theorem dX12_pence_37 : decode cX12_pence 37 = .ok (.istore 5, 2) := by decide +kernel
theorem dX12_pence_39 : decode cX12_pence 39 = .ok (.iconst 0, 1) := by decide +kernel
theorem dX12_pence_40 : decode cX12_pence 40 = .ok (.istore 6, 2) := by decide +kernel
theorem dX12_pence_42 : decode cX12_pence 42 = .ok (.iload 6, 2) := by decide +kernel
theorem dX12_pence_44 : decode cX12_pence 44 = .ok (.aload_n 0, 1) := by decide +kernel
theorem dX12_pence_45 : decode cX12_pence 45 = .ok (.getfield 9, 3) := by decide +kernel
theorem dX12_pence_48 : decode cX12_pence 48 = .ok (.iconst 2, 1) := by decide +kernel
theorem dX12_pence_49 : decode cX12_pence 49 = .ok (.iaload, 1) := by decide +kernel
theorem dX12_pence_50 : decode cX12_pence 50 = .ok (.if_icmp .ge 75, 3) := by decide +kernel
theorem dX12_pence_53 : decode cX12_pence 53 = .ok (.iload 4, 2) := by decide +kernel
theorem dX12_pence_55 : decode cX12_pence 55 = .ok (.iload_n 1, 1) := by decide +kernel
theorem dX12_pence_56 : decode cX12_pence 56 = .ok (.aload_n 0, 1) := by decide +kernel
theorem dX12_pence_57 : decode cX12_pence 57 = .ok (.getfield 22, 3) := by decide +kernel
theorem dX12_pence_60 : decode cX12_pence 60 = .ok (.iload 6, 2) := by decide +kernel
theorem dX12_pence_62 : decode cX12_pence 62 = .ok (.iaload, 1) := by decide +kernel
theorem dX12_pence_63 : decode cX12_pence 63 = .ok (.imul, 1) := by decide +kernel
theorem dX12_pence_64 : decode cX12_pence 64 = .ok (.iload_n 3, 1) := by decide +kernel
theorem dX12_pence_65 : decode cX12_pence 65 = .ok (.idiv, 1) := by decide +kernel
theorem dX12_pence_66 : decode cX12_pence 66 = .ok (.isub, 1) := by decide +kernel
theorem dX12_pence_67 : decode cX12_pence 67 = .ok (.istore 4, 2) := by decide +kernel
theorem dX12_pence_69 : decode cX12_pence 69 = .ok (.iload_n 1, 1) := by decide +kernel
theorem dX12_pence_70 : decode cX12_pence 70 = .ok (.aload_n 0, 1) := by decide +kernel
theorem dX12_pence_71 : decode cX12_pence 71 = .ok (.getfield 22, 3) := by decide +kernel
theorem dX12_pence_74 : decode cX12_pence 74 = .ok (.iload 6, 2) := by decide +kernel
theorem dX12_pence_76 : decode cX12_pence 76 = .ok (.iaload, 1) := by decide +kernel
theorem dX12_pence_77 : decode cX12_pence 77 = .ok (.imul, 1) := by decide +kernel
theorem dX12_pence_78 : decode cX12_pence 78 = .ok (.iload_n 3, 1) := by decide +kernel
theorem dX12_pence_79 : decode cX12_pence 79 = .ok (.irem, 1) := by decide +kernel
theorem dX12_pence_80 : decode cX12_pence 80 = .ok (.iload_n 1, 1) := by decide +kernel
theorem dX12_pence_81 : decode cX12_pence 81 = .ok (.aload_n 0, 1) := by decide +kernel
theorem dX12_pence_82 : decode cX12_pence 82 = .ok (.getfield 22, 3) := by decide +kernel
theorem dX12_pence_85 : decode cX12_pence 85 = .ok (.iload_n 2, 1) := by decide +kernel
theorem dX12_pence_86 : decode cX12_pence 86 = .ok (.iaload, 1) := by decide +kernel
theorem dX12_pence_87 : decode cX12_pence 87 = .ok (.imul, 1) := by decide +kernel
theorem dX12_pence_88 : decode cX12_pence 88 = .ok (.iload_n 3, 1) := by decide +kernel
theorem dX12_pence_89 : decode cX12_pence 89 = .ok (.irem, 1) := by decide +kernel
theorem dX12_pence_90 : decode cX12_pence 90 = .ok (.isub, 1) := by decide +kernel
theorem dX12_pence_91 : decode cX12_pence 91 = .ok (.istore 7, 2) := by decide +kernel
theorem dX12_pence_93 : decode cX12_pence 93 = .ok (.iload 5, 2) := by decide +kernel
theorem dX12_pence_95 : decode cX12_pence 95 = .ok (.iload 7, 2) := by decide +kernel
theorem dX12_pence_97 : decode cX12_pence 97 = .ok (.ifCond .gt 14, 3) := by decide +kernel
theorem dX12_pence_100 : decode cX12_pence 100 = .ok (.iload 7, 2) := by decide +kernel
theorem dX12_pence_102 : decode cX12_pence 102 = .ok (.ifCond .ne 13, 3) := by decide +kernel
theorem dX12_pence_105 : decode cX12_pence 105 = .ok (.iload 6, 2) := by decide +kernel
theorem dX12_pence_107 : decode cX12_pence 107 = .ok (.iload_n 2, 1) := by decide +kernel
theorem dX12_pence_108 : decode cX12_pence 108 = .ok (.if_icmp .ge 7, 3) := by decide +kernel
theorem dX12_pence_111 : decode cX12_pence 111 = .ok (.iconst 1, 1) := by decide +kernel
theorem dX12_pence_112 : decode cX12_pence 112 = .ok (.goto 4, 3) := by decide +kernel
theorem dX12_pence_115 : decode cX12_pence 115 = .ok (.iconst 0, 1) := by decide +kernel
theorem dX12_pence_116 : decode cX12_pence 116 = .ok (.iadd, 1) := by decide +kernel
theorem dX12_pence_117 : decode cX12_pence 117 = .ok (.istore 5, 2) := by decide +kernel
theorem dX12_pence_119 : decode cX12_pence 119 = .ok (.iinc 6 1, 3) := by decide +kernel
theorem dX12_pence_122 : decode cX12_pence 122 = .ok (.goto (-80), 3) := by decide +kernel
theorem dX12_pence_125 : decode cX12_pence 125 = .ok (.iload_n 1, 1) := by decide +kernel
theorem dX12_pence_126 : decode cX12_pence 126 = .ok (.aload_n 0, 1) := by decide +kernel
theorem dX12_pence_127 : decode cX12_pence 127 = .ok (.getfield 22, 3) := by decide +kernel
theorem dX12_pence_130 : decode cX12_pence 130 = .ok (.iload_n 2, 1) := by decide +kernel
theorem dX12_pence_131 : decode cX12_pence 131 = .ok (.iaload, 1) := by decide +kernel
theorem dX12_pence_132 : decode cX12_pence 132 = .ok (.imul, 1) := by decide +kernel
theorem dX12_pence_133 : decode cX12_pence 133 = .ok (.iload_n 3, 1) := by decide +kernel
theorem dX12_pence_134 : decode cX12_pence 134 = .ok (.idiv, 1) := by decide +kernel
theorem dX12_pence_135 : decode cX12_pence 135 = .ok (.iload 5, 2) := by decide +kernel
theorem dX12_pence_137 : decode cX12_pence 137 = .ok (.iload 4, 2) := by decide +kernel
theorem dX12_pence_139 : decode cX12_pence 139 = .ok (.if_icmp .ge 7, 3) := by decide +kernel
theorem dX12_pence_142 : decode cX12_pence 142 = .ok (.iconst 1, 1) := by decide +kernel
theorem dX12_pence_143 : decode cX12_pence 143 = .ok (.goto 4, 3) := by decide +kernel
theorem dX12_pence_146 : decode cX12_pence 146 = .ok (.iconst 0, 1) := by decide +kernel
theorem dX12_pence_147 : decode cX12_pence 147 = .ok (.iadd, 1) := by decide +kernel
theorem dX12_pence_148 : decode cX12_pence 148 = .ok (.ireturn, 1) := by decide +kernel
theorem dX12_note_0 : decode cX12_note 0 = .ok (.iload_n 1, 1) := by decide +kernel
theorem dX12_note_1 : decode cX12_note 1 = .ok (.iconst (-1), 1) := by decide +kernel
theorem dX12_note_2 : decode cX12_note 2 = .ok (.if_icmp .ne 13, 3) := by decide +kernel
theorem dX12_note_5 : decode cX12_note 5 = .ok (.aload_n 0, 1) := by decide +kernel
theorem dX12_note_6 : decode cX12_note 6 = .ok (.getfield 9, 3) := by decide +kernel
theorem dX12_note_9 : decode cX12_note 9 = .ok (.bipush 7, 2) := by decide +kernel
theorem dX12_note_11 : decode cX12_note 11 = .ok (.iconst 0, 1) := by decide +kernel
theorem dX12_note_12 : decode cX12_note 12 = .ok (.iastore, 1) := by decide +kernel
theorem dX12_note_13 : decode cX12_note 13 = .ok (.iconst 0, 1) := by decide +kernel
theorem dX12_note_14 : decode cX12_note 14 = .ok (.ireturn, 1) := by decide +kernel
theorem dX12_note_15 : decode cX12_note 15 = .ok (.aload_n 0, 1) := by decide +kernel
theorem dX12_note_16 : decode cX12_note 16 = .ok (.getfield 9, 3) := by decide +kernel
theorem dX12_note_19 : decode cX12_note 19 = .ok (.bipush 7, 2) := by decide +kernel
theorem dX12_note_21 : decode cX12_note 21 = .ok (.iaload, 1) := by decide +kernel
theorem dX12_note_22 : decode cX12_note 22 = .ok (.istore 4, 2) := by decide +kernel
theorem dX12_note_24 : decode cX12_note 24 = .ok (.iload_n 1, 1) := by decide +kernel
theorem dX12_note_25 : decode cX12_note 25 = .ok (.i2l, 1) := by decide +kernel
theorem dX12_note_26 : decode cX12_note 26 = .ok (.lconst 0, 1) := by decide +kernel
theorem dX12_note_27 : decode cX12_note 27 = .ok (.ldc2_w 463, 3) := by decide +kernel
theorem dX12_note_30 : decode cX12_note 30 = .ok (.invokestatic 159, 3) := by decide +kernel
theorem dX12_note_33 : decode cX12_note 33 = .ok (.ifCond .eq 30, 3) := by decide +kernel
theorem dX12_note_36 : decode cX12_note 36 = .ok (.aload_n 0, 1) := by decide +kernel
theorem dX12_note_37 : decode cX12_note 37 = .ok (.iload_n 2, 1) := by decide +kernel
theorem dX12_note_38 : decode cX12_note 38 = .ok (.invokevirtual 373, 3) := by decide +kernel
theorem dX12_note_41 : decode cX12_note 41 = .ok (.ifCond .eq 22, 3) := by decide +kernel
theorem dX12_note_44 : decode cX12_note 44 = .ok (.iload_n 3, 1) := by decide +kernel
theorem dX12_note_45 : decode cX12_note 45 = .ok (.i2l, 1) := by decide +kernel
theorem dX12_note_46 : decode cX12_note 46 = .ok (.lconst 0, 1) := by decide +kernel
theorem dX12_note_47 : decode cX12_note 47 = .ok (.ldc2_w 476, 3) := by decide +kernel
theorem dX12_note_50 : decode cX12_note 50 = .ok (.invokestatic 159, 3) := by decide +kernel
theorem dX12_note_53 : decode cX12_note 53 = .ok (.ifCond .eq 10, 3) := by decide +kernel
theorem dX12_note_56 : decode cX12_note 56 = .ok (.iload 4, 2) := by decide +kernel
theorem dX12_note_58 : decode cX12_note 58 = .ok (.bipush 10, 2) := by decide +kernel
theorem dX12_note_60 : decode cX12_note 60 = .ok (.if_icmp .ne 6, 3) := by decide +kernel
theorem dX12_note_63 : decode cX12_note 63 = .ok (.bipush (-2), 2) := by decide +kernel
theorem dX12_note_65 : decode cX12_note 65 = .ok (.ireturn, 1) := by decide +kernel
theorem dX12_note_66 : decode cX12_note 66 = .ok (.aload_n 0, 1) := by decide +kernel
theorem dX12_note_67 : decode cX12_note 67 = .ok (.getfield 49, 3) := by decide +kernel
theorem dX12_note_70 : decode cX12_note 70 = .ok (.iload 4, 2) := by decide +kernel
theorem dX12_note_72 : decode cX12_note 72 = .ok (.iload_n 1, 1) := by decide +kernel
theorem dX12_note_73 : decode cX12_note 73 = .ok (.iastore, 1) := by decide +kernel
theorem dX12_note_74 : decode cX12_note 74 = .ok (.aload_n 0, 1) := by decide +kernel
theorem dX12_note_75 : decode cX12_note 75 = .ok (.getfield 52, 3) := by decide +kernel
theorem dX12_note_78 : decode cX12_note 78 = .ok (.iload 4, 2) := by decide +kernel
theorem dX12_note_80 : decode cX12_note 80 = .ok (.iload_n 2, 1) := by decide +kernel
theorem dX12_note_81 : decode cX12_note 81 = .ok (.iastore, 1) := by decide +kernel
theorem dX12_note_82 : decode cX12_note 82 = .ok (.aload_n 0, 1) := by decide +kernel
theorem dX12_note_83 : decode cX12_note 83 = .ok (.getfield 55, 3) := by decide +kernel
theorem dX12_note_86 : decode cX12_note 86 = .ok (.iload 4, 2) := by decide +kernel
theorem dX12_note_88 : decode cX12_note 88 = .ok (.iload_n 3, 1) := by decide +kernel
theorem dX12_note_89 : decode cX12_note 89 = .ok (.iastore, 1) := by decide +kernel
theorem dX12_note_90 : decode cX12_note 90 = .ok (.aload_n 0, 1) := by decide +kernel
theorem dX12_note_91 : decode cX12_note 91 = .ok (.getfield 9, 3) := by decide +kernel
theorem dX12_note_94 : decode cX12_note 94 = .ok (.bipush 7, 2) := by decide +kernel
theorem dX12_note_96 : decode cX12_note 96 = .ok (.dup2, 1) := by decide +kernel
theorem dX12_note_97 : decode cX12_note 97 = .ok (.iaload, 1) := by decide +kernel
theorem dX12_note_98 : decode cX12_note 98 = .ok (.iconst 1, 1) := by decide +kernel
theorem dX12_note_99 : decode cX12_note 99 = .ok (.iadd, 1) := by decide +kernel
theorem dX12_note_100 : decode cX12_note 100 = .ok (.iastore, 1) := by decide +kernel
theorem dX12_note_101 : decode cX12_note 101 = .ok (.iload 4, 2) := by decide +kernel
theorem dX12_note_103 : decode cX12_note 103 = .ok (.iconst 1, 1) := by decide +kernel
theorem dX12_note_104 : decode cX12_note 104 = .ok (.iadd, 1) := by decide +kernel
theorem dX12_note_105 : decode cX12_note 105 = .ok (.ireturn, 1) := by decide +kernel
theorem dX12_couldRule_0 : decode cX12_couldRule 0 = .ok (.aload_n 0, 1) := by decide +kernel
theorem dX12_couldRule_1 : decode cX12_couldRule 1 = .ok (.getfield 9, 3) := by decide +kernel
theorem dX12_couldRule_4 : decode cX12_couldRule 4 = .ok (.bipush 9, 2) := by decide +kernel
theorem dX12_couldRule_6 : decode cX12_couldRule 6 = .ok (.iload_n 1, 1) := by decide +kernel
theorem dX12_couldRule_7 : decode cX12_couldRule 7 = .ok (.iastore, 1) := by decide +kernel
theorem dX12_couldRule_8 : decode cX12_couldRule 8 = .ok (.aload_n 0, 1) := by decide +kernel
theorem dX12_couldRule_9 : decode cX12_couldRule 9 = .ok (.invokevirtual 322, 3) := by decide +kernel
theorem dX12_couldRule_12 : decode cX12_couldRule 12 = .ok (.iconst 0, 1) := by decide +kernel
theorem dX12_couldRule_13 : decode cX12_couldRule 13 = .ok (.istore_n 2, 1) := by decide +kernel
theorem dX12_couldRule_14 : decode cX12_couldRule 14 = .ok (.iload_n 2, 1) := by decide +kernel
theorem dX12_couldRule_15 : decode cX12_couldRule 15 = .ok (.bipush 60, 2) := by decide +kernel
theorem dX12_couldRule_17 : decode cX12_couldRule 17 = .ok (.if_icmp .gt 45, 3) := by decide +kernel
theorem dX12_couldRule_20 : decode cX12_couldRule 20 = .ok (.aload_n 0, 1) := by decide +kernel
theorem dX12_couldRule_21 : decode cX12_couldRule 21 = .ok (.invokevirtual 407, 3) := by decide +kernel
theorem dX12_couldRule_24 : decode cX12_couldRule 24 = .ok (.pop, 1) := by decide +kernel
theorem dX12_couldRule_25 : decode cX12_couldRule 25 = .ok (.iconst 0, 1) := by decide +kernel
theorem dX12_couldRule_26 : decode cX12_couldRule 26 = .ok (.istore_n 3, 1) := by decide +kernel
theorem dX12_couldRule_27 : decode cX12_couldRule 27 = .ok (.iload_n 3, 1) := by decide +kernel
theorem dX12_couldRule_28 : decode cX12_couldRule 28 = .ok (.bipush 36, 2) := by decide +kernel
theorem dX12_couldRule_30 : decode cX12_couldRule 30 = .ok (.if_icmp .ge 26, 3) := by decide +kernel
theorem dX12_couldRule_33 : decode cX12_couldRule 33 = .ok (.aload_n 0, 1) := by decide +kernel
theorem dX12_couldRule_34 : decode cX12_couldRule 34 = .ok (.getfield 139, 3) := by decide +kernel
theorem dX12_couldRule_37 : decode cX12_couldRule 37 = .ok (.bipush 36, 2) := by decide +kernel
theorem dX12_couldRule_39 : decode cX12_couldRule 39 = .ok (.iload_n 2, 1) := by decide +kernel
theorem dX12_couldRule_40 : decode cX12_couldRule 40 = .ok (.imul, 1) := by decide +kernel
theorem dX12_couldRule_41 : decode cX12_couldRule 41 = .ok (.iload_n 3, 1) := by decide +kernel
theorem dX12_couldRule_42 : decode cX12_couldRule 42 = .ok (.iadd, 1) := by decide +kernel
theorem dX12_couldRule_43 : decode cX12_couldRule 43 = .ok (.aload_n 0, 1) := by decide +kernel
theorem dX12_couldRule_44 : decode cX12_couldRule 44 = .ok (.getfield 31, 3) := by decide +kernel
theorem dX12_couldRule_47 : decode cX12_couldRule 47 = .ok (.iload_n 3, 1) := by decide +kernel
theorem dX12_couldRule_48 : decode cX12_couldRule 48 = .ok (.iaload, 1) := by decide +kernel
theorem dX12_couldRule_49 : decode cX12_couldRule 49 = .ok (.iastore, 1) := by decide +kernel
theorem dX12_couldRule_50 : decode cX12_couldRule 50 = .ok (.iinc 3 1, 3) := by decide +kernel
theorem dX12_couldRule_53 : decode cX12_couldRule 53 = .ok (.goto (-26), 3) := by decide +kernel
theorem dX12_couldRule_56 : decode cX12_couldRule 56 = .ok (.iinc 2 1, 3) := by decide +kernel
theorem dX12_couldRule_59 : decode cX12_couldRule 59 = .ok (.goto (-45), 3) := by decide +kernel
theorem dX12_couldRule_62 : decode cX12_couldRule 62 = .ok (.aload_n 0, 1) := by decide +kernel
theorem dX12_couldRule_63 : decode cX12_couldRule 63 = .ok (.invokevirtual 449, 3) := by decide +kernel
theorem dX12_couldRule_66 : decode cX12_couldRule 66 = .ok (.iconst 0, 1) := by decide +kernel
theorem dX12_couldRule_67 : decode cX12_couldRule 67 = .ok (.istore_n 2, 1) := by decide +kernel
theorem dX12_couldRule_68 : decode cX12_couldRule 68 = .ok (.iload_n 2, 1) := by decide +kernel
theorem dX12_couldRule_69 : decode cX12_couldRule 69 = .ok (.aload_n 0, 1) := by decide +kernel
theorem dX12_couldRule_70 : decode cX12_couldRule 70 = .ok (.getfield 9, 3) := by decide +kernel
theorem dX12_couldRule_73 : decode cX12_couldRule 73 = .ok (.bipush 7, 2) := by decide +kernel
theorem dX12_couldRule_75 : decode cX12_couldRule 75 = .ok (.iaload, 1) := by decide +kernel
theorem dX12_couldRule_76 : decode cX12_couldRule 76 = .ok (.if_icmp .ge 41, 3) := by decide +kernel
theorem dX12_couldRule_79 : decode cX12_couldRule 79 = .ok (.aload_n 0, 1) := by decide +kernel
theorem dX12_couldRule_80 : decode cX12_couldRule 80 = .ok (.getfield 139, 3) := by decide +kernel
theorem dX12_couldRule_83 : decode cX12_couldRule 83 = .ok (.bipush 36, 2) := by decide +kernel
theorem dX12_couldRule_85 : decode cX12_couldRule 85 = .ok (.aload_n 0, 1) := by decide +kernel
theorem dX12_couldRule_86 : decode cX12_couldRule 86 = .ok (.getfield 49, 3) := by decide +kernel
theorem dX12_couldRule_89 : decode cX12_couldRule 89 = .ok (.iload_n 2, 1) := by decide +kernel
theorem dX12_couldRule_90 : decode cX12_couldRule 90 = .ok (.iaload, 1) := by decide +kernel
theorem dX12_couldRule_91 : decode cX12_couldRule 91 = .ok (.imul, 1) := by decide +kernel
theorem dX12_couldRule_92 : decode cX12_couldRule 92 = .ok (.aload_n 0, 1) := by decide +kernel
theorem dX12_couldRule_93 : decode cX12_couldRule 93 = .ok (.getfield 52, 3) := by decide +kernel
theorem dX12_couldRule_96 : decode cX12_couldRule 96 = .ok (.iload_n 2, 1) := by decide +kernel
theorem dX12_couldRule_97 : decode cX12_couldRule 97 = .ok (.iaload, 1) := by decide +kernel
theorem dX12_couldRule_98 : decode cX12_couldRule 98 = .ok (.iadd, 1) := by decide +kernel
theorem dX12_couldRule_99 : decode cX12_couldRule 99 = .ok (.iaload, 1) := by decide +kernel
theorem dX12_couldRule_100 : decode cX12_couldRule 100 = .ok (.aload_n 0, 1) := by decide +kernel
theorem dX12_couldRule_101 : decode cX12_couldRule 101 = .ok (.getfield 55, 3) := by decide +kernel
theorem dX12_couldRule_104 : decode cX12_couldRule 104 = .ok (.iload_n 2, 1) := by decide +kernel
theorem dX12_couldRule_105 : decode cX12_couldRule 105 = .ok (.iaload, 1) := by decide +kernel
theorem dX12_couldRule_106 : decode cX12_couldRule 106 = .ok (.if_icmp .eq 5, 3) := by decide +kernel
theorem dX12_couldRule_109 : decode cX12_couldRule 109 = .ok (.iconst 0, 1) := by decide +kernel
theorem dX12_couldRule_110 : decode cX12_couldRule 110 = .ok (.ireturn, 1) := by decide +kernel
theorem dX12_couldRule_111 : decode cX12_couldRule 111 = .ok (.iinc 2 1, 3) := by decide +kernel
theorem dX12_couldRule_114 : decode cX12_couldRule 114 = .ok (.goto (-46), 3) := by decide +kernel
theorem dX12_couldRule_117 : decode cX12_couldRule 117 = .ok (.iconst 1, 1) := by decide +kernel
theorem dX12_couldRule_118 : decode cX12_couldRule 118 = .ok (.ireturn, 1) := by decide +kernel
theorem dX12_ruled_0 : decode cX12_ruled 0 = .ok (.aload_n 0, 1) := by decide +kernel
theorem dX12_ruled_1 : decode cX12_ruled 1 = .ok (.invokevirtual 428, 3) := by decide +kernel
theorem dX12_ruled_4 : decode cX12_ruled 4 = .ok (.ifCond .eq 13, 3) := by decide +kernel
theorem dX12_ruled_7 : decode cX12_ruled 7 = .ok (.iload_n 1, 1) := by decide +kernel
theorem dX12_ruled_8 : decode cX12_ruled 8 = .ok (.i2l, 1) := by decide +kernel
theorem dX12_ruled_9 : decode cX12_ruled 9 = .ok (.lconst 0, 1) := by decide +kernel
theorem dX12_ruled_10 : decode cX12_ruled 10 = .ok (.lconst 1, 1) := by decide +kernel
theorem dX12_ruled_11 : decode cX12_ruled 11 = .ok (.invokestatic 159, 3) := by decide +kernel
theorem dX12_ruled_14 : decode cX12_ruled 14 = .ok (.ifCond .ne 6, 3) := by decide +kernel
theorem dX12_ruled_17 : decode cX12_ruled 17 = .ok (.bipush (-3), 2) := by decide +kernel
theorem dX12_ruled_19 : decode cX12_ruled 19 = .ok (.ireturn, 1) := by decide +kernel
theorem dX12_ruled_20 : decode cX12_ruled 20 = .ok (.aload_n 0, 1) := by decide +kernel
theorem dX12_ruled_21 : decode cX12_ruled 21 = .ok (.invokevirtual 443, 3) := by decide +kernel
theorem dX12_ruled_24 : decode cX12_ruled 24 = .ok (.iconst 0, 1) := by decide +kernel
theorem dX12_ruled_25 : decode cX12_ruled 25 = .ok (.istore_n 2, 1) := by decide +kernel
theorem dX12_ruled_26 : decode cX12_ruled 26 = .ok (.bipush (-2), 2) := by decide +kernel
theorem dX12_ruled_28 : decode cX12_ruled 28 = .ok (.istore_n 3, 1) := by decide +kernel
theorem dX12_ruled_29 : decode cX12_ruled 29 = .ok (.iconst (-1), 1) := by decide +kernel
theorem dX12_ruled_30 : decode cX12_ruled 30 = .ok (.istore 4, 2) := by decide +kernel
theorem dX12_ruled_32 : decode cX12_ruled 32 = .ok (.iload 4, 2) := by decide +kernel
theorem dX12_ruled_34 : decode cX12_ruled 34 = .ok (.aload_n 0, 1) := by decide +kernel
theorem dX12_ruled_35 : decode cX12_ruled 35 = .ok (.getfield 338, 3) := by decide +kernel
theorem dX12_ruled_38 : decode cX12_ruled 38 = .ok (.if_icmp .ge 32, 3) := by decide +kernel
theorem dX12_ruled_41 : decode cX12_ruled 41 = .ok (.aload_n 0, 1) := by decide +kernel
theorem dX12_ruled_42 : decode cX12_ruled 42 = .ok (.iload 4, 2) := by decide +kernel
theorem dX12_ruled_44 : decode cX12_ruled 44 = .ok (.invokevirtual 493, 3) := by decide +kernel
theorem dX12_ruled_47 : decode cX12_ruled 47 = .ok (.ifCond .eq 17, 3) := by decide +kernel
theorem dX12_ruled_50 : decode cX12_ruled 50 = .ok (.iload_n 2, 1) := by decide +kernel
theorem dX12_ruled_51 : decode cX12_ruled 51 = .ok (.ifCond .ne 8, 3) := by decide +kernel
theorem dX12_ruled_54 : decode cX12_ruled 54 = .ok (.iload 4, 2) := by decide +kernel
theorem dX12_ruled_56 : decode cX12_ruled 56 = .ok (.goto 4, 3) := by decide +kernel
theorem dX12_ruled_59 : decode cX12_ruled 59 = .ok (.iload_n 3, 1) := by decide +kernel
theorem dX12_ruled_60 : decode cX12_ruled 60 = .ok (.istore_n 3, 1) := by decide +kernel
theorem dX12_ruled_61 : decode cX12_ruled 61 = .ok (.iinc 2 1, 3) := by decide +kernel
theorem dX12_ruled_64 : decode cX12_ruled 64 = .ok (.iinc 4 1, 3) := by decide +kernel
theorem dX12_ruled_67 : decode cX12_ruled 67 = .ok (.goto (-35), 3) := by decide +kernel
theorem dX12_ruled_70 : decode cX12_ruled 70 = .ok (.iload_n 1, 1) := by decide +kernel
theorem dX12_ruled_71 : decode cX12_ruled 71 = .ok (.ifCond .ne 7, 3) := by decide +kernel
theorem dX12_ruled_74 : decode cX12_ruled 74 = .ok (.iload_n 2, 1) := by decide +kernel
theorem dX12_ruled_75 : decode cX12_ruled 75 = .ok (.goto 4, 3) := by decide +kernel
theorem dX12_ruled_78 : decode cX12_ruled 78 = .ok (.iload_n 3, 1) := by decide +kernel
theorem dX12_ruled_79 : decode cX12_ruled 79 = .ok (.ireturn, 1) := by decide +kernel
theorem dX12_mostAlike_0 : decode cX12_mostAlike 0 = .ok (.iconst 0, 1) := by decide +kernel
theorem dX12_mostAlike_1 : decode cX12_mostAlike 1 = .ok (.istore_n 3, 1) := by decide +kernel
theorem dX12_mostAlike_2 : decode cX12_mostAlike 2 = .ok (.iconst 0, 1) := by decide +kernel
theorem dX12_mostAlike_3 : decode cX12_mostAlike 3 = .ok (.istore 4, 2) := by decide +kernel
theorem dX12_mostAlike_5 : decode cX12_mostAlike 5 = .ok (.iload 4, 2) := by decide +kernel
theorem dX12_mostAlike_7 : decode cX12_mostAlike 7 = .ok (.iload_n 2, 1) := by decide +kernel
theorem dX12_mostAlike_8 : decode cX12_mostAlike 8 = .ok (.if_icmp .ge 77, 3) := by decide +kernel
theorem dX12_mostAlike_11 : decode cX12_mostAlike 11 = .ok (.iconst 0, 1) := by decide +kernel
theorem dX12_mostAlike_12 : decode cX12_mostAlike 12 = .ok (.istore 5, 2) := by decide +kernel
theorem dX12_mostAlike_14 : decode cX12_mostAlike 14 = .ok (.iconst 0, 1) := by decide +kernel
theorem dX12_mostAlike_15 : decode cX12_mostAlike 15 = .ok (.istore 6, 2) := by decide +kernel
theorem dX12_mostAlike_17 : decode cX12_mostAlike 17 = .ok (.iload 6, 2) := by decide +kernel
theorem dX12_mostAlike_19 : decode cX12_mostAlike 19 = .ok (.iload_n 2, 1) := by decide +kernel
theorem dX12_mostAlike_20 : decode cX12_mostAlike 20 = .ok (.if_icmp .ge 46, 3) := by decide +kernel
theorem dX12_mostAlike_23 : decode cX12_mostAlike 23 = .ok (.iload 5, 2) := by decide +kernel
theorem dX12_mostAlike_25 : decode cX12_mostAlike 25 = .ok (.aload_n 0, 1) := by decide +kernel
theorem dX12_mostAlike_26 : decode cX12_mostAlike 26 = .ok (.getfield 142, 3) := by decide +kernel
theorem dX12_mostAlike_29 : decode cX12_mostAlike 29 = .ok (.bipush 36, 2) := by decide +kernel
theorem dX12_mostAlike_31 : decode cX12_mostAlike 31 = .ok (.iload 6, 2) := by decide +kernel
theorem dX12_mostAlike_33 : decode cX12_mostAlike 33 = .ok (.imul, 1) := by decide +kernel
theorem dX12_mostAlike_34 : decode cX12_mostAlike 34 = .ok (.iload_n 1, 1) := by decide +kernel
theorem dX12_mostAlike_35 : decode cX12_mostAlike 35 = .ok (.iadd, 1) := by decide +kernel
theorem dX12_mostAlike_36 : decode cX12_mostAlike 36 = .ok (.iaload, 1) := by decide +kernel
theorem dX12_mostAlike_37 : decode cX12_mostAlike 37 = .ok (.aload_n 0, 1) := by decide +kernel
theorem dX12_mostAlike_38 : decode cX12_mostAlike 38 = .ok (.getfield 142, 3) := by decide +kernel
theorem dX12_mostAlike_41 : decode cX12_mostAlike 41 = .ok (.bipush 36, 2) := by decide +kernel
theorem dX12_mostAlike_43 : decode cX12_mostAlike 43 = .ok (.iload 4, 2) := by decide +kernel
theorem dX12_mostAlike_45 : decode cX12_mostAlike 45 = .ok (.imul, 1) := by decide +kernel
theorem dX12_mostAlike_46 : decode cX12_mostAlike 46 = .ok (.iload_n 1, 1) := by decide +kernel
theorem dX12_mostAlike_47 : decode cX12_mostAlike 47 = .ok (.iadd, 1) := by decide +kernel
theorem dX12_mostAlike_48 : decode cX12_mostAlike 48 = .ok (.iaload, 1) := by decide +kernel
theorem dX12_mostAlike_49 : decode cX12_mostAlike 49 = .ok (.if_icmp .ne 7, 3) := by decide +kernel
theorem dX12_mostAlike_52 : decode cX12_mostAlike 52 = .ok (.iconst 1, 1) := by decide +kernel
theorem dX12_mostAlike_53 : decode cX12_mostAlike 53 = .ok (.goto 4, 3) := by decide +kernel
theorem dX12_mostAlike_56 : decode cX12_mostAlike 56 = .ok (.iconst 0, 1) := by decide +kernel
theorem dX12_mostAlike_57 : decode cX12_mostAlike 57 = .ok (.iadd, 1) := by decide +kernel
theorem dX12_mostAlike_58 : decode cX12_mostAlike 58 = .ok (.istore 5, 2) := by decide +kernel
theorem dX12_mostAlike_60 : decode cX12_mostAlike 60 = .ok (.iinc 6 1, 3) := by decide +kernel
theorem dX12_mostAlike_63 : decode cX12_mostAlike 63 = .ok (.goto (-46), 3) := by decide +kernel
theorem dX12_mostAlike_66 : decode cX12_mostAlike 66 = .ok (.iload 5, 2) := by decide +kernel
theorem dX12_mostAlike_68 : decode cX12_mostAlike 68 = .ok (.iload_n 3, 1) := by decide +kernel
theorem dX12_mostAlike_69 : decode cX12_mostAlike 69 = .ok (.if_icmp .le 8, 3) := by decide +kernel
theorem dX12_mostAlike_72 : decode cX12_mostAlike 72 = .ok (.iload 5, 2) := by decide +kernel
theorem dX12_mostAlike_74 : decode cX12_mostAlike 74 = .ok (.goto 4, 3) := by decide +kernel
theorem dX12_mostAlike_77 : decode cX12_mostAlike 77 = .ok (.iload_n 3, 1) := by decide +kernel
theorem dX12_mostAlike_78 : decode cX12_mostAlike 78 = .ok (.istore_n 3, 1) := by decide +kernel
theorem dX12_mostAlike_79 : decode cX12_mostAlike 79 = .ok (.iinc 4 1, 3) := by decide +kernel
theorem dX12_mostAlike_82 : decode cX12_mostAlike 82 = .ok (.goto (-77), 3) := by decide +kernel
theorem dX12_mostAlike_85 : decode cX12_mostAlike 85 = .ok (.iload_n 3, 1) := by decide +kernel
theorem dX12_mostAlike_86 : decode cX12_mostAlike 86 = .ok (.ireturn, 1) := by decide +kernel
theorem dX12_look_0 : decode cX12_look 0 = .ok (.aload_n 0, 1) := by decide +kernel
theorem dX12_look_1 : decode cX12_look 1 = .ok (.invokevirtual 428, 3) := by decide +kernel
theorem dX12_look_4 : decode cX12_look 4 = .ok (.ifCond .eq 25, 3) := by decide +kernel
theorem dX12_look_7 : decode cX12_look 7 = .ok (.iload_n 1, 1) := by decide +kernel
theorem dX12_look_8 : decode cX12_look 8 = .ok (.i2l, 1) := by decide +kernel
theorem dX12_look_9 : decode cX12_look 9 = .ok (.lconst 0, 1) := by decide +kernel
theorem dX12_look_10 : decode cX12_look 10 = .ok (.ldc2_w 463, 3) := by decide +kernel
theorem dX12_look_13 : decode cX12_look 13 = .ok (.invokestatic 159, 3) := by decide +kernel
theorem dX12_look_16 : decode cX12_look 16 = .ok (.ifCond .eq 13, 3) := by decide +kernel
theorem dX12_look_19 : decode cX12_look 19 = .ok (.iload_n 2, 1) := by decide +kernel
theorem dX12_look_20 : decode cX12_look 20 = .ok (.i2l, 1) := by decide +kernel
theorem dX12_look_21 : decode cX12_look 21 = .ok (.lconst 0, 1) := by decide +kernel
theorem dX12_look_22 : decode cX12_look 22 = .ok (.lconst 1, 1) := by decide +kernel
theorem dX12_look_23 : decode cX12_look 23 = .ok (.invokestatic 159, 3) := by decide +kernel
theorem dX12_look_26 : decode cX12_look 26 = .ok (.ifCond .ne 5, 3) := by decide +kernel
theorem dX12_look_29 : decode cX12_look 29 = .ok (.iconst (-1), 1) := by decide +kernel
theorem dX12_look_30 : decode cX12_look 30 = .ok (.ireturn, 1) := by decide +kernel
theorem dX12_look_31 : decode cX12_look 31 = .ok (.aload_n 0, 1) := by decide +kernel
theorem dX12_look_32 : decode cX12_look 32 = .ok (.invokevirtual 443, 3) := by decide +kernel
theorem dX12_look_35 : decode cX12_look 35 = .ok (.iconst 0, 1) := by decide +kernel
theorem dX12_look_36 : decode cX12_look 36 = .ok (.istore_n 3, 1) := by decide +kernel
theorem dX12_look_37 : decode cX12_look 37 = .ok (.iconst (-1), 1) := by decide +kernel
theorem dX12_look_38 : decode cX12_look 38 = .ok (.istore 4, 2) := by decide +kernel
theorem dX12_look_40 : decode cX12_look 40 = .ok (.iload 4, 2) := by decide +kernel
theorem dX12_look_42 : decode cX12_look 42 = .ok (.aload_n 0, 1) := by decide +kernel
theorem dX12_look_43 : decode cX12_look 43 = .ok (.getfield 338, 3) := by decide +kernel
theorem dX12_look_46 : decode cX12_look 46 = .ok (.if_icmp .ge 61, 3) := by decide +kernel
theorem dX12_look_49 : decode cX12_look 49 = .ok (.aload_n 0, 1) := by decide +kernel
theorem dX12_look_50 : decode cX12_look 50 = .ok (.iload 4, 2) := by decide +kernel
theorem dX12_look_52 : decode cX12_look 52 = .ok (.invokevirtual 493, 3) := by decide +kernel
theorem dX12_look_55 : decode cX12_look 55 = .ok (.ifCond .eq 46, 3) := by decide +kernel
theorem dX12_look_58 : decode cX12_look 58 = .ok (.iconst 0, 1) := by decide +kernel
theorem dX12_look_59 : decode cX12_look 59 = .ok (.istore 5, 2) := by decide +kernel
theorem dX12_look_61 : decode cX12_look 61 = .ok (.iload 5, 2) := by decide +kernel
theorem dX12_look_63 : decode cX12_look 63 = .ok (.bipush 36, 2) := by decide +kernel
theorem dX12_look_65 : decode cX12_look 65 = .ok (.if_icmp .ge 33, 3) := by decide +kernel
theorem dX12_look_68 : decode cX12_look 68 = .ok (.aload_n 0, 1) := by decide +kernel
theorem dX12_look_69 : decode cX12_look 69 = .ok (.getfield 142, 3) := by decide +kernel
theorem dX12_look_72 : decode cX12_look 72 = .ok (.bipush 36, 2) := by decide +kernel
theorem dX12_look_74 : decode cX12_look 74 = .ok (.iload_n 3, 1) := by decide +kernel
theorem dX12_look_75 : decode cX12_look 75 = .ok (.imul, 1) := by decide +kernel
theorem dX12_look_76 : decode cX12_look 76 = .ok (.iload 5, 2) := by decide +kernel
theorem dX12_look_78 : decode cX12_look 78 = .ok (.iadd, 1) := by decide +kernel
theorem dX12_look_79 : decode cX12_look 79 = .ok (.aload_n 0, 1) := by decide +kernel
theorem dX12_look_80 : decode cX12_look 80 = .ok (.getfield 139, 3) := by decide +kernel
theorem dX12_look_83 : decode cX12_look 83 = .ok (.bipush 36, 2) := by decide +kernel
theorem dX12_look_85 : decode cX12_look 85 = .ok (.iload_n 1, 1) := by decide +kernel
theorem dX12_look_86 : decode cX12_look 86 = .ok (.imul, 1) := by decide +kernel
theorem dX12_look_87 : decode cX12_look 87 = .ok (.iload 5, 2) := by decide +kernel
theorem dX12_look_89 : decode cX12_look 89 = .ok (.iadd, 1) := by decide +kernel
theorem dX12_look_90 : decode cX12_look 90 = .ok (.iaload, 1) := by decide +kernel
theorem dX12_look_91 : decode cX12_look 91 = .ok (.iastore, 1) := by decide +kernel
theorem dX12_look_92 : decode cX12_look 92 = .ok (.iinc 5 1, 3) := by decide +kernel
theorem dX12_look_95 : decode cX12_look 95 = .ok (.goto (-34), 3) := by decide +kernel
theorem dX12_look_98 : decode cX12_look 98 = .ok (.iinc 3 1, 3) := by decide +kernel
theorem dX12_look_101 : decode cX12_look 101 = .ok (.iinc 4 1, 3) := by decide +kernel
theorem dX12_look_104 : decode cX12_look 104 = .ok (.goto (-64), 3) := by decide +kernel
theorem dX12_look_107 : decode cX12_look 107 = .ok (.iload_n 3, 1) := by decide +kernel
theorem dX12_look_108 : decode cX12_look 108 = .ok (.ifCond .ne 6, 3) := by decide +kernel
theorem dX12_look_111 : decode cX12_look 111 = .ok (.bipush (-2), 2) := by decide +kernel
theorem dX12_look_113 : decode cX12_look 113 = .ok (.ireturn, 1) := by decide +kernel
theorem dX12_look_114 : decode cX12_look 114 = .ok (.iconst 0, 1) := by decide +kernel
theorem dX12_look_115 : decode cX12_look 115 = .ok (.istore 4, 2) := by decide +kernel
theorem dX12_look_117 : decode cX12_look 117 = .ok (.iconst 1, 1) := by decide +kernel
theorem dX12_look_118 : decode cX12_look 118 = .ok (.istore 5, 2) := by decide +kernel
theorem dX12_look_120 : decode cX12_look 120 = .ok (.iload 5, 2) := by decide +kernel
theorem dX12_look_122 : decode cX12_look 122 = .ok (.aload_n 0, 1) := by decide +kernel
theorem dX12_look_123 : decode cX12_look 123 = .ok (.invokevirtual 155, 3) := by decide +kernel
theorem dX12_look_126 : decode cX12_look 126 = .ok (.if_icmp .ge 35, 3) := by decide +kernel
theorem dX12_look_129 : decode cX12_look 129 = .ok (.aload_n 0, 1) := by decide +kernel
theorem dX12_look_130 : decode cX12_look 130 = .ok (.iload 5, 2) := by decide +kernel
theorem dX12_look_132 : decode cX12_look 132 = .ok (.iload_n 3, 1) := by decide +kernel
theorem dX12_look_133 : decode cX12_look 133 = .ok (.invokevirtual 496, 3) := by decide +kernel
theorem dX12_look_136 : decode cX12_look 136 = .ok (.aload_n 0, 1) := by decide +kernel
theorem dX12_look_137 : decode cX12_look 137 = .ok (.iload 4, 2) := by decide +kernel
theorem dX12_look_139 : decode cX12_look 139 = .ok (.iload_n 3, 1) := by decide +kernel
theorem dX12_look_140 : decode cX12_look 140 = .ok (.invokevirtual 496, 3) := by decide +kernel
theorem dX12_look_143 : decode cX12_look 143 = .ok (.if_icmp .ge 8, 3) := by decide +kernel
theorem dX12_look_146 : decode cX12_look 146 = .ok (.iload 5, 2) := by decide +kernel
theorem dX12_look_148 : decode cX12_look 148 = .ok (.goto 5, 3) := by decide +kernel
theorem dX12_look_151 : decode cX12_look 151 = .ok (.iload 4, 2) := by decide +kernel
theorem dX12_look_153 : decode cX12_look 153 = .ok (.istore 4, 2) := by decide +kernel
theorem dX12_look_155 : decode cX12_look 155 = .ok (.iinc 5 1, 3) := by decide +kernel
theorem dX12_look_158 : decode cX12_look 158 = .ok (.goto (-38), 3) := by decide +kernel
theorem dX12_look_161 : decode cX12_look 161 = .ok (.iload_n 2, 1) := by decide +kernel
theorem dX12_look_162 : decode cX12_look 162 = .ok (.ifCond .ne 8, 3) := by decide +kernel
theorem dX12_look_165 : decode cX12_look 165 = .ok (.iload 4, 2) := by decide +kernel
theorem dX12_look_167 : decode cX12_look 167 = .ok (.goto 10, 3) := by decide +kernel
theorem dX12_look_170 : decode cX12_look 170 = .ok (.aload_n 0, 1) := by decide +kernel
theorem dX12_look_171 : decode cX12_look 171 = .ok (.iload 4, 2) := by decide +kernel
theorem dX12_look_173 : decode cX12_look 173 = .ok (.iload_n 3, 1) := by decide +kernel
theorem dX12_look_174 : decode cX12_look 174 = .ok (.invokevirtual 496, 3) := by decide +kernel
theorem dX12_look_177 : decode cX12_look 177 = .ok (.ireturn, 1) := by decide +kernel
theorem dX12_seed_0 : decode cX12_seed 0 = .ok (.iload_n 1, 1) := by decide +kernel
theorem dX12_seed_1 : decode cX12_seed 1 = .ok (.ifCond .ge 5, 3) := by decide +kernel
theorem dX12_seed_4 : decode cX12_seed 4 = .ok (.iconst (-1), 1) := by decide +kernel
theorem dX12_seed_5 : decode cX12_seed 5 = .ok (.ireturn, 1) := by decide +kernel
theorem dX12_seed_6 : decode cX12_seed 6 = .ok (.aload_n 0, 1) := by decide +kernel
theorem dX12_seed_7 : decode cX12_seed 7 = .ok (.getfield 9, 3) := by decide +kernel
theorem dX12_seed_10 : decode cX12_seed 10 = .ok (.bipush 8, 2) := by decide +kernel
theorem dX12_seed_12 : decode cX12_seed 12 = .ok (.iaload, 1) := by decide +kernel
theorem dX12_seed_13 : decode cX12_seed 13 = .ok (.istore_n 2, 1) := by decide +kernel
theorem dX12_seed_14 : decode cX12_seed 14 = .ok (.aload_n 0, 1) := by decide +kernel
theorem dX12_seed_15 : decode cX12_seed 15 = .ok (.getfield 9, 3) := by decide +kernel
theorem dX12_seed_18 : decode cX12_seed 18 = .ok (.bipush 8, 2) := by decide +kernel
theorem dX12_seed_20 : decode cX12_seed 20 = .ok (.iload_n 1, 1) := by decide +kernel
theorem dX12_seed_21 : decode cX12_seed 21 = .ok (.iastore, 1) := by decide +kernel
theorem dX12_seed_22 : decode cX12_seed 22 = .ok (.iload_n 2, 1) := by decide +kernel
theorem dX12_seed_23 : decode cX12_seed 23 = .ok (.ireturn, 1) := by decide +kernel
theorem dX12_draws_0 : decode cX12_draws 0 = .ok (.aload_n 0, 1) := by decide +kernel
theorem dX12_draws_1 : decode cX12_draws 1 = .ok (.getfield 9, 3) := by decide +kernel
theorem dX12_draws_4 : decode cX12_draws 4 = .ok (.bipush 8, 2) := by decide +kernel
theorem dX12_draws_6 : decode cX12_draws 6 = .ok (.aload_n 0, 1) := by decide +kernel
theorem dX12_draws_7 : decode cX12_draws 7 = .ok (.getfield 9, 3) := by decide +kernel
theorem dX12_draws_10 : decode cX12_draws 10 = .ok (.bipush 8, 2) := by decide +kernel
theorem dX12_draws_12 : decode cX12_draws 12 = .ok (.iaload, 1) := by decide +kernel
theorem dX12_draws_13 : decode cX12_draws 13 = .ok (.i2l, 1) := by decide +kernel
theorem dX12_draws_14 : decode cX12_draws 14 = .ok (.ldc2_w 499, 3) := by decide +kernel
theorem dX12_draws_17 : decode cX12_draws 17 = .ok (.lmul, 1) := by decide +kernel
theorem dX12_draws_18 : decode cX12_draws 18 = .ok (.ldc2_w 501, 3) := by decide +kernel
theorem dX12_draws_21 : decode cX12_draws 21 = .ok (.ladd, 1) := by decide +kernel
theorem dX12_draws_22 : decode cX12_draws 22 = .ok (.ldc2_w 503, 3) := by decide +kernel
theorem dX12_draws_25 : decode cX12_draws 25 = .ok (.lrem, 1) := by decide +kernel
theorem dX12_draws_26 : decode cX12_draws 26 = .ok (.l2i, 1) := by decide +kernel
theorem dX12_draws_27 : decode cX12_draws 27 = .ok (.iastore, 1) := by decide +kernel
theorem dX12_draws_28 : decode cX12_draws 28 = .ok (.aload_n 0, 1) := by decide +kernel
theorem dX12_draws_29 : decode cX12_draws 29 = .ok (.getfield 9, 3) := by decide +kernel
theorem dX12_draws_32 : decode cX12_draws 32 = .ok (.bipush 8, 2) := by decide +kernel
theorem dX12_draws_34 : decode cX12_draws 34 = .ok (.iaload, 1) := by decide +kernel
theorem dX12_draws_35 : decode cX12_draws 35 = .ok (.ldc_w 505, 3) := by decide +kernel
theorem dX12_draws_38 : decode cX12_draws 38 = .ok (.idiv, 1) := by decide +kernel
theorem dX12_draws_39 : decode cX12_draws 39 = .ok (.iload_n 1, 1) := by decide +kernel
theorem dX12_draws_40 : decode cX12_draws 40 = .ok (.irem, 1) := by decide +kernel
theorem dX12_draws_41 : decode cX12_draws 41 = .ok (.ireturn, 1) := by decide +kernel
theorem dX12_drawsNotion_0 : decode cX12_drawsNotion 0 = .ok (.aload_n 0, 1) := by decide +kernel
theorem dX12_drawsNotion_1 : decode cX12_drawsNotion 1 = .ok (.bipush 100, 2) := by decide +kernel
theorem dX12_drawsNotion_3 : decode cX12_drawsNotion 3 = .ok (.invokevirtual 506, 3) := by decide +kernel
theorem dX12_drawsNotion_6 : decode cX12_drawsNotion 6 = .ok (.iload_n 1, 1) := by decide +kernel
theorem dX12_drawsNotion_7 : decode cX12_drawsNotion 7 = .ok (.if_icmp .ge 43, 3) := by decide +kernel
theorem dX12_drawsNotion_10 : decode cX12_drawsNotion 10 = .ok (.aload_n 0, 1) := by decide +kernel
theorem dX12_drawsNotion_11 : decode cX12_drawsNotion 11 = .ok (.getfield 9, 3) := by decide +kernel
theorem dX12_drawsNotion_14 : decode cX12_drawsNotion 14 = .ok (.iconst 2, 1) := by decide +kernel
theorem dX12_drawsNotion_15 : decode cX12_drawsNotion 15 = .ok (.iaload, 1) := by decide +kernel
theorem dX12_drawsNotion_16 : decode cX12_drawsNotion 16 = .ok (.ifCond .le 34, 3) := by decide +kernel
theorem dX12_drawsNotion_19 : decode cX12_drawsNotion 19 = .ok (.aload_n 0, 1) := by decide +kernel
theorem dX12_drawsNotion_20 : decode cX12_drawsNotion 20 = .ok (.aload_n 0, 1) := by decide +kernel
theorem dX12_drawsNotion_21 : decode cX12_drawsNotion 21 = .ok (.getfield 9, 3) := by decide +kernel
theorem dX12_drawsNotion_24 : decode cX12_drawsNotion 24 = .ok (.iconst 2, 1) := by decide +kernel
theorem dX12_drawsNotion_25 : decode cX12_drawsNotion 25 = .ok (.iaload, 1) := by decide +kernel
theorem dX12_drawsNotion_26 : decode cX12_drawsNotion 26 = .ok (.invokevirtual 506, 3) := by decide +kernel
theorem dX12_drawsNotion_29 : decode cX12_drawsNotion 29 = .ok (.istore_n 2, 1) := by decide +kernel
theorem dX12_drawsNotion_30 : decode cX12_drawsNotion 30 = .ok (.aload_n 0, 1) := by decide +kernel
theorem dX12_drawsNotion_31 : decode cX12_drawsNotion 31 = .ok (.getfield 19, 3) := by decide +kernel
theorem dX12_drawsNotion_34 : decode cX12_drawsNotion 34 = .ok (.iload_n 2, 1) := by decide +kernel
theorem dX12_drawsNotion_35 : decode cX12_drawsNotion 35 = .ok (.aload_n 0, 1) := by decide +kernel
theorem dX12_drawsNotion_36 : decode cX12_drawsNotion 36 = .ok (.getfield 19, 3) := by decide +kernel
theorem dX12_drawsNotion_39 : decode cX12_drawsNotion 39 = .ok (.iload_n 2, 1) := by decide +kernel
theorem dX12_drawsNotion_40 : decode cX12_drawsNotion 40 = .ok (.iaload, 1) := by decide +kernel
theorem dX12_drawsNotion_41 : decode cX12_drawsNotion 41 = .ok (.bipush 9, 2) := by decide +kernel
theorem dX12_drawsNotion_43 : decode cX12_drawsNotion 43 = .ok (.iadd, 1) := by decide +kernel
theorem dX12_drawsNotion_44 : decode cX12_drawsNotion 44 = .ok (.bipush 99, 2) := by decide +kernel
theorem dX12_drawsNotion_46 : decode cX12_drawsNotion 46 = .ok (.invokestatic 395, 3) := by decide +kernel
theorem dX12_drawsNotion_49 : decode cX12_drawsNotion 49 = .ok (.iastore, 1) := by decide +kernel
theorem dX12_drawsNotion_50 : decode cX12_drawsNotion 50 = .ok (.return_, 1) := by decide +kernel
theorem dX12_notions_0 : decode cX12_notions 0 = .ok (.aload_n 0, 1) := by decide +kernel
theorem dX12_notions_1 : decode cX12_notions 1 = .ok (.invokevirtual 428, 3) := by decide +kernel
theorem dX12_notions_4 : decode cX12_notions 4 = .ok (.ifCond .eq 50, 3) := by decide +kernel
theorem dX12_notions_7 : decode cX12_notions 7 = .ok (.iload_n 1, 1) := by decide +kernel
theorem dX12_notions_8 : decode cX12_notions 8 = .ok (.i2l, 1) := by decide +kernel
theorem dX12_notions_9 : decode cX12_notions 9 = .ok (.lconst 1, 1) := by decide +kernel
theorem dX12_notions_10 : decode cX12_notions 10 = .ok (.ldc2_w 509, 3) := by decide +kernel
theorem dX12_notions_13 : decode cX12_notions 13 = .ok (.invokestatic 159, 3) := by decide +kernel
theorem dX12_notions_16 : decode cX12_notions 16 = .ok (.ifCond .eq 38, 3) := by decide +kernel
theorem dX12_notions_19 : decode cX12_notions 19 = .ok (.iload_n 2, 1) := by decide +kernel
theorem dX12_notions_20 : decode cX12_notions 20 = .ok (.i2l, 1) := by decide +kernel
theorem dX12_notions_21 : decode cX12_notions 21 = .ok (.lconst 1, 1) := by decide +kernel
theorem dX12_notions_22 : decode cX12_notions 22 = .ok (.ldc2_w 463, 3) := by decide +kernel
theorem dX12_notions_25 : decode cX12_notions 25 = .ok (.invokestatic 159, 3) := by decide +kernel
theorem dX12_notions_28 : decode cX12_notions 28 = .ok (.ifCond .eq 26, 3) := by decide +kernel
theorem dX12_notions_31 : decode cX12_notions 31 = .ok (.iload_n 3, 1) := by decide +kernel
theorem dX12_notions_32 : decode cX12_notions 32 = .ok (.i2l, 1) := by decide +kernel
theorem dX12_notions_33 : decode cX12_notions 33 = .ok (.lconst 0, 1) := by decide +kernel
theorem dX12_notions_34 : decode cX12_notions 34 = .ok (.ldc2_w 441, 3) := by decide +kernel
theorem dX12_notions_37 : decode cX12_notions 37 = .ok (.invokestatic 159, 3) := by decide +kernel
theorem dX12_notions_40 : decode cX12_notions 40 = .ok (.ifCond .eq 14, 3) := by decide +kernel
theorem dX12_notions_43 : decode cX12_notions 43 = .ok (.iload 4, 2) := by decide +kernel
theorem dX12_notions_45 : decode cX12_notions 45 = .ok (.i2l, 1) := by decide +kernel
theorem dX12_notions_46 : decode cX12_notions 46 = .ok (.lconst 0, 1) := by decide +kernel
theorem dX12_notions_47 : decode cX12_notions 47 = .ok (.lconst 1, 1) := by decide +kernel
theorem dX12_notions_48 : decode cX12_notions 48 = .ok (.invokestatic 159, 3) := by decide +kernel
theorem dX12_notions_51 : decode cX12_notions 51 = .ok (.ifCond .ne 5, 3) := by decide +kernel
theorem dX12_notions_54 : decode cX12_notions 54 = .ok (.iconst (-1), 1) := by decide +kernel
theorem dX12_notions_55 : decode cX12_notions 55 = .ok (.ireturn, 1) := by decide +kernel
theorem dX12_notions_56 : decode cX12_notions 56 = .ok (.aload_n 0, 1) := by decide +kernel
theorem dX12_notions_57 : decode cX12_notions 57 = .ok (.getfield 9, 3) := by decide +kernel
theorem dX12_notions_60 : decode cX12_notions 60 = .ok (.bipush 8, 2) := by decide +kernel
theorem dX12_notions_62 : decode cX12_notions 62 = .ok (.iaload, 1) := by decide +kernel
theorem dX12_notions_63 : decode cX12_notions 63 = .ok (.istore 5, 2) := by decide +kernel
theorem dX12_notions_65 : decode cX12_notions 65 = .ok (.iload 5, 2) := by decide +kernel
theorem dX12_notions_67 : decode cX12_notions 67 = .ok (.istore 6, 2) := by decide +kernel
theorem dX12_notions_69 : decode cX12_notions 69 = .ok (.aload_n 0, 1) := by decide +kernel
theorem dX12_notions_70 : decode cX12_notions 70 = .ok (.invokevirtual 379, 3) := by decide +kernel
theorem dX12_notions_73 : decode cX12_notions 73 = .ok (.istore 7, 2) := by decide +kernel
theorem dX12_notions_75 : decode cX12_notions 75 = .ok (.iconst 0, 1) := by decide +kernel
theorem dX12_notions_76 : decode cX12_notions 76 = .ok (.istore 8, 2) := by decide +kernel
theorem dX12_notions_78 : decode cX12_notions 78 = .ok (.aload_n 0, 1) := by decide +kernel
theorem dX12_notions_79 : decode cX12_notions 79 = .ok (.invokevirtual 443, 3) := by decide +kernel
theorem dX12_notions_82 : decode cX12_notions 82 = .ok (.iconst 0, 1) := by decide +kernel
theorem dX12_notions_83 : decode cX12_notions 83 = .ok (.istore 9, 2) := by decide +kernel
theorem dX12_notions_85 : decode cX12_notions 85 = .ok (.iload 9, 2) := by decide +kernel
theorem dX12_notions_87 : decode cX12_notions 87 = .ok (.iload_n 1, 1) := by decide +kernel
theorem dX12_notions_88 : decode cX12_notions 88 = .ok (.if_icmp .ge 86, 3) := by decide +kernel
theorem dX12_notions_91 : decode cX12_notions 91 = .ok (.aload_n 0, 1) := by decide +kernel
theorem dX12_notions_92 : decode cX12_notions 92 = .ok (.getfield 9, 3) := by decide +kernel
theorem dX12_notions_95 : decode cX12_notions 95 = .ok (.bipush 8, 2) := by decide +kernel
theorem dX12_notions_97 : decode cX12_notions 97 = .ok (.iload 6, 2) := by decide +kernel
theorem dX12_notions_99 : decode cX12_notions 99 = .ok (.iastore, 1) := by decide +kernel
theorem dX12_notions_100 : decode cX12_notions 100 = .ok (.iconst 0, 1) := by decide +kernel
theorem dX12_notions_101 : decode cX12_notions 101 = .ok (.istore 10, 2) := by decide +kernel
theorem dX12_notions_103 : decode cX12_notions 103 = .ok (.iload 10, 2) := by decide +kernel
theorem dX12_notions_105 : decode cX12_notions 105 = .ok (.iload_n 2, 1) := by decide +kernel
theorem dX12_notions_106 : decode cX12_notions 106 = .ok (.if_icmp .ge 19, 3) := by decide +kernel
theorem dX12_notions_109 : decode cX12_notions 109 = .ok (.aload_n 0, 1) := by decide +kernel
theorem dX12_notions_110 : decode cX12_notions 110 = .ok (.iload_n 3, 1) := by decide +kernel
theorem dX12_notions_111 : decode cX12_notions 111 = .ok (.invokevirtual 511, 3) := by decide +kernel
theorem dX12_notions_114 : decode cX12_notions 114 = .ok (.aload_n 0, 1) := by decide +kernel
theorem dX12_notions_115 : decode cX12_notions 115 = .ok (.invokevirtual 407, 3) := by decide +kernel
theorem dX12_notions_118 : decode cX12_notions 118 = .ok (.pop, 1) := by decide +kernel
theorem dX12_notions_119 : decode cX12_notions 119 = .ok (.iinc 10 1, 3) := by decide +kernel
theorem dX12_notions_122 : decode cX12_notions 122 = .ok (.goto (-19), 3) := by decide +kernel
theorem dX12_notions_125 : decode cX12_notions 125 = .ok (.iload 8, 2) := by decide +kernel
theorem dX12_notions_127 : decode cX12_notions 127 = .ok (.iload 4, 2) := by decide +kernel
theorem dX12_notions_129 : decode cX12_notions 129 = .ok (.ifCond .ne 13, 3) := by decide +kernel
theorem dX12_notions_132 : decode cX12_notions 132 = .ok (.aload_n 0, 1) := by decide +kernel
theorem dX12_notions_133 : decode cX12_notions 133 = .ok (.invokevirtual 379, 3) := by decide +kernel
theorem dX12_notions_136 : decode cX12_notions 136 = .ok (.iload 7, 2) := by decide +kernel
theorem dX12_notions_138 : decode cX12_notions 138 = .ok (.isub, 1) := by decide +kernel
theorem dX12_notions_139 : decode cX12_notions 139 = .ok (.goto 13, 3) := by decide +kernel
theorem dX12_notions_142 : decode cX12_notions 142 = .ok (.aload_n 0, 1) := by decide +kernel
theorem dX12_notions_143 : decode cX12_notions 143 = .ok (.getfield 9, 3) := by decide +kernel
theorem dX12_notions_146 : decode cX12_notions 146 = .ok (.bipush 6, 2) := by decide +kernel
theorem dX12_notions_148 : decode cX12_notions 148 = .ok (.iaload, 1) := by decide +kernel
theorem dX12_notions_149 : decode cX12_notions 149 = .ok (.invokestatic 382, 3) := by decide +kernel
theorem dX12_notions_152 : decode cX12_notions 152 = .ok (.iadd, 1) := by decide +kernel
theorem dX12_notions_153 : decode cX12_notions 153 = .ok (.istore 8, 2) := by decide +kernel
theorem dX12_notions_155 : decode cX12_notions 155 = .ok (.aload_n 0, 1) := by decide +kernel
theorem dX12_notions_156 : decode cX12_notions 156 = .ok (.getfield 9, 3) := by decide +kernel
theorem dX12_notions_159 : decode cX12_notions 159 = .ok (.bipush 8, 2) := by decide +kernel
theorem dX12_notions_161 : decode cX12_notions 161 = .ok (.iaload, 1) := by decide +kernel
theorem dX12_notions_162 : decode cX12_notions 162 = .ok (.istore 6, 2) := by decide +kernel
theorem dX12_notions_164 : decode cX12_notions 164 = .ok (.aload_n 0, 1) := by decide +kernel
theorem dX12_notions_165 : decode cX12_notions 165 = .ok (.invokevirtual 449, 3) := by decide +kernel
theorem dX12_notions_168 : decode cX12_notions 168 = .ok (.iinc 9 1, 3) := by decide +kernel
theorem dX12_notions_171 : decode cX12_notions 171 = .ok (.goto (-86), 3) := by decide +kernel
theorem dX12_notions_174 : decode cX12_notions 174 = .ok (.aload_n 0, 1) := by decide +kernel
theorem dX12_notions_175 : decode cX12_notions 175 = .ok (.getfield 9, 3) := by decide +kernel
theorem dX12_notions_178 : decode cX12_notions 178 = .ok (.bipush 8, 2) := by decide +kernel
theorem dX12_notions_180 : decode cX12_notions 180 = .ok (.iload 5, 2) := by decide +kernel
theorem dX12_notions_182 : decode cX12_notions 182 = .ok (.iastore, 1) := by decide +kernel
theorem dX12_notions_183 : decode cX12_notions 183 = .ok (.iload 8, 2) := by decide +kernel
theorem dX12_notions_185 : decode cX12_notions 185 = .ok (.ireturn, 1) := by decide +kernel
theorem dX12_count_0 : decode cX12_count 0 = .ok (.iload_n 1, 1) := by decide +kernel
theorem dX12_count_1 : decode cX12_count 1 = .ok (.tableswitch 183 0 15 #[79, 86, 93, 100, 107, 114, 119, 127, 134, 139, 147, 152, 157, 165, 170, 178], 79) := by decide +kernel
theorem dX12_count_80 : decode cX12_count 80 = .ok (.aload_n 0, 1) := by decide +kernel
theorem dX12_count_81 : decode cX12_count 81 = .ok (.getfield 9, 3) := by decide +kernel
theorem dX12_count_84 : decode cX12_count 84 = .ok (.iconst 0, 1) := by decide +kernel
theorem dX12_count_85 : decode cX12_count 85 = .ok (.iaload, 1) := by decide +kernel
theorem dX12_count_86 : decode cX12_count 86 = .ok (.ireturn, 1) := by decide +kernel
theorem dX12_count_87 : decode cX12_count 87 = .ok (.aload_n 0, 1) := by decide +kernel
theorem dX12_count_88 : decode cX12_count 88 = .ok (.getfield 9, 3) := by decide +kernel
theorem dX12_count_91 : decode cX12_count 91 = .ok (.iconst 1, 1) := by decide +kernel
theorem dX12_count_92 : decode cX12_count 92 = .ok (.iaload, 1) := by decide +kernel
theorem dX12_count_93 : decode cX12_count 93 = .ok (.ireturn, 1) := by decide +kernel
theorem dX12_count_94 : decode cX12_count 94 = .ok (.aload_n 0, 1) := by decide +kernel
theorem dX12_count_95 : decode cX12_count 95 = .ok (.getfield 9, 3) := by decide +kernel
theorem dX12_count_98 : decode cX12_count 98 = .ok (.iconst 2, 1) := by decide +kernel
theorem dX12_count_99 : decode cX12_count 99 = .ok (.iaload, 1) := by decide +kernel
theorem dX12_count_100 : decode cX12_count 100 = .ok (.ireturn, 1) := by decide +kernel
theorem dX12_count_101 : decode cX12_count 101 = .ok (.aload_n 0, 1) := by decide +kernel
theorem dX12_count_102 : decode cX12_count 102 = .ok (.getfield 9, 3) := by decide +kernel
theorem dX12_count_105 : decode cX12_count 105 = .ok (.iconst 3, 1) := by decide +kernel
theorem dX12_count_106 : decode cX12_count 106 = .ok (.iaload, 1) := by decide +kernel
theorem dX12_count_107 : decode cX12_count 107 = .ok (.ireturn, 1) := by decide +kernel
theorem dX12_count_108 : decode cX12_count 108 = .ok (.aload_n 0, 1) := by decide +kernel
theorem dX12_count_109 : decode cX12_count 109 = .ok (.getfield 9, 3) := by decide +kernel
theorem dX12_count_112 : decode cX12_count 112 = .ok (.iconst 4, 1) := by decide +kernel
theorem dX12_count_113 : decode cX12_count 113 = .ok (.iaload, 1) := by decide +kernel
theorem dX12_count_114 : decode cX12_count 114 = .ok (.ireturn, 1) := by decide +kernel
theorem dX12_count_115 : decode cX12_count 115 = .ok (.aload_n 0, 1) := by decide +kernel
theorem dX12_count_116 : decode cX12_count 116 = .ok (.getfield 338, 3) := by decide +kernel
theorem dX12_count_119 : decode cX12_count 119 = .ok (.ireturn, 1) := by decide +kernel
theorem dX12_count_120 : decode cX12_count 120 = .ok (.aload_n 0, 1) := by decide +kernel
theorem dX12_count_121 : decode cX12_count 121 = .ok (.getfield 9, 3) := by decide +kernel
theorem dX12_count_124 : decode cX12_count 124 = .ok (.bipush 9, 2) := by decide +kernel
theorem dX12_count_126 : decode cX12_count 126 = .ok (.iaload, 1) := by decide +kernel
theorem dX12_count_127 : decode cX12_count 127 = .ok (.ireturn, 1) := by decide +kernel
theorem dX12_count_128 : decode cX12_count 128 = .ok (.aload_n 0, 1) := by decide +kernel
theorem dX12_count_129 : decode cX12_count 129 = .ok (.getfield 9, 3) := by decide +kernel
theorem dX12_count_132 : decode cX12_count 132 = .ok (.iconst 5, 1) := by decide +kernel
theorem dX12_count_133 : decode cX12_count 133 = .ok (.iaload, 1) := by decide +kernel
theorem dX12_count_134 : decode cX12_count 134 = .ok (.ireturn, 1) := by decide +kernel
theorem dX12_count_135 : decode cX12_count 135 = .ok (.aload_n 0, 1) := by decide +kernel
theorem dX12_count_136 : decode cX12_count 136 = .ok (.invokevirtual 379, 3) := by decide +kernel
theorem dX12_count_139 : decode cX12_count 139 = .ok (.ireturn, 1) := by decide +kernel
theorem dX12_count_140 : decode cX12_count 140 = .ok (.aload_n 0, 1) := by decide +kernel
theorem dX12_count_141 : decode cX12_count 141 = .ok (.getfield 9, 3) := by decide +kernel
theorem dX12_count_144 : decode cX12_count 144 = .ok (.bipush 6, 2) := by decide +kernel
theorem dX12_count_146 : decode cX12_count 146 = .ok (.iaload, 1) := by decide +kernel
theorem dX12_count_147 : decode cX12_count 147 = .ok (.ireturn, 1) := by decide +kernel
theorem dX12_count_148 : decode cX12_count 148 = .ok (.aload_n 0, 1) := by decide +kernel
theorem dX12_count_149 : decode cX12_count 149 = .ok (.invokevirtual 478, 3) := by decide +kernel
theorem dX12_count_152 : decode cX12_count 152 = .ok (.ireturn, 1) := by decide +kernel
theorem dX12_count_153 : decode cX12_count 153 = .ok (.aload_n 0, 1) := by decide +kernel
theorem dX12_count_154 : decode cX12_count 154 = .ok (.invokevirtual 490, 3) := by decide +kernel
theorem dX12_count_157 : decode cX12_count 157 = .ok (.ireturn, 1) := by decide +kernel
theorem dX12_count_158 : decode cX12_count 158 = .ok (.aload_n 0, 1) := by decide +kernel
theorem dX12_count_159 : decode cX12_count 159 = .ok (.getfield 9, 3) := by decide +kernel
theorem dX12_count_162 : decode cX12_count 162 = .ok (.bipush 7, 2) := by decide +kernel
theorem dX12_count_164 : decode cX12_count 164 = .ok (.iaload, 1) := by decide +kernel
theorem dX12_count_165 : decode cX12_count 165 = .ok (.ireturn, 1) := by decide +kernel
theorem dX12_count_166 : decode cX12_count 166 = .ok (.aload_n 0, 1) := by decide +kernel
theorem dX12_count_167 : decode cX12_count 167 = .ok (.getfield 325, 3) := by decide +kernel
theorem dX12_count_170 : decode cX12_count 170 = .ok (.ireturn, 1) := by decide +kernel
theorem dX12_count_171 : decode cX12_count 171 = .ok (.aload_n 0, 1) := by decide +kernel
theorem dX12_count_172 : decode cX12_count 172 = .ok (.getfield 9, 3) := by decide +kernel
theorem dX12_count_175 : decode cX12_count 175 = .ok (.bipush 8, 2) := by decide +kernel
theorem dX12_count_177 : decode cX12_count 177 = .ok (.iaload, 1) := by decide +kernel
theorem dX12_count_178 : decode cX12_count 178 = .ok (.ireturn, 1) := by decide +kernel
theorem dX12_count_179 : decode cX12_count 179 = .ok (.aload_n 0, 1) := by decide +kernel
theorem dX12_count_180 : decode cX12_count 180 = .ok (.getfield 163, 3) := by decide +kernel
theorem dX12_count_183 : decode cX12_count 183 = .ok (.ireturn, 1) := by decide +kernel
theorem dX12_count_184 : decode cX12_count 184 = .ok (.iconst (-1), 1) := by decide +kernel
theorem dX12_count_185 : decode cX12_count 185 = .ok (.ireturn, 1) := by decide +kernel
theorem dX12_carryRow_0 : decode cX12_carryRow 0 = .ok (.iconst 0, 1) := by decide +kernel
theorem dX12_carryRow_1 : decode cX12_carryRow 1 = .ok (.istore_n 2, 1) := by decide +kernel
theorem dX12_carryRow_2 : decode cX12_carryRow 2 = .ok (.iload_n 2, 1) := by decide +kernel
theorem dX12_carryRow_3 : decode cX12_carryRow 3 = .ok (.aload_n 1, 1) := by decide +kernel
theorem dX12_carryRow_4 : decode cX12_carryRow 4 = .ok (.arraylength, 1) := by decide +kernel
theorem dX12_carryRow_5 : decode cX12_carryRow 5 = .ok (.if_icmp .ge 53, 3) := by decide +kernel
theorem dX12_carryRow_8 : decode cX12_carryRow 8 = .ok (.aload_n 0, 1) := by decide +kernel
theorem dX12_carryRow_9 : decode cX12_carryRow 9 = .ok (.getfield 514, 3) := by decide +kernel
theorem dX12_carryRow_12 : decode cX12_carryRow 12 = .ok (.ifCond .eq 18, 3) := by decide +kernel
theorem dX12_carryRow_15 : decode cX12_carryRow 15 = .ok (.aload_n 1, 1) := by decide +kernel
theorem dX12_carryRow_16 : decode cX12_carryRow 16 = .ok (.iload_n 2, 1) := by decide +kernel
theorem dX12_carryRow_17 : decode cX12_carryRow 17 = .ok (.aload_n 0, 1) := by decide +kernel
theorem dX12_carryRow_18 : decode cX12_carryRow 18 = .ok (.getfield 145, 3) := by decide +kernel
theorem dX12_carryRow_21 : decode cX12_carryRow 21 = .ok (.aload_n 0, 1) := by decide +kernel
theorem dX12_carryRow_22 : decode cX12_carryRow 22 = .ok (.getfield 517, 3) := by decide +kernel
theorem dX12_carryRow_25 : decode cX12_carryRow 25 = .ok (.iaload, 1) := by decide +kernel
theorem dX12_carryRow_26 : decode cX12_carryRow 26 = .ok (.iastore, 1) := by decide +kernel
theorem dX12_carryRow_27 : decode cX12_carryRow 27 = .ok (.goto 15, 3) := by decide +kernel
theorem dX12_carryRow_30 : decode cX12_carryRow 30 = .ok (.aload_n 0, 1) := by decide +kernel
theorem dX12_carryRow_31 : decode cX12_carryRow 31 = .ok (.getfield 145, 3) := by decide +kernel
theorem dX12_carryRow_34 : decode cX12_carryRow 34 = .ok (.aload_n 0, 1) := by decide +kernel
theorem dX12_carryRow_35 : decode cX12_carryRow 35 = .ok (.getfield 517, 3) := by decide +kernel
theorem dX12_carryRow_38 : decode cX12_carryRow 38 = .ok (.aload_n 1, 1) := by decide +kernel
theorem dX12_carryRow_39 : decode cX12_carryRow 39 = .ok (.iload_n 2, 1) := by decide +kernel
theorem dX12_carryRow_40 : decode cX12_carryRow 40 = .ok (.iaload, 1) := by decide +kernel
theorem dX12_carryRow_41 : decode cX12_carryRow 41 = .ok (.iastore, 1) := by decide +kernel
theorem dX12_carryRow_42 : decode cX12_carryRow 42 = .ok (.aload_n 0, 1) := by decide +kernel
theorem dX12_carryRow_43 : decode cX12_carryRow 43 = .ok (.dup, 1) := by decide +kernel
theorem dX12_carryRow_44 : decode cX12_carryRow 44 = .ok (.getfield 517, 3) := by decide +kernel
theorem dX12_carryRow_47 : decode cX12_carryRow 47 = .ok (.iconst 1, 1) := by decide +kernel
theorem dX12_carryRow_48 : decode cX12_carryRow 48 = .ok (.iadd, 1) := by decide +kernel
theorem dX12_carryRow_49 : decode cX12_carryRow 49 = .ok (.putfield 517, 3) := by decide +kernel
theorem dX12_carryRow_52 : decode cX12_carryRow 52 = .ok (.iinc 2 1, 3) := by decide +kernel
theorem dX12_carryRow_55 : decode cX12_carryRow 55 = .ok (.goto (-53), 3) := by decide +kernel
theorem dX12_carryRow_58 : decode cX12_carryRow 58 = .ok (.return_, 1) := by decide +kernel
theorem dX12_carriesAll_0 : decode cX12_carriesAll 0 = .ok (.aload_n 0, 1) := by decide +kernel
theorem dX12_carriesAll_1 : decode cX12_carriesAll 1 = .ok (.sipush 1700, 3) := by decide +kernel
theorem dX12_carriesAll_4 : decode cX12_carriesAll 4 = .ok (.iload_n 1, 1) := by decide +kernel
theorem dX12_carriesAll_5 : decode cX12_carriesAll 5 = .ok (.imul, 1) := by decide +kernel
theorem dX12_carriesAll_6 : decode cX12_carriesAll 6 = .ok (.putfield 517, 3) := by decide +kernel
theorem dX12_carriesAll_9 : decode cX12_carriesAll 9 = .ok (.aload_n 0, 1) := by decide +kernel
theorem dX12_carriesAll_10 : decode cX12_carriesAll 10 = .ok (.iload_n 2, 1) := by decide +kernel
theorem dX12_carriesAll_11 : decode cX12_carriesAll 11 = .ok (.putfield 514, 3) := by decide +kernel
theorem dX12_carriesAll_14 : decode cX12_carriesAll 14 = .ok (.aload_n 0, 1) := by decide +kernel
theorem dX12_carriesAll_15 : decode cX12_carriesAll 15 = .ok (.aload_n 0, 1) := by decide +kernel
theorem dX12_carriesAll_16 : decode cX12_carriesAll 16 = .ok (.getfield 9, 3) := by decide +kernel
theorem dX12_carriesAll_19 : decode cX12_carriesAll 19 = .ok (.invokevirtual 520, 3) := by decide +kernel
theorem dX12_carriesAll_22 : decode cX12_carriesAll 22 = .ok (.aload_n 0, 1) := by decide +kernel
theorem dX12_carriesAll_23 : decode cX12_carriesAll 23 = .ok (.aload_n 0, 1) := by decide +kernel
theorem dX12_carriesAll_24 : decode cX12_carriesAll 24 = .ok (.getfield 13, 3) := by decide +kernel
theorem dX12_carriesAll_27 : decode cX12_carriesAll 27 = .ok (.invokevirtual 520, 3) := by decide +kernel
theorem dX12_carriesAll_30 : decode cX12_carriesAll 30 = .ok (.aload_n 0, 1) := by decide +kernel
theorem dX12_carriesAll_31 : decode cX12_carriesAll 31 = .ok (.aload_n 0, 1) := by decide +kernel
theorem dX12_carriesAll_32 : decode cX12_carriesAll 32 = .ok (.getfield 16, 3) := by decide +kernel
theorem dX12_carriesAll_35 : decode cX12_carriesAll 35 = .ok (.invokevirtual 520, 3) := by decide +kernel
theorem dX12_carriesAll_38 : decode cX12_carriesAll 38 = .ok (.aload_n 0, 1) := by decide +kernel
theorem dX12_carriesAll_39 : decode cX12_carriesAll 39 = .ok (.aload_n 0, 1) := by decide +kernel
theorem dX12_carriesAll_40 : decode cX12_carriesAll 40 = .ok (.getfield 19, 3) := by decide +kernel
theorem dX12_carriesAll_43 : decode cX12_carriesAll 43 = .ok (.invokevirtual 520, 3) := by decide +kernel
theorem dX12_carriesAll_46 : decode cX12_carriesAll 46 = .ok (.aload_n 0, 1) := by decide +kernel
theorem dX12_carriesAll_47 : decode cX12_carriesAll 47 = .ok (.aload_n 0, 1) := by decide +kernel
theorem dX12_carriesAll_48 : decode cX12_carriesAll 48 = .ok (.getfield 22, 3) := by decide +kernel
theorem dX12_carriesAll_51 : decode cX12_carriesAll 51 = .ok (.invokevirtual 520, 3) := by decide +kernel
theorem dX12_carriesAll_54 : decode cX12_carriesAll 54 = .ok (.aload_n 0, 1) := by decide +kernel
theorem dX12_carriesAll_55 : decode cX12_carriesAll 55 = .ok (.aload_n 0, 1) := by decide +kernel
theorem dX12_carriesAll_56 : decode cX12_carriesAll 56 = .ok (.getfield 25, 3) := by decide +kernel
theorem dX12_carriesAll_59 : decode cX12_carriesAll 59 = .ok (.invokevirtual 520, 3) := by decide +kernel
theorem dX12_carriesAll_62 : decode cX12_carriesAll 62 = .ok (.aload_n 0, 1) := by decide +kernel
theorem dX12_carriesAll_63 : decode cX12_carriesAll 63 = .ok (.aload_n 0, 1) := by decide +kernel
theorem dX12_carriesAll_64 : decode cX12_carriesAll 64 = .ok (.getfield 28, 3) := by decide +kernel
theorem dX12_carriesAll_67 : decode cX12_carriesAll 67 = .ok (.invokevirtual 520, 3) := by decide +kernel
theorem dX12_carriesAll_70 : decode cX12_carriesAll 70 = .ok (.aload_n 0, 1) := by decide +kernel
theorem dX12_carriesAll_71 : decode cX12_carriesAll 71 = .ok (.aload_n 0, 1) := by decide +kernel
theorem dX12_carriesAll_72 : decode cX12_carriesAll 72 = .ok (.getfield 31, 3) := by decide +kernel
theorem dX12_carriesAll_75 : decode cX12_carriesAll 75 = .ok (.invokevirtual 520, 3) := by decide +kernel
theorem dX12_carriesAll_78 : decode cX12_carriesAll 78 = .ok (.iload_n 1, 1) := by decide +kernel
theorem dX12_carriesAll_79 : decode cX12_carriesAll 79 = .ok (.iconst 4, 1) := by decide +kernel
theorem dX12_carriesAll_80 : decode cX12_carriesAll 80 = .ok (.if_icmp .ne 4, 3) := by decide +kernel
theorem dX12_carriesAll_83 : decode cX12_carriesAll 83 = .ok (.return_, 1) := by decide +kernel
theorem dX12_carriesAll_84 : decode cX12_carriesAll 84 = .ok (.aload_n 0, 1) := by decide +kernel
theorem dX12_carriesAll_85 : decode cX12_carriesAll 85 = .ok (.getfield 130, 3) := by decide +kernel
theorem dX12_carriesAll_88 : decode cX12_carriesAll 88 = .ok (.iconst 0, 1) := by decide +kernel
theorem dX12_carriesAll_89 : decode cX12_carriesAll 89 = .ok (.aload_n 0, 1) := by decide +kernel
theorem dX12_carriesAll_90 : decode cX12_carriesAll 90 = .ok (.getfield 325, 3) := by decide +kernel
theorem dX12_carriesAll_93 : decode cX12_carriesAll 93 = .ok (.iastore, 1) := by decide +kernel
theorem dX12_carriesAll_94 : decode cX12_carriesAll 94 = .ok (.aload_n 0, 1) := by decide +kernel
theorem dX12_carriesAll_95 : decode cX12_carriesAll 95 = .ok (.aload_n 0, 1) := by decide +kernel
theorem dX12_carriesAll_96 : decode cX12_carriesAll 96 = .ok (.getfield 130, 3) := by decide +kernel
theorem dX12_carriesAll_99 : decode cX12_carriesAll 99 = .ok (.invokevirtual 520, 3) := by decide +kernel
theorem dX12_carriesAll_102 : decode cX12_carriesAll 102 = .ok (.aload_n 0, 1) := by decide +kernel
theorem dX12_carriesAll_103 : decode cX12_carriesAll 103 = .ok (.aload_n 0, 1) := by decide +kernel
theorem dX12_carriesAll_104 : decode cX12_carriesAll 104 = .ok (.getfield 130, 3) := by decide +kernel
theorem dX12_carriesAll_107 : decode cX12_carriesAll 107 = .ok (.iconst 0, 1) := by decide +kernel
theorem dX12_carriesAll_108 : decode cX12_carriesAll 108 = .ok (.iaload, 1) := by decide +kernel
theorem dX12_carriesAll_109 : decode cX12_carriesAll 109 = .ok (.putfield 325, 3) := by decide +kernel
theorem dX12_carriesAll_112 : decode cX12_carriesAll 112 = .ok (.aload_n 0, 1) := by decide +kernel
theorem dX12_carriesAll_113 : decode cX12_carriesAll 113 = .ok (.aload_n 0, 1) := by decide +kernel
theorem dX12_carriesAll_114 : decode cX12_carriesAll 114 = .ok (.getfield 34, 3) := by decide +kernel
theorem dX12_carriesAll_117 : decode cX12_carriesAll 117 = .ok (.invokevirtual 520, 3) := by decide +kernel
theorem dX12_carriesAll_120 : decode cX12_carriesAll 120 = .ok (.aload_n 0, 1) := by decide +kernel
theorem dX12_carriesAll_121 : decode cX12_carriesAll 121 = .ok (.aload_n 0, 1) := by decide +kernel
theorem dX12_carriesAll_122 : decode cX12_carriesAll 122 = .ok (.getfield 37, 3) := by decide +kernel
theorem dX12_carriesAll_125 : decode cX12_carriesAll 125 = .ok (.invokevirtual 520, 3) := by decide +kernel
theorem dX12_carriesAll_128 : decode cX12_carriesAll 128 = .ok (.aload_n 0, 1) := by decide +kernel
theorem dX12_carriesAll_129 : decode cX12_carriesAll 129 = .ok (.aload_n 0, 1) := by decide +kernel
theorem dX12_carriesAll_130 : decode cX12_carriesAll 130 = .ok (.getfield 40, 3) := by decide +kernel
theorem dX12_carriesAll_133 : decode cX12_carriesAll 133 = .ok (.invokevirtual 520, 3) := by decide +kernel
theorem dX12_carriesAll_136 : decode cX12_carriesAll 136 = .ok (.aload_n 0, 1) := by decide +kernel
theorem dX12_carriesAll_137 : decode cX12_carriesAll 137 = .ok (.aload_n 0, 1) := by decide +kernel
theorem dX12_carriesAll_138 : decode cX12_carriesAll 138 = .ok (.getfield 43, 3) := by decide +kernel
theorem dX12_carriesAll_141 : decode cX12_carriesAll 141 = .ok (.invokevirtual 520, 3) := by decide +kernel
theorem dX12_carriesAll_144 : decode cX12_carriesAll 144 = .ok (.aload_n 0, 1) := by decide +kernel
theorem dX12_carriesAll_145 : decode cX12_carriesAll 145 = .ok (.aload_n 0, 1) := by decide +kernel
theorem dX12_carriesAll_146 : decode cX12_carriesAll 146 = .ok (.getfield 46, 3) := by decide +kernel
theorem dX12_carriesAll_149 : decode cX12_carriesAll 149 = .ok (.invokevirtual 520, 3) := by decide +kernel
theorem dX12_carriesAll_152 : decode cX12_carriesAll 152 = .ok (.aload_n 0, 1) := by decide +kernel
theorem dX12_carriesAll_153 : decode cX12_carriesAll 153 = .ok (.aload_n 0, 1) := by decide +kernel
theorem dX12_carriesAll_154 : decode cX12_carriesAll 154 = .ok (.getfield 49, 3) := by decide +kernel
theorem dX12_carriesAll_157 : decode cX12_carriesAll 157 = .ok (.invokevirtual 520, 3) := by decide +kernel
theorem dX12_carriesAll_160 : decode cX12_carriesAll 160 = .ok (.aload_n 0, 1) := by decide +kernel
theorem dX12_carriesAll_161 : decode cX12_carriesAll 161 = .ok (.aload_n 0, 1) := by decide +kernel
theorem dX12_carriesAll_162 : decode cX12_carriesAll 162 = .ok (.getfield 52, 3) := by decide +kernel
theorem dX12_carriesAll_165 : decode cX12_carriesAll 165 = .ok (.invokevirtual 520, 3) := by decide +kernel
theorem dX12_carriesAll_168 : decode cX12_carriesAll 168 = .ok (.aload_n 0, 1) := by decide +kernel
theorem dX12_carriesAll_169 : decode cX12_carriesAll 169 = .ok (.aload_n 0, 1) := by decide +kernel
theorem dX12_carriesAll_170 : decode cX12_carriesAll 170 = .ok (.getfield 55, 3) := by decide +kernel
theorem dX12_carriesAll_173 : decode cX12_carriesAll 173 = .ok (.invokevirtual 520, 3) := by decide +kernel
theorem dX12_carriesAll_176 : decode cX12_carriesAll 176 = .ok (.aload_n 0, 1) := by decide +kernel
theorem dX12_carriesAll_177 : decode cX12_carriesAll 177 = .ok (.aload_n 0, 1) := by decide +kernel
theorem dX12_carriesAll_178 : decode cX12_carriesAll 178 = .ok (.getfield 58, 3) := by decide +kernel
theorem dX12_carriesAll_181 : decode cX12_carriesAll 181 = .ok (.invokevirtual 520, 3) := by decide +kernel
theorem dX12_carriesAll_184 : decode cX12_carriesAll 184 = .ok (.aload_n 0, 1) := by decide +kernel
theorem dX12_carriesAll_185 : decode cX12_carriesAll 185 = .ok (.aload_n 0, 1) := by decide +kernel
theorem dX12_carriesAll_186 : decode cX12_carriesAll 186 = .ok (.getfield 61, 3) := by decide +kernel
theorem dX12_carriesAll_189 : decode cX12_carriesAll 189 = .ok (.invokevirtual 520, 3) := by decide +kernel
theorem dX12_carriesAll_192 : decode cX12_carriesAll 192 = .ok (.aload_n 0, 1) := by decide +kernel
theorem dX12_carriesAll_193 : decode cX12_carriesAll 193 = .ok (.aload_n 0, 1) := by decide +kernel
theorem dX12_carriesAll_194 : decode cX12_carriesAll 194 = .ok (.getfield 127, 3) := by decide +kernel
theorem dX12_carriesAll_197 : decode cX12_carriesAll 197 = .ok (.invokevirtual 520, 3) := by decide +kernel
theorem dX12_carriesAll_200 : decode cX12_carriesAll 200 = .ok (.return_, 1) := by decide +kernel
theorem dX12_image_0 : decode cX12_image 0 = .ok (.iload_n 1, 1) := by decide +kernel
theorem dX12_image_1 : decode cX12_image 1 = .ok (.i2l, 1) := by decide +kernel
theorem dX12_image_2 : decode cX12_image 2 = .ok (.lconst 0, 1) := by decide +kernel
theorem dX12_image_3 : decode cX12_image 3 = .ok (.ldc2_w 436, 3) := by decide +kernel
theorem dX12_image_6 : decode cX12_image 6 = .ok (.invokestatic 159, 3) := by decide +kernel
theorem dX12_image_9 : decode cX12_image 9 = .ok (.ifCond .ne 5, 3) := by decide +kernel
theorem dX12_image_12 : decode cX12_image 12 = .ok (.iconst (-1), 1) := by decide +kernel
theorem dX12_image_13 : decode cX12_image 13 = .ok (.ireturn, 1) := by decide +kernel
theorem dX12_image_14 : decode cX12_image 14 = .ok (.aload_n 0, 1) := by decide +kernel
theorem dX12_image_15 : decode cX12_image 15 = .ok (.getfield 148, 3) := by decide +kernel
theorem dX12_image_18 : decode cX12_image 18 = .ok (.iload_n 1, 1) := by decide +kernel
theorem dX12_image_19 : decode cX12_image 19 = .ok (.iconst 1, 1) := by decide +kernel
theorem dX12_image_20 : decode cX12_image 20 = .ok (.bastore, 1) := by decide +kernel
theorem dX12_image_21 : decode cX12_image 21 = .ok (.aload_n 0, 1) := by decide +kernel
theorem dX12_image_22 : decode cX12_image 22 = .ok (.iload_n 1, 1) := by decide +kernel
theorem dX12_image_23 : decode cX12_image 23 = .ok (.iconst 0, 1) := by decide +kernel
theorem dX12_image_24 : decode cX12_image 24 = .ok (.invokevirtual 438, 3) := by decide +kernel
theorem dX12_image_27 : decode cX12_image 27 = .ok (.aload_n 0, 1) := by decide +kernel
theorem dX12_image_28 : decode cX12_image 28 = .ok (.getfield 9, 3) := by decide +kernel
theorem dX12_image_31 : decode cX12_image 31 = .ok (.iconst 5, 1) := by decide +kernel
theorem dX12_image_32 : decode cX12_image 32 = .ok (.iaload, 1) := by decide +kernel
theorem dX12_image_33 : decode cX12_image 33 = .ok (.ireturn, 1) := by decide +kernel
theorem dX12_back_0 : decode cX12_back 0 = .ok (.iload_n 1, 1) := by decide +kernel
theorem dX12_back_1 : decode cX12_back 1 = .ok (.i2l, 1) := by decide +kernel
theorem dX12_back_2 : decode cX12_back 2 = .ok (.lconst 0, 1) := by decide +kernel
theorem dX12_back_3 : decode cX12_back 3 = .ok (.ldc2_w 436, 3) := by decide +kernel
theorem dX12_back_6 : decode cX12_back 6 = .ok (.invokestatic 159, 3) := by decide +kernel
theorem dX12_back_9 : decode cX12_back 9 = .ok (.ifCond .eq 12, 3) := by decide +kernel
theorem dX12_back_12 : decode cX12_back 12 = .ok (.aload_n 0, 1) := by decide +kernel
theorem dX12_back_13 : decode cX12_back 13 = .ok (.getfield 148, 3) := by decide +kernel
theorem dX12_back_16 : decode cX12_back 16 = .ok (.iload_n 1, 1) := by decide +kernel
theorem dX12_back_17 : decode cX12_back 17 = .ok (.baload, 1) := by decide +kernel
theorem dX12_back_18 : decode cX12_back 18 = .ok (.ifCond .ne 5, 3) := by decide +kernel
theorem dX12_back_21 : decode cX12_back 21 = .ok (.iconst (-1), 1) := by decide +kernel
theorem dX12_back_22 : decode cX12_back 22 = .ok (.ireturn, 1) := by decide +kernel
theorem dX12_back_23 : decode cX12_back 23 = .ok (.aload_n 0, 1) := by decide +kernel
theorem dX12_back_24 : decode cX12_back 24 = .ok (.iload_n 1, 1) := by decide +kernel
theorem dX12_back_25 : decode cX12_back 25 = .ok (.iconst 1, 1) := by decide +kernel
theorem dX12_back_26 : decode cX12_back 26 = .ok (.invokevirtual 438, 3) := by decide +kernel
theorem dX12_back_29 : decode cX12_back 29 = .ok (.aload_n 0, 1) := by decide +kernel
theorem dX12_back_30 : decode cX12_back 30 = .ok (.getfield 9, 3) := by decide +kernel
theorem dX12_back_33 : decode cX12_back 33 = .ok (.iconst 5, 1) := by decide +kernel
theorem dX12_back_34 : decode cX12_back 34 = .ok (.iaload, 1) := by decide +kernel
theorem dX12_back_35 : decode cX12_back 35 = .ok (.ireturn, 1) := by decide +kernel
theorem dJ6_bitCount_0f7a4_0 : decode cJ6_bitCount_0f7a4 0 = .ok (.iload_n 0, 1) := by decide +kernel
theorem dJ6_bitCount_0f7a4_1 : decode cJ6_bitCount_0f7a4 1 = .ok (.iload_n 0, 1) := by decide +kernel
theorem dJ6_bitCount_0f7a4_2 : decode cJ6_bitCount_0f7a4 2 = .ok (.iconst 1, 1) := by decide +kernel
theorem dJ6_bitCount_0f7a4_3 : decode cJ6_bitCount_0f7a4 3 = .ok (.iushr, 1) := by decide +kernel
theorem dJ6_bitCount_0f7a4_4 : decode cJ6_bitCount_0f7a4 4 = .ok (.ldc_w 265, 3) := by decide +kernel
theorem dJ6_bitCount_0f7a4_7 : decode cJ6_bitCount_0f7a4 7 = .ok (.iand, 1) := by decide +kernel
theorem dJ6_bitCount_0f7a4_8 : decode cJ6_bitCount_0f7a4 8 = .ok (.isub, 1) := by decide +kernel
theorem dJ6_bitCount_0f7a4_9 : decode cJ6_bitCount_0f7a4 9 = .ok (.istore_n 0, 1) := by decide +kernel
theorem dJ6_bitCount_0f7a4_10 : decode cJ6_bitCount_0f7a4 10 = .ok (.iload_n 0, 1) := by decide +kernel
theorem dJ6_bitCount_0f7a4_11 : decode cJ6_bitCount_0f7a4 11 = .ok (.ldc_w 266, 3) := by decide +kernel
theorem dJ6_bitCount_0f7a4_14 : decode cJ6_bitCount_0f7a4 14 = .ok (.iand, 1) := by decide +kernel
theorem dJ6_bitCount_0f7a4_15 : decode cJ6_bitCount_0f7a4 15 = .ok (.iload_n 0, 1) := by decide +kernel
theorem dJ6_bitCount_0f7a4_16 : decode cJ6_bitCount_0f7a4 16 = .ok (.iconst 2, 1) := by decide +kernel
theorem dJ6_bitCount_0f7a4_17 : decode cJ6_bitCount_0f7a4 17 = .ok (.iushr, 1) := by decide +kernel
theorem dJ6_bitCount_0f7a4_18 : decode cJ6_bitCount_0f7a4 18 = .ok (.ldc_w 266, 3) := by decide +kernel
theorem dJ6_bitCount_0f7a4_21 : decode cJ6_bitCount_0f7a4 21 = .ok (.iand, 1) := by decide +kernel
theorem dJ6_bitCount_0f7a4_22 : decode cJ6_bitCount_0f7a4 22 = .ok (.iadd, 1) := by decide +kernel
theorem dJ6_bitCount_0f7a4_23 : decode cJ6_bitCount_0f7a4 23 = .ok (.istore_n 0, 1) := by decide +kernel
theorem dJ6_bitCount_0f7a4_24 : decode cJ6_bitCount_0f7a4 24 = .ok (.iload_n 0, 1) := by decide +kernel
theorem dJ6_bitCount_0f7a4_25 : decode cJ6_bitCount_0f7a4 25 = .ok (.iload_n 0, 1) := by decide +kernel
theorem dJ6_bitCount_0f7a4_26 : decode cJ6_bitCount_0f7a4 26 = .ok (.iconst 4, 1) := by decide +kernel
theorem dJ6_bitCount_0f7a4_27 : decode cJ6_bitCount_0f7a4 27 = .ok (.iushr, 1) := by decide +kernel
theorem dJ6_bitCount_0f7a4_28 : decode cJ6_bitCount_0f7a4 28 = .ok (.iadd, 1) := by decide +kernel
theorem dJ6_bitCount_0f7a4_29 : decode cJ6_bitCount_0f7a4 29 = .ok (.ldc_w 267, 3) := by decide +kernel
theorem dJ6_bitCount_0f7a4_32 : decode cJ6_bitCount_0f7a4 32 = .ok (.iand, 1) := by decide +kernel
theorem dJ6_bitCount_0f7a4_33 : decode cJ6_bitCount_0f7a4 33 = .ok (.istore_n 0, 1) := by decide +kernel
theorem dJ6_bitCount_0f7a4_34 : decode cJ6_bitCount_0f7a4 34 = .ok (.iload_n 0, 1) := by decide +kernel
theorem dJ6_bitCount_0f7a4_35 : decode cJ6_bitCount_0f7a4 35 = .ok (.iload_n 0, 1) := by decide +kernel
theorem dJ6_bitCount_0f7a4_36 : decode cJ6_bitCount_0f7a4 36 = .ok (.bipush 8, 2) := by decide +kernel
theorem dJ6_bitCount_0f7a4_38 : decode cJ6_bitCount_0f7a4 38 = .ok (.iushr, 1) := by decide +kernel
theorem dJ6_bitCount_0f7a4_39 : decode cJ6_bitCount_0f7a4 39 = .ok (.iadd, 1) := by decide +kernel
theorem dJ6_bitCount_0f7a4_40 : decode cJ6_bitCount_0f7a4 40 = .ok (.istore_n 0, 1) := by decide +kernel
theorem dJ6_bitCount_0f7a4_41 : decode cJ6_bitCount_0f7a4 41 = .ok (.iload_n 0, 1) := by decide +kernel
theorem dJ6_bitCount_0f7a4_42 : decode cJ6_bitCount_0f7a4 42 = .ok (.iload_n 0, 1) := by decide +kernel
theorem dJ6_bitCount_0f7a4_43 : decode cJ6_bitCount_0f7a4 43 = .ok (.bipush 16, 2) := by decide +kernel
theorem dJ6_bitCount_0f7a4_45 : decode cJ6_bitCount_0f7a4 45 = .ok (.iushr, 1) := by decide +kernel
theorem dJ6_bitCount_0f7a4_46 : decode cJ6_bitCount_0f7a4 46 = .ok (.iadd, 1) := by decide +kernel
theorem dJ6_bitCount_0f7a4_47 : decode cJ6_bitCount_0f7a4 47 = .ok (.istore_n 0, 1) := by decide +kernel
theorem dJ6_bitCount_0f7a4_48 : decode cJ6_bitCount_0f7a4 48 = .ok (.iload_n 0, 1) := by decide +kernel
theorem dJ6_bitCount_0f7a4_49 : decode cJ6_bitCount_0f7a4 49 = .ok (.bipush 63, 2) := by decide +kernel
theorem dJ6_bitCount_0f7a4_51 : decode cJ6_bitCount_0f7a4 51 = .ok (.iand, 1) := by decide +kernel
theorem dJ6_bitCount_0f7a4_52 : decode cJ6_bitCount_0f7a4 52 = .ok (.ireturn, 1) := by decide +kernel
theorem dJ9_max_7cf53_0 : decode cJ9_max_7cf53 0 = .ok (.iload_n 0, 1) := by decide +kernel
theorem dJ9_max_7cf53_1 : decode cJ9_max_7cf53 1 = .ok (.iload_n 1, 1) := by decide +kernel
theorem dJ9_max_7cf53_2 : decode cJ9_max_7cf53 2 = .ok (.if_icmp .lt 7, 3) := by decide +kernel
theorem dJ9_max_7cf53_5 : decode cJ9_max_7cf53 5 = .ok (.iload_n 0, 1) := by decide +kernel
theorem dJ9_max_7cf53_6 : decode cJ9_max_7cf53 6 = .ok (.goto 4, 3) := by decide +kernel
theorem dJ9_max_7cf53_9 : decode cJ9_max_7cf53 9 = .ok (.iload_n 1, 1) := by decide +kernel
theorem dJ9_max_7cf53_10 : decode cJ9_max_7cf53 10 = .ok (.ireturn, 1) := by decide +kernel
theorem dJ9_min_7cf53_0 : decode cJ9_min_7cf53 0 = .ok (.iload_n 0, 1) := by decide +kernel
theorem dJ9_min_7cf53_1 : decode cJ9_min_7cf53 1 = .ok (.iload_n 1, 1) := by decide +kernel
theorem dJ9_min_7cf53_2 : decode cJ9_min_7cf53 2 = .ok (.if_icmp .gt 7, 3) := by decide +kernel
theorem dJ9_min_7cf53_5 : decode cJ9_min_7cf53 5 = .ok (.iload_n 0, 1) := by decide +kernel
theorem dJ9_min_7cf53_6 : decode cJ9_min_7cf53 6 = .ok (.goto 4, 3) := by decide +kernel
theorem dJ9_min_7cf53_9 : decode cJ9_min_7cf53 9 = .ok (.iload_n 1, 1) := by decide +kernel
theorem dJ9_min_7cf53_10 : decode cJ9_min_7cf53 10 = .ok (.ireturn, 1) := by decide +kernel
theorem dJ0_length_8abf5_0 : decode cJ0_length_8abf5 0 = .ok (.aload_n 0, 1) := by decide +kernel
theorem dJ0_length_8abf5_1 : decode cJ0_length_8abf5 1 = .ok (.getfield 9, 3) := by decide +kernel
theorem dJ0_length_8abf5_4 : decode cJ0_length_8abf5 4 = .ok (.arraylength, 1) := by decide +kernel
theorem dJ0_length_8abf5_5 : decode cJ0_length_8abf5 5 = .ok (.aload_n 0, 1) := by decide +kernel
theorem dJ0_length_8abf5_6 : decode cJ0_length_8abf5 6 = .ok (.invokevirtual 335, 3) := by decide +kernel
theorem dJ0_length_8abf5_9 : decode cJ0_length_8abf5 9 = .ok (.ishr, 1) := by decide +kernel
theorem dJ0_length_8abf5_10 : decode cJ0_length_8abf5 10 = .ok (.ireturn, 1) := by decide +kernel
theorem dJ0_charAt_5068e_0 : decode cJ0_charAt_5068e 0 = .ok (.aload_n 0, 1) := by decide +kernel
theorem dJ0_charAt_5068e_1 : decode cJ0_charAt_5068e 1 = .ok (.invokevirtual 492, 3) := by decide +kernel
theorem dJ0_charAt_5068e_4 : decode cJ0_charAt_5068e 4 = .ok (.ifCond .eq 12, 3) := by decide +kernel
theorem dJ0_charAt_5068e_7 : decode cJ0_charAt_5068e 7 = .ok (.aload_n 0, 1) := by decide +kernel
theorem dJ0_charAt_5068e_8 : decode cJ0_charAt_5068e 8 = .ok (.getfield 9, 3) := by decide +kernel
theorem dJ0_charAt_5068e_11 : decode cJ0_charAt_5068e 11 = .ok (.iload_n 1, 1) := by decide +kernel
theorem dJ0_charAt_5068e_12 : decode cJ0_charAt_5068e 12 = .ok (.invokestatic 495, 3) := by decide +kernel
theorem dJ0_charAt_5068e_15 : decode cJ0_charAt_5068e 15 = .ok (.ireturn, 1) := by decide +kernel
theorem dJ0_charAt_5068e_16 : decode cJ0_charAt_5068e 16 = .ok (.aload_n 0, 1) := by decide +kernel
theorem dJ0_charAt_5068e_17 : decode cJ0_charAt_5068e 17 = .ok (.getfield 9, 3) := by decide +kernel
theorem dJ0_charAt_5068e_20 : decode cJ0_charAt_5068e 20 = .ok (.iload_n 1, 1) := by decide +kernel
theorem dJ0_charAt_5068e_21 : decode cJ0_charAt_5068e 21 = .ok (.invokestatic 498, 3) := by decide +kernel
theorem dJ0_charAt_5068e_24 : decode cJ0_charAt_5068e 24 = .ok (.ireturn, 1) := by decide +kernel
theorem dJ0_coder_7d493_0 : decode cJ0_coder_7d493 0 = .ok (.getstatic 38, 3) := by decide +kernel
theorem dJ0_coder_7d493_3 : decode cJ0_coder_7d493 3 = .ok (.ifCond .eq 10, 3) := by decide +kernel
theorem dJ0_coder_7d493_6 : decode cJ0_coder_7d493 6 = .ok (.aload_n 0, 1) := by decide +kernel
theorem dJ0_coder_7d493_7 : decode cJ0_coder_7d493 7 = .ok (.getfield 15, 3) := by decide +kernel
theorem dJ0_coder_7d493_10 : decode cJ0_coder_7d493 10 = .ok (.goto 4, 3) := by decide +kernel
theorem dJ0_coder_7d493_13 : decode cJ0_coder_7d493 13 = .ok (.iconst 1, 1) := by decide +kernel
theorem dJ0_coder_7d493_14 : decode cJ0_coder_7d493 14 = .ok (.ireturn, 1) := by decide +kernel
theorem dJ0_isLatin1_aae02_0 : decode cJ0_isLatin1_aae02 0 = .ok (.getstatic 38, 3) := by decide +kernel
theorem dJ0_isLatin1_aae02_3 : decode cJ0_isLatin1_aae02 3 = .ok (.ifCond .eq 14, 3) := by decide +kernel
theorem dJ0_isLatin1_aae02_6 : decode cJ0_isLatin1_aae02 6 = .ok (.aload_n 0, 1) := by decide +kernel
theorem dJ0_isLatin1_aae02_7 : decode cJ0_isLatin1_aae02 7 = .ok (.getfield 15, 3) := by decide +kernel
theorem dJ0_isLatin1_aae02_10 : decode cJ0_isLatin1_aae02 10 = .ok (.ifCond .ne 7, 3) := by decide +kernel
theorem dJ0_isLatin1_aae02_13 : decode cJ0_isLatin1_aae02 13 = .ok (.iconst 1, 1) := by decide +kernel
theorem dJ0_isLatin1_aae02_14 : decode cJ0_isLatin1_aae02 14 = .ok (.goto 4, 3) := by decide +kernel
theorem dJ0_isLatin1_aae02_17 : decode cJ0_isLatin1_aae02 17 = .ok (.iconst 0, 1) := by decide +kernel
theorem dJ0_isLatin1_aae02_18 : decode cJ0_isLatin1_aae02 18 = .ok (.ireturn, 1) := by decide +kernel
theorem dJ0_checkIndex_df160_0 : decode cJ0_checkIndex_df160 0 = .ok (.iload_n 0, 1) := by decide +kernel
theorem dJ0_checkIndex_df160_1 : decode cJ0_checkIndex_df160 1 = .ok (.iload_n 1, 1) := by decide +kernel
theorem dJ0_checkIndex_df160_2 : decode cJ0_checkIndex_df160 2 = .ok (.getstatic 1053, 3) := by decide +kernel
theorem dJ0_checkIndex_df160_5 : decode cJ0_checkIndex_df160 5 = .ok (.invokestatic 1059, 3) := by decide +kernel
theorem dJ0_checkIndex_df160_8 : decode cJ0_checkIndex_df160 8 = .ok (.pop, 1) := by decide +kernel
theorem dJ0_checkIndex_df160_9 : decode cJ0_checkIndex_df160 9 = .ok (.return_, 1) := by decide +kernel
theorem dJ1_charAt_3b067_0 : decode cJ1_charAt_3b067 0 = .ok (.iload_n 1, 1) := by decide +kernel
theorem dJ1_charAt_3b067_1 : decode cJ1_charAt_3b067 1 = .ok (.aload_n 0, 1) := by decide +kernel
theorem dJ1_charAt_3b067_2 : decode cJ1_charAt_3b067 2 = .ok (.arraylength, 1) := by decide +kernel
theorem dJ1_charAt_3b067_3 : decode cJ1_charAt_3b067 3 = .ok (.invokestatic 9, 3) := by decide +kernel
theorem dJ1_charAt_3b067_6 : decode cJ1_charAt_3b067 6 = .ok (.aload_n 0, 1) := by decide +kernel
theorem dJ1_charAt_3b067_7 : decode cJ1_charAt_3b067 7 = .ok (.iload_n 1, 1) := by decide +kernel
theorem dJ1_charAt_3b067_8 : decode cJ1_charAt_3b067 8 = .ok (.baload, 1) := by decide +kernel
theorem dJ1_charAt_3b067_9 : decode cJ1_charAt_3b067 9 = .ok (.sipush 255, 3) := by decide +kernel
theorem dJ1_charAt_3b067_12 : decode cJ1_charAt_3b067 12 = .ok (.iand, 1) := by decide +kernel
theorem dJ1_charAt_3b067_13 : decode cJ1_charAt_3b067 13 = .ok (.i2c, 1) := by decide +kernel
theorem dJ1_charAt_3b067_14 : decode cJ1_charAt_3b067 14 = .ok (.ireturn, 1) := by decide +kernel
theorem dJ2_getChar_3b067_0 : decode cJ2_getChar_3b067 0 = .ok (.getstatic 44, 3) := by decide +kernel
theorem dJ2_getChar_3b067_3 : decode cJ2_getChar_3b067 3 = .ok (.ifCond .ne 25, 3) := by decide +kernel
theorem dJ2_getChar_3b067_6 : decode cJ2_getChar_3b067 6 = .ok (.iload_n 1, 1) := by decide +kernel
theorem dJ2_getChar_3b067_7 : decode cJ2_getChar_3b067 7 = .ok (.ifCond .lt 11, 3) := by decide +kernel
theorem dJ2_getChar_3b067_10 : decode cJ2_getChar_3b067 10 = .ok (.iload_n 1, 1) := by decide +kernel
theorem dJ2_getChar_3b067_11 : decode cJ2_getChar_3b067 11 = .ok (.aload_n 0, 1) := by decide +kernel
theorem dJ2_getChar_3b067_12 : decode cJ2_getChar_3b067 12 = .ok (.invokestatic 48, 3) := by decide +kernel
theorem dJ2_getChar_3b067_15 : decode cJ2_getChar_3b067 15 = .ok (.if_icmp .lt 13, 3) := by decide +kernel
theorem dJ2_getChar_3b067_18 : decode cJ2_getChar_3b067 18 = .ok (.new 52, 3) := by decide +kernel
theorem dJ2_getChar_3b067_21 : decode cJ2_getChar_3b067 21 = .ok (.dup, 1) := by decide +kernel
theorem dJ2_getChar_3b067_22 : decode cJ2_getChar_3b067 22 = .ok (.ldc 54, 2) := by decide +kernel
theorem dJ2_getChar_3b067_24 : decode cJ2_getChar_3b067 24 = .ok (.invokespecial 56, 3) := by decide +kernel
theorem dJ2_getChar_3b067_27 : decode cJ2_getChar_3b067 27 = .ok (.athrow, 1) := by decide +kernel
theorem dJ2_getChar_3b067_28 : decode cJ2_getChar_3b067 28 = .ok (.iload_n 1, 1) := by decide +kernel
theorem dJ2_getChar_3b067_29 : decode cJ2_getChar_3b067 29 = .ok (.iconst 1, 1) := by decide +kernel
theorem dJ2_getChar_3b067_30 : decode cJ2_getChar_3b067 30 = .ok (.ishl, 1) := by decide +kernel
theorem dJ2_getChar_3b067_31 : decode cJ2_getChar_3b067 31 = .ok (.istore_n 1, 1) := by decide +kernel
theorem dJ2_getChar_3b067_32 : decode cJ2_getChar_3b067 32 = .ok (.aload_n 0, 1) := by decide +kernel
theorem dJ2_getChar_3b067_33 : decode cJ2_getChar_3b067 33 = .ok (.iload_n 1, 1) := by decide +kernel
theorem dJ2_getChar_3b067_34 : decode cJ2_getChar_3b067 34 = .ok (.iinc 1 1, 3) := by decide +kernel
theorem dJ2_getChar_3b067_37 : decode cJ2_getChar_3b067 37 = .ok (.baload, 1) := by decide +kernel
theorem dJ2_getChar_3b067_38 : decode cJ2_getChar_3b067 38 = .ok (.sipush 255, 3) := by decide +kernel
theorem dJ2_getChar_3b067_41 : decode cJ2_getChar_3b067 41 = .ok (.iand, 1) := by decide +kernel
theorem dJ2_getChar_3b067_42 : decode cJ2_getChar_3b067 42 = .ok (.getstatic 59, 3) := by decide +kernel
theorem dJ2_getChar_3b067_45 : decode cJ2_getChar_3b067 45 = .ok (.ishl, 1) := by decide +kernel
theorem dJ2_getChar_3b067_46 : decode cJ2_getChar_3b067 46 = .ok (.aload_n 0, 1) := by decide +kernel
theorem dJ2_getChar_3b067_47 : decode cJ2_getChar_3b067 47 = .ok (.iload_n 1, 1) := by decide +kernel
theorem dJ2_getChar_3b067_48 : decode cJ2_getChar_3b067 48 = .ok (.baload, 1) := by decide +kernel
theorem dJ2_getChar_3b067_49 : decode cJ2_getChar_3b067 49 = .ok (.sipush 255, 3) := by decide +kernel
theorem dJ2_getChar_3b067_52 : decode cJ2_getChar_3b067 52 = .ok (.iand, 1) := by decide +kernel
theorem dJ2_getChar_3b067_53 : decode cJ2_getChar_3b067 53 = .ok (.getstatic 63, 3) := by decide +kernel
theorem dJ2_getChar_3b067_56 : decode cJ2_getChar_3b067 56 = .ok (.ishl, 1) := by decide +kernel
theorem dJ2_getChar_3b067_57 : decode cJ2_getChar_3b067 57 = .ok (.ior, 1) := by decide +kernel
theorem dJ2_getChar_3b067_58 : decode cJ2_getChar_3b067 58 = .ok (.i2c, 1) := by decide +kernel
theorem dJ2_getChar_3b067_59 : decode cJ2_getChar_3b067 59 = .ok (.ireturn, 1) := by decide +kernel
theorem dJ2_length_9d52b_0 : decode cJ2_length_9d52b 0 = .ok (.aload_n 0, 1) := by decide +kernel
theorem dJ2_length_9d52b_1 : decode cJ2_length_9d52b 1 = .ok (.arraylength, 1) := by decide +kernel
theorem dJ2_length_9d52b_2 : decode cJ2_length_9d52b 2 = .ok (.iconst 1, 1) := by decide +kernel
theorem dJ2_length_9d52b_3 : decode cJ2_length_9d52b 3 = .ok (.ishr, 1) := by decide +kernel
theorem dJ2_length_9d52b_4 : decode cJ2_length_9d52b 4 = .ok (.ireturn, 1) := by decide +kernel
theorem dJ2_charAt_3b067_0 : decode cJ2_charAt_3b067 0 = .ok (.iload_n 1, 1) := by decide +kernel
theorem dJ2_charAt_3b067_1 : decode cJ2_charAt_3b067 1 = .ok (.aload_n 0, 1) := by decide +kernel
theorem dJ2_charAt_3b067_2 : decode cJ2_charAt_3b067 2 = .ok (.invokestatic 67, 3) := by decide +kernel
theorem dJ2_charAt_3b067_5 : decode cJ2_charAt_3b067 5 = .ok (.aload_n 0, 1) := by decide +kernel
theorem dJ2_charAt_3b067_6 : decode cJ2_charAt_3b067 6 = .ok (.iload_n 1, 1) := by decide +kernel
theorem dJ2_charAt_3b067_7 : decode cJ2_charAt_3b067 7 = .ok (.invokestatic 71, 3) := by decide +kernel
theorem dJ2_charAt_3b067_10 : decode cJ2_charAt_3b067 10 = .ok (.ireturn, 1) := by decide +kernel
theorem dJ2_checkIndex_2214a_0 : decode cJ2_checkIndex_2214a 0 = .ok (.iload_n 0, 1) := by decide +kernel
theorem dJ2_checkIndex_2214a_1 : decode cJ2_checkIndex_2214a 1 = .ok (.aload_n 1, 1) := by decide +kernel
theorem dJ2_checkIndex_2214a_2 : decode cJ2_checkIndex_2214a 2 = .ok (.invokestatic 48, 3) := by decide +kernel
theorem dJ2_checkIndex_2214a_5 : decode cJ2_checkIndex_2214a 5 = .ok (.invokestatic 414, 3) := by decide +kernel
theorem dJ2_checkIndex_2214a_8 : decode cJ2_checkIndex_2214a 8 = .ok (.return_, 1) := by decide +kernel
theorem dJ7_fill_53178_0 : decode cJ7_fill_53178 0 = .ok (.iconst 0, 1) := by decide +kernel
theorem dJ7_fill_53178_1 : decode cJ7_fill_53178 1 = .ok (.istore_n 2, 1) := by decide +kernel
theorem dJ7_fill_53178_2 : decode cJ7_fill_53178 2 = .ok (.aload_n 0, 1) := by decide +kernel
theorem dJ7_fill_53178_3 : decode cJ7_fill_53178 3 = .ok (.arraylength, 1) := by decide +kernel
theorem dJ7_fill_53178_4 : decode cJ7_fill_53178 4 = .ok (.istore_n 3, 1) := by decide +kernel
theorem dJ7_fill_53178_5 : decode cJ7_fill_53178 5 = .ok (.iload_n 2, 1) := by decide +kernel
theorem dJ7_fill_53178_6 : decode cJ7_fill_53178 6 = .ok (.iload_n 3, 1) := by decide +kernel
theorem dJ7_fill_53178_7 : decode cJ7_fill_53178 7 = .ok (.if_icmp .ge 13, 3) := by decide +kernel
theorem dJ7_fill_53178_10 : decode cJ7_fill_53178 10 = .ok (.aload_n 0, 1) := by decide +kernel
theorem dJ7_fill_53178_11 : decode cJ7_fill_53178 11 = .ok (.iload_n 2, 1) := by decide +kernel
theorem dJ7_fill_53178_12 : decode cJ7_fill_53178 12 = .ok (.iload_n 1, 1) := by decide +kernel
theorem dJ7_fill_53178_13 : decode cJ7_fill_53178 13 = .ok (.iastore, 1) := by decide +kernel
theorem dJ7_fill_53178_14 : decode cJ7_fill_53178 14 = .ok (.iinc 2 1, 3) := by decide +kernel
theorem dJ7_fill_53178_17 : decode cJ7_fill_53178 17 = .ok (.goto (-12), 3) := by decide +kernel
theorem dJ7_fill_53178_20 : decode cJ7_fill_53178 20 = .ok (.return_, 1) := by decide +kernel
theorem dJ3_checkIndex_8e157_0 : decode cJ3_checkIndex_8e157 0 = .ok (.iload_n 0, 1) := by decide +kernel
theorem dJ3_checkIndex_8e157_1 : decode cJ3_checkIndex_8e157 1 = .ok (.ifCond .lt 8, 3) := by decide +kernel
theorem dJ3_checkIndex_8e157_4 : decode cJ3_checkIndex_8e157 4 = .ok (.iload_n 0, 1) := by decide +kernel
theorem dJ3_checkIndex_8e157_5 : decode cJ3_checkIndex_8e157 5 = .ok (.iload_n 1, 1) := by decide +kernel
theorem dJ3_checkIndex_8e157_6 : decode cJ3_checkIndex_8e157 6 = .ok (.if_icmp .lt 10, 3) := by decide +kernel
theorem dJ3_checkIndex_8e157_9 : decode cJ3_checkIndex_8e157 9 = .ok (.aload_n 2, 1) := by decide +kernel
theorem dJ3_checkIndex_8e157_10 : decode cJ3_checkIndex_8e157 10 = .ok (.iload_n 0, 1) := by decide +kernel
theorem dJ3_checkIndex_8e157_11 : decode cJ3_checkIndex_8e157 11 = .ok (.iload_n 1, 1) := by decide +kernel
theorem dJ3_checkIndex_8e157_12 : decode cJ3_checkIndex_8e157 12 = .ok (.invokestatic 95, 3) := by decide +kernel
theorem dJ3_checkIndex_8e157_15 : decode cJ3_checkIndex_8e157 15 = .ok (.athrow, 1) := by decide +kernel
theorem dJ3_checkIndex_8e157_16 : decode cJ3_checkIndex_8e157 16 = .ok (.iload_n 0, 1) := by decide +kernel
theorem dJ3_checkIndex_8e157_17 : decode cJ3_checkIndex_8e157 17 = .ok (.ireturn, 1) := by decide +kernel
theorem dL_law_0 : decode cL_law 0 = .ok (.new 7, 3) := by decide +kernel
theorem dL_law_3 : decode cL_law 3 = .ok (.dup, 1) := by decide +kernel
theorem dL_law_4 : decode cL_law 4 = .ok (.invokespecial 9, 3) := by decide +kernel
theorem dL_law_7 : decode cL_law 7 = .ok (.astore_n 1, 1) := by decide +kernel
theorem dL_law_8 : decode cL_law 8 = .ok (.new 10, 3) := by decide +kernel
theorem dL_law_11 : decode cL_law 11 = .ok (.dup, 1) := by decide +kernel
theorem dL_law_12 : decode cL_law 12 = .ok (.invokespecial 12, 3) := by decide +kernel
theorem dL_law_15 : decode cL_law 15 = .ok (.astore_n 2, 1) := by decide +kernel
theorem dL_law_16 : decode cL_law 16 = .ok (.iconst 0, 1) := by decide +kernel
theorem dL_law_17 : decode cL_law 17 = .ok (.istore_n 3, 1) := by decide +kernel
theorem dL_law_18 : decode cL_law 18 = .ok (.iload_n 3, 1) := by decide +kernel
theorem dL_law_19 : decode cL_law 19 = .ok (.aload_n 0, 1) := by decide +kernel
theorem dL_law_20 : decode cL_law 20 = .ok (.arraylength, 1) := by decide +kernel
theorem dL_law_21 : decode cL_law 21 = .ok (.bipush 6, 2) := by decide +kernel
theorem dL_law_23 : decode cL_law 23 = .ok (.isub, 1) := by decide +kernel
theorem dL_law_24 : decode cL_law 24 = .ok (.if_icmp .gt 1275, 3) := by decide +kernel
theorem dL_law_27 : decode cL_law 27 = .ok (.aload_n 0, 1) := by decide +kernel
theorem dL_law_28 : decode cL_law 28 = .ok (.iload_n 3, 1) := by decide +kernel
theorem dL_law_29 : decode cL_law 29 = .ok (.iaload, 1) := by decide +kernel
theorem dL_law_30 : decode cL_law 30 = .ok (.bipush 63, 2) := by decide +kernel
theorem dL_law_32 : decode cL_law 32 = .ok (.iand, 1) := by decide +kernel
theorem dL_law_33 : decode cL_law 33 = .ok (.tableswitch 1260 0 34 #[155, 218, 241, 254, 267, 290, 323, 356, 389, 412, 425, 458, 491, 524, 547, 560, 603, 626, 649, 692, 735, 788, 831, 864, 897, 930, 983, 1016, 1059, 1082, 1115, 1138, 1191, 1214, 1237], 155) := by decide +kernel
theorem dL_law_188 : decode cL_law 188 = .ok (.aload_n 1, 1) := by decide +kernel
theorem dL_law_189 : decode cL_law 189 = .ok (.aload_n 0, 1) := by decide +kernel
theorem dL_law_190 : decode cL_law 190 = .ok (.iload_n 3, 1) := by decide +kernel
theorem dL_law_191 : decode cL_law 191 = .ok (.iconst 1, 1) := by decide +kernel
theorem dL_law_192 : decode cL_law 192 = .ok (.iadd, 1) := by decide +kernel
theorem dL_law_193 : decode cL_law 193 = .ok (.iaload, 1) := by decide +kernel
theorem dL_law_194 : decode cL_law 194 = .ok (.aload_n 0, 1) := by decide +kernel
theorem dL_law_195 : decode cL_law 195 = .ok (.iload_n 3, 1) := by decide +kernel
theorem dL_law_196 : decode cL_law 196 = .ok (.iconst 2, 1) := by decide +kernel
theorem dL_law_197 : decode cL_law 197 = .ok (.iadd, 1) := by decide +kernel
theorem dL_law_198 : decode cL_law 198 = .ok (.iaload, 1) := by decide +kernel
theorem dL_law_199 : decode cL_law 199 = .ok (.aload_n 0, 1) := by decide +kernel
theorem dL_law_200 : decode cL_law 200 = .ok (.iload_n 3, 1) := by decide +kernel
theorem dL_law_201 : decode cL_law 201 = .ok (.iconst 3, 1) := by decide +kernel
theorem dL_law_202 : decode cL_law 202 = .ok (.iadd, 1) := by decide +kernel
theorem dL_law_203 : decode cL_law 203 = .ok (.iaload, 1) := by decide +kernel
theorem dL_law_204 : decode cL_law 204 = .ok (.aload_n 0, 1) := by decide +kernel
theorem dL_law_205 : decode cL_law 205 = .ok (.iload_n 3, 1) := by decide +kernel
theorem dL_law_206 : decode cL_law 206 = .ok (.iconst 4, 1) := by decide +kernel
theorem dL_law_207 : decode cL_law 207 = .ok (.iadd, 1) := by decide +kernel
theorem dL_law_208 : decode cL_law 208 = .ok (.iaload, 1) := by decide +kernel
theorem dL_law_209 : decode cL_law 209 = .ok (.aload_n 0, 1) := by decide +kernel
theorem dL_law_210 : decode cL_law 210 = .ok (.iload_n 3, 1) := by decide +kernel
theorem dL_law_211 : decode cL_law 211 = .ok (.iconst 5, 1) := by decide +kernel
theorem dL_law_212 : decode cL_law 212 = .ok (.iadd, 1) := by decide +kernel
theorem dL_law_213 : decode cL_law 213 = .ok (.iaload, 1) := by decide +kernel
theorem dL_law_214 : decode cL_law 214 = .ok (.invokevirtual 13, 3) := by decide +kernel
theorem dL_law_217 : decode cL_law 217 = .ok (.aload_n 2, 1) := by decide +kernel
theorem dL_law_218 : decode cL_law 218 = .ok (.aload_n 0, 1) := by decide +kernel
theorem dL_law_219 : decode cL_law 219 = .ok (.iload_n 3, 1) := by decide +kernel
theorem dL_law_220 : decode cL_law 220 = .ok (.iconst 1, 1) := by decide +kernel
theorem dL_law_221 : decode cL_law 221 = .ok (.iadd, 1) := by decide +kernel
theorem dL_law_222 : decode cL_law 222 = .ok (.iaload, 1) := by decide +kernel
theorem dL_law_223 : decode cL_law 223 = .ok (.aload_n 0, 1) := by decide +kernel
theorem dL_law_224 : decode cL_law 224 = .ok (.iload_n 3, 1) := by decide +kernel
theorem dL_law_225 : decode cL_law 225 = .ok (.iconst 2, 1) := by decide +kernel
theorem dL_law_226 : decode cL_law 226 = .ok (.iadd, 1) := by decide +kernel
theorem dL_law_227 : decode cL_law 227 = .ok (.iaload, 1) := by decide +kernel
theorem dL_law_228 : decode cL_law 228 = .ok (.aload_n 0, 1) := by decide +kernel
theorem dL_law_229 : decode cL_law 229 = .ok (.iload_n 3, 1) := by decide +kernel
theorem dL_law_230 : decode cL_law 230 = .ok (.iconst 3, 1) := by decide +kernel
theorem dL_law_231 : decode cL_law 231 = .ok (.iadd, 1) := by decide +kernel
theorem dL_law_232 : decode cL_law 232 = .ok (.iaload, 1) := by decide +kernel
theorem dL_law_233 : decode cL_law 233 = .ok (.aload_n 0, 1) := by decide +kernel
theorem dL_law_234 : decode cL_law 234 = .ok (.iload_n 3, 1) := by decide +kernel
theorem dL_law_235 : decode cL_law 235 = .ok (.iconst 4, 1) := by decide +kernel
theorem dL_law_236 : decode cL_law 236 = .ok (.iadd, 1) := by decide +kernel
theorem dL_law_237 : decode cL_law 237 = .ok (.iaload, 1) := by decide +kernel
theorem dL_law_238 : decode cL_law 238 = .ok (.aload_n 0, 1) := by decide +kernel
theorem dL_law_239 : decode cL_law 239 = .ok (.iload_n 3, 1) := by decide +kernel
theorem dL_law_240 : decode cL_law 240 = .ok (.iconst 5, 1) := by decide +kernel
theorem dL_law_241 : decode cL_law 241 = .ok (.iadd, 1) := by decide +kernel
theorem dL_law_242 : decode cL_law 242 = .ok (.iaload, 1) := by decide +kernel
theorem dL_law_243 : decode cL_law 243 = .ok (.invokevirtual 17, 3) := by decide +kernel
theorem dL_law_246 : decode cL_law 246 = .ok (.if_icmp .eq 1047, 3) := by decide +kernel
theorem dL_law_249 : decode cL_law 249 = .ok (.iconst 0, 1) := by decide +kernel
theorem dL_law_250 : decode cL_law 250 = .ok (.ireturn, 1) := by decide +kernel
theorem dL_law_251 : decode cL_law 251 = .ok (.aload_n 1, 1) := by decide +kernel
theorem dL_law_252 : decode cL_law 252 = .ok (.aload_n 0, 1) := by decide +kernel
theorem dL_law_253 : decode cL_law 253 = .ok (.iload_n 3, 1) := by decide +kernel
theorem dL_law_254 : decode cL_law 254 = .ok (.iconst 1, 1) := by decide +kernel
theorem dL_law_255 : decode cL_law 255 = .ok (.iadd, 1) := by decide +kernel
theorem dL_law_256 : decode cL_law 256 = .ok (.iaload, 1) := by decide +kernel
theorem dL_law_257 : decode cL_law 257 = .ok (.invokevirtual 18, 3) := by decide +kernel
theorem dL_law_260 : decode cL_law 260 = .ok (.aload_n 2, 1) := by decide +kernel
theorem dL_law_261 : decode cL_law 261 = .ok (.aload_n 0, 1) := by decide +kernel
theorem dL_law_262 : decode cL_law 262 = .ok (.iload_n 3, 1) := by decide +kernel
theorem dL_law_263 : decode cL_law 263 = .ok (.iconst 1, 1) := by decide +kernel
theorem dL_law_264 : decode cL_law 264 = .ok (.iadd, 1) := by decide +kernel
theorem dL_law_265 : decode cL_law 265 = .ok (.iaload, 1) := by decide +kernel
theorem dL_law_266 : decode cL_law 266 = .ok (.invokevirtual 22, 3) := by decide +kernel
theorem dL_law_269 : decode cL_law 269 = .ok (.if_icmp .eq 1024, 3) := by decide +kernel
theorem dL_law_272 : decode cL_law 272 = .ok (.iconst 0, 1) := by decide +kernel
theorem dL_law_273 : decode cL_law 273 = .ok (.ireturn, 1) := by decide +kernel
theorem dL_law_274 : decode cL_law 274 = .ok (.aload_n 1, 1) := by decide +kernel
theorem dL_law_275 : decode cL_law 275 = .ok (.invokevirtual 23, 3) := by decide +kernel
theorem dL_law_278 : decode cL_law 278 = .ok (.aload_n 2, 1) := by decide +kernel
theorem dL_law_279 : decode cL_law 279 = .ok (.invokevirtual 27, 3) := by decide +kernel
theorem dL_law_282 : decode cL_law 282 = .ok (.if_icmp .eq 1011, 3) := by decide +kernel
theorem dL_law_285 : decode cL_law 285 = .ok (.iconst 0, 1) := by decide +kernel
theorem dL_law_286 : decode cL_law 286 = .ok (.ireturn, 1) := by decide +kernel
theorem dL_law_287 : decode cL_law 287 = .ok (.aload_n 1, 1) := by decide +kernel
theorem dL_law_288 : decode cL_law 288 = .ok (.invokevirtual 28, 3) := by decide +kernel
theorem dL_law_291 : decode cL_law 291 = .ok (.aload_n 2, 1) := by decide +kernel
theorem dL_law_292 : decode cL_law 292 = .ok (.invokevirtual 31, 3) := by decide +kernel
theorem dL_law_295 : decode cL_law 295 = .ok (.if_icmp .eq 998, 3) := by decide +kernel
theorem dL_law_298 : decode cL_law 298 = .ok (.iconst 0, 1) := by decide +kernel
theorem dL_law_299 : decode cL_law 299 = .ok (.ireturn, 1) := by decide +kernel
theorem dL_law_300 : decode cL_law 300 = .ok (.aload_n 1, 1) := by decide +kernel
theorem dL_law_301 : decode cL_law 301 = .ok (.aload_n 0, 1) := by decide +kernel
theorem dL_law_302 : decode cL_law 302 = .ok (.iload_n 3, 1) := by decide +kernel
theorem dL_law_303 : decode cL_law 303 = .ok (.iconst 1, 1) := by decide +kernel
theorem dL_law_304 : decode cL_law 304 = .ok (.iadd, 1) := by decide +kernel
theorem dL_law_305 : decode cL_law 305 = .ok (.iaload, 1) := by decide +kernel
theorem dL_law_306 : decode cL_law 306 = .ok (.invokevirtual 32, 3) := by decide +kernel
theorem dL_law_309 : decode cL_law 309 = .ok (.aload_n 2, 1) := by decide +kernel
theorem dL_law_310 : decode cL_law 310 = .ok (.aload_n 0, 1) := by decide +kernel
theorem dL_law_311 : decode cL_law 311 = .ok (.iload_n 3, 1) := by decide +kernel
theorem dL_law_312 : decode cL_law 312 = .ok (.iconst 1, 1) := by decide +kernel
theorem dL_law_313 : decode cL_law 313 = .ok (.iadd, 1) := by decide +kernel
theorem dL_law_314 : decode cL_law 314 = .ok (.iaload, 1) := by decide +kernel
theorem dL_law_315 : decode cL_law 315 = .ok (.invokevirtual 35, 3) := by decide +kernel
theorem dL_law_318 : decode cL_law 318 = .ok (.if_icmp .eq 975, 3) := by decide +kernel
theorem dL_law_321 : decode cL_law 321 = .ok (.iconst 0, 1) := by decide +kernel
theorem dL_law_322 : decode cL_law 322 = .ok (.ireturn, 1) := by decide +kernel
theorem dL_law_323 : decode cL_law 323 = .ok (.aload_n 1, 1) := by decide +kernel
theorem dL_law_324 : decode cL_law 324 = .ok (.aload_n 0, 1) := by decide +kernel
theorem dL_law_325 : decode cL_law 325 = .ok (.iload_n 3, 1) := by decide +kernel
theorem dL_law_326 : decode cL_law 326 = .ok (.iconst 1, 1) := by decide +kernel
theorem dL_law_327 : decode cL_law 327 = .ok (.iadd, 1) := by decide +kernel
theorem dL_law_328 : decode cL_law 328 = .ok (.iaload, 1) := by decide +kernel
theorem dL_law_329 : decode cL_law 329 = .ok (.aload_n 0, 1) := by decide +kernel
theorem dL_law_330 : decode cL_law 330 = .ok (.iload_n 3, 1) := by decide +kernel
theorem dL_law_331 : decode cL_law 331 = .ok (.iconst 2, 1) := by decide +kernel
theorem dL_law_332 : decode cL_law 332 = .ok (.iadd, 1) := by decide +kernel
theorem dL_law_333 : decode cL_law 333 = .ok (.iaload, 1) := by decide +kernel
theorem dL_law_334 : decode cL_law 334 = .ok (.invokevirtual 36, 3) := by decide +kernel
theorem dL_law_337 : decode cL_law 337 = .ok (.aload_n 2, 1) := by decide +kernel
theorem dL_law_338 : decode cL_law 338 = .ok (.aload_n 0, 1) := by decide +kernel
theorem dL_law_339 : decode cL_law 339 = .ok (.iload_n 3, 1) := by decide +kernel
theorem dL_law_340 : decode cL_law 340 = .ok (.iconst 1, 1) := by decide +kernel
theorem dL_law_341 : decode cL_law 341 = .ok (.iadd, 1) := by decide +kernel
theorem dL_law_342 : decode cL_law 342 = .ok (.iaload, 1) := by decide +kernel
theorem dL_law_343 : decode cL_law 343 = .ok (.aload_n 0, 1) := by decide +kernel
theorem dL_law_344 : decode cL_law 344 = .ok (.iload_n 3, 1) := by decide +kernel
theorem dL_law_345 : decode cL_law 345 = .ok (.iconst 2, 1) := by decide +kernel
theorem dL_law_346 : decode cL_law 346 = .ok (.iadd, 1) := by decide +kernel
theorem dL_law_347 : decode cL_law 347 = .ok (.iaload, 1) := by decide +kernel
theorem dL_law_348 : decode cL_law 348 = .ok (.invokevirtual 40, 3) := by decide +kernel
theorem dL_law_351 : decode cL_law 351 = .ok (.if_icmp .eq 942, 3) := by decide +kernel
theorem dL_law_354 : decode cL_law 354 = .ok (.iconst 0, 1) := by decide +kernel
theorem dL_law_355 : decode cL_law 355 = .ok (.ireturn, 1) := by decide +kernel
theorem dL_law_356 : decode cL_law 356 = .ok (.aload_n 1, 1) := by decide +kernel
theorem dL_law_357 : decode cL_law 357 = .ok (.aload_n 0, 1) := by decide +kernel
theorem dL_law_358 : decode cL_law 358 = .ok (.iload_n 3, 1) := by decide +kernel
theorem dL_law_359 : decode cL_law 359 = .ok (.iconst 1, 1) := by decide +kernel
theorem dL_law_360 : decode cL_law 360 = .ok (.iadd, 1) := by decide +kernel
theorem dL_law_361 : decode cL_law 361 = .ok (.iaload, 1) := by decide +kernel
theorem dL_law_362 : decode cL_law 362 = .ok (.aload_n 0, 1) := by decide +kernel
theorem dL_law_363 : decode cL_law 363 = .ok (.iload_n 3, 1) := by decide +kernel
theorem dL_law_364 : decode cL_law 364 = .ok (.iconst 2, 1) := by decide +kernel
theorem dL_law_365 : decode cL_law 365 = .ok (.iadd, 1) := by decide +kernel
theorem dL_law_366 : decode cL_law 366 = .ok (.iaload, 1) := by decide +kernel
theorem dL_law_367 : decode cL_law 367 = .ok (.invokevirtual 41, 3) := by decide +kernel
theorem dL_law_370 : decode cL_law 370 = .ok (.aload_n 2, 1) := by decide +kernel
theorem dL_law_371 : decode cL_law 371 = .ok (.aload_n 0, 1) := by decide +kernel
theorem dL_law_372 : decode cL_law 372 = .ok (.iload_n 3, 1) := by decide +kernel
theorem dL_law_373 : decode cL_law 373 = .ok (.iconst 1, 1) := by decide +kernel
theorem dL_law_374 : decode cL_law 374 = .ok (.iadd, 1) := by decide +kernel
theorem dL_law_375 : decode cL_law 375 = .ok (.iaload, 1) := by decide +kernel
theorem dL_law_376 : decode cL_law 376 = .ok (.aload_n 0, 1) := by decide +kernel
theorem dL_law_377 : decode cL_law 377 = .ok (.iload_n 3, 1) := by decide +kernel
theorem dL_law_378 : decode cL_law 378 = .ok (.iconst 2, 1) := by decide +kernel
theorem dL_law_379 : decode cL_law 379 = .ok (.iadd, 1) := by decide +kernel
theorem dL_law_380 : decode cL_law 380 = .ok (.iaload, 1) := by decide +kernel
theorem dL_law_381 : decode cL_law 381 = .ok (.invokevirtual 44, 3) := by decide +kernel
theorem dL_law_384 : decode cL_law 384 = .ok (.if_icmp .eq 909, 3) := by decide +kernel
theorem dL_law_387 : decode cL_law 387 = .ok (.iconst 0, 1) := by decide +kernel
theorem dL_law_388 : decode cL_law 388 = .ok (.ireturn, 1) := by decide +kernel
theorem dL_law_389 : decode cL_law 389 = .ok (.aload_n 1, 1) := by decide +kernel
theorem dL_law_390 : decode cL_law 390 = .ok (.aload_n 0, 1) := by decide +kernel
theorem dL_law_391 : decode cL_law 391 = .ok (.iload_n 3, 1) := by decide +kernel
theorem dL_law_392 : decode cL_law 392 = .ok (.iconst 1, 1) := by decide +kernel
theorem dL_law_393 : decode cL_law 393 = .ok (.iadd, 1) := by decide +kernel
theorem dL_law_394 : decode cL_law 394 = .ok (.iaload, 1) := by decide +kernel
theorem dL_law_395 : decode cL_law 395 = .ok (.aload_n 0, 1) := by decide +kernel
theorem dL_law_396 : decode cL_law 396 = .ok (.iload_n 3, 1) := by decide +kernel
theorem dL_law_397 : decode cL_law 397 = .ok (.iconst 2, 1) := by decide +kernel
theorem dL_law_398 : decode cL_law 398 = .ok (.iadd, 1) := by decide +kernel
theorem dL_law_399 : decode cL_law 399 = .ok (.iaload, 1) := by decide +kernel
theorem dL_law_400 : decode cL_law 400 = .ok (.invokevirtual 45, 3) := by decide +kernel
theorem dL_law_403 : decode cL_law 403 = .ok (.aload_n 2, 1) := by decide +kernel
theorem dL_law_404 : decode cL_law 404 = .ok (.aload_n 0, 1) := by decide +kernel
theorem dL_law_405 : decode cL_law 405 = .ok (.iload_n 3, 1) := by decide +kernel
theorem dL_law_406 : decode cL_law 406 = .ok (.iconst 1, 1) := by decide +kernel
theorem dL_law_407 : decode cL_law 407 = .ok (.iadd, 1) := by decide +kernel
theorem dL_law_408 : decode cL_law 408 = .ok (.iaload, 1) := by decide +kernel
theorem dL_law_409 : decode cL_law 409 = .ok (.aload_n 0, 1) := by decide +kernel
theorem dL_law_410 : decode cL_law 410 = .ok (.iload_n 3, 1) := by decide +kernel
theorem dL_law_411 : decode cL_law 411 = .ok (.iconst 2, 1) := by decide +kernel
theorem dL_law_412 : decode cL_law 412 = .ok (.iadd, 1) := by decide +kernel
theorem dL_law_413 : decode cL_law 413 = .ok (.iaload, 1) := by decide +kernel
theorem dL_law_414 : decode cL_law 414 = .ok (.invokevirtual 48, 3) := by decide +kernel
theorem dL_law_417 : decode cL_law 417 = .ok (.if_icmp .eq 876, 3) := by decide +kernel
theorem dL_law_420 : decode cL_law 420 = .ok (.iconst 0, 1) := by decide +kernel
theorem dL_law_421 : decode cL_law 421 = .ok (.ireturn, 1) := by decide +kernel
theorem dL_law_422 : decode cL_law 422 = .ok (.aload_n 1, 1) := by decide +kernel
theorem dL_law_423 : decode cL_law 423 = .ok (.aload_n 0, 1) := by decide +kernel
theorem dL_law_424 : decode cL_law 424 = .ok (.iload_n 3, 1) := by decide +kernel
theorem dL_law_425 : decode cL_law 425 = .ok (.iconst 1, 1) := by decide +kernel
theorem dL_law_426 : decode cL_law 426 = .ok (.iadd, 1) := by decide +kernel
theorem dL_law_427 : decode cL_law 427 = .ok (.iaload, 1) := by decide +kernel
theorem dL_law_428 : decode cL_law 428 = .ok (.invokevirtual 49, 3) := by decide +kernel
theorem dL_law_431 : decode cL_law 431 = .ok (.aload_n 2, 1) := by decide +kernel
theorem dL_law_432 : decode cL_law 432 = .ok (.aload_n 0, 1) := by decide +kernel
theorem dL_law_433 : decode cL_law 433 = .ok (.iload_n 3, 1) := by decide +kernel
theorem dL_law_434 : decode cL_law 434 = .ok (.iconst 1, 1) := by decide +kernel
theorem dL_law_435 : decode cL_law 435 = .ok (.iadd, 1) := by decide +kernel
theorem dL_law_436 : decode cL_law 436 = .ok (.iaload, 1) := by decide +kernel
theorem dL_law_437 : decode cL_law 437 = .ok (.invokevirtual 52, 3) := by decide +kernel
theorem dL_law_440 : decode cL_law 440 = .ok (.if_icmp .eq 853, 3) := by decide +kernel
theorem dL_law_443 : decode cL_law 443 = .ok (.iconst 0, 1) := by decide +kernel
theorem dL_law_444 : decode cL_law 444 = .ok (.ireturn, 1) := by decide +kernel
theorem dL_law_445 : decode cL_law 445 = .ok (.aload_n 1, 1) := by decide +kernel
theorem dL_law_446 : decode cL_law 446 = .ok (.invokevirtual 53, 3) := by decide +kernel
theorem dL_law_449 : decode cL_law 449 = .ok (.aload_n 2, 1) := by decide +kernel
theorem dL_law_450 : decode cL_law 450 = .ok (.invokevirtual 56, 3) := by decide +kernel
theorem dL_law_453 : decode cL_law 453 = .ok (.if_icmp .eq 840, 3) := by decide +kernel
theorem dL_law_456 : decode cL_law 456 = .ok (.iconst 0, 1) := by decide +kernel
theorem dL_law_457 : decode cL_law 457 = .ok (.ireturn, 1) := by decide +kernel
theorem dL_law_458 : decode cL_law 458 = .ok (.aload_n 1, 1) := by decide +kernel
theorem dL_law_459 : decode cL_law 459 = .ok (.aload_n 0, 1) := by decide +kernel
theorem dL_law_460 : decode cL_law 460 = .ok (.iload_n 3, 1) := by decide +kernel
theorem dL_law_461 : decode cL_law 461 = .ok (.iconst 1, 1) := by decide +kernel
theorem dL_law_462 : decode cL_law 462 = .ok (.iadd, 1) := by decide +kernel
theorem dL_law_463 : decode cL_law 463 = .ok (.iaload, 1) := by decide +kernel
theorem dL_law_464 : decode cL_law 464 = .ok (.aload_n 0, 1) := by decide +kernel
theorem dL_law_465 : decode cL_law 465 = .ok (.iload_n 3, 1) := by decide +kernel
theorem dL_law_466 : decode cL_law 466 = .ok (.iconst 2, 1) := by decide +kernel
theorem dL_law_467 : decode cL_law 467 = .ok (.iadd, 1) := by decide +kernel
theorem dL_law_468 : decode cL_law 468 = .ok (.iaload, 1) := by decide +kernel
theorem dL_law_469 : decode cL_law 469 = .ok (.invokevirtual 57, 3) := by decide +kernel
theorem dL_law_472 : decode cL_law 472 = .ok (.aload_n 2, 1) := by decide +kernel
theorem dL_law_473 : decode cL_law 473 = .ok (.aload_n 0, 1) := by decide +kernel
theorem dL_law_474 : decode cL_law 474 = .ok (.iload_n 3, 1) := by decide +kernel
theorem dL_law_475 : decode cL_law 475 = .ok (.iconst 1, 1) := by decide +kernel
theorem dL_law_476 : decode cL_law 476 = .ok (.iadd, 1) := by decide +kernel
theorem dL_law_477 : decode cL_law 477 = .ok (.iaload, 1) := by decide +kernel
theorem dL_law_478 : decode cL_law 478 = .ok (.aload_n 0, 1) := by decide +kernel
theorem dL_law_479 : decode cL_law 479 = .ok (.iload_n 3, 1) := by decide +kernel
theorem dL_law_480 : decode cL_law 480 = .ok (.iconst 2, 1) := by decide +kernel
theorem dL_law_481 : decode cL_law 481 = .ok (.iadd, 1) := by decide +kernel
theorem dL_law_482 : decode cL_law 482 = .ok (.iaload, 1) := by decide +kernel
theorem dL_law_483 : decode cL_law 483 = .ok (.invokevirtual 60, 3) := by decide +kernel
theorem dL_law_486 : decode cL_law 486 = .ok (.if_icmp .eq 807, 3) := by decide +kernel
theorem dL_law_489 : decode cL_law 489 = .ok (.iconst 0, 1) := by decide +kernel
theorem dL_law_490 : decode cL_law 490 = .ok (.ireturn, 1) := by decide +kernel
theorem dL_law_491 : decode cL_law 491 = .ok (.aload_n 1, 1) := by decide +kernel
theorem dL_law_492 : decode cL_law 492 = .ok (.aload_n 0, 1) := by decide +kernel
theorem dL_law_493 : decode cL_law 493 = .ok (.iload_n 3, 1) := by decide +kernel
theorem dL_law_494 : decode cL_law 494 = .ok (.iconst 1, 1) := by decide +kernel
theorem dL_law_495 : decode cL_law 495 = .ok (.iadd, 1) := by decide +kernel
theorem dL_law_496 : decode cL_law 496 = .ok (.iaload, 1) := by decide +kernel
theorem dL_law_497 : decode cL_law 497 = .ok (.aload_n 0, 1) := by decide +kernel
theorem dL_law_498 : decode cL_law 498 = .ok (.iload_n 3, 1) := by decide +kernel
theorem dL_law_499 : decode cL_law 499 = .ok (.iconst 2, 1) := by decide +kernel
theorem dL_law_500 : decode cL_law 500 = .ok (.iadd, 1) := by decide +kernel
theorem dL_law_501 : decode cL_law 501 = .ok (.iaload, 1) := by decide +kernel
theorem dL_law_502 : decode cL_law 502 = .ok (.invokevirtual 61, 3) := by decide +kernel
theorem dL_law_505 : decode cL_law 505 = .ok (.aload_n 2, 1) := by decide +kernel
theorem dL_law_506 : decode cL_law 506 = .ok (.aload_n 0, 1) := by decide +kernel
theorem dL_law_507 : decode cL_law 507 = .ok (.iload_n 3, 1) := by decide +kernel
theorem dL_law_508 : decode cL_law 508 = .ok (.iconst 1, 1) := by decide +kernel
theorem dL_law_509 : decode cL_law 509 = .ok (.iadd, 1) := by decide +kernel
theorem dL_law_510 : decode cL_law 510 = .ok (.iaload, 1) := by decide +kernel
theorem dL_law_511 : decode cL_law 511 = .ok (.aload_n 0, 1) := by decide +kernel
theorem dL_law_512 : decode cL_law 512 = .ok (.iload_n 3, 1) := by decide +kernel
theorem dL_law_513 : decode cL_law 513 = .ok (.iconst 2, 1) := by decide +kernel
theorem dL_law_514 : decode cL_law 514 = .ok (.iadd, 1) := by decide +kernel
theorem dL_law_515 : decode cL_law 515 = .ok (.iaload, 1) := by decide +kernel
theorem dL_law_516 : decode cL_law 516 = .ok (.invokevirtual 64, 3) := by decide +kernel
theorem dL_law_519 : decode cL_law 519 = .ok (.if_icmp .eq 774, 3) := by decide +kernel
theorem dL_law_522 : decode cL_law 522 = .ok (.iconst 0, 1) := by decide +kernel
theorem dL_law_523 : decode cL_law 523 = .ok (.ireturn, 1) := by decide +kernel
theorem dL_law_524 : decode cL_law 524 = .ok (.aload_n 1, 1) := by decide +kernel
theorem dL_law_525 : decode cL_law 525 = .ok (.aload_n 0, 1) := by decide +kernel
theorem dL_law_526 : decode cL_law 526 = .ok (.iload_n 3, 1) := by decide +kernel
theorem dL_law_527 : decode cL_law 527 = .ok (.iconst 1, 1) := by decide +kernel
theorem dL_law_528 : decode cL_law 528 = .ok (.iadd, 1) := by decide +kernel
theorem dL_law_529 : decode cL_law 529 = .ok (.iaload, 1) := by decide +kernel
theorem dL_law_530 : decode cL_law 530 = .ok (.aload_n 0, 1) := by decide +kernel
theorem dL_law_531 : decode cL_law 531 = .ok (.iload_n 3, 1) := by decide +kernel
theorem dL_law_532 : decode cL_law 532 = .ok (.iconst 2, 1) := by decide +kernel
theorem dL_law_533 : decode cL_law 533 = .ok (.iadd, 1) := by decide +kernel
theorem dL_law_534 : decode cL_law 534 = .ok (.iaload, 1) := by decide +kernel
theorem dL_law_535 : decode cL_law 535 = .ok (.invokevirtual 65, 3) := by decide +kernel
theorem dL_law_538 : decode cL_law 538 = .ok (.aload_n 2, 1) := by decide +kernel
theorem dL_law_539 : decode cL_law 539 = .ok (.aload_n 0, 1) := by decide +kernel
theorem dL_law_540 : decode cL_law 540 = .ok (.iload_n 3, 1) := by decide +kernel
theorem dL_law_541 : decode cL_law 541 = .ok (.iconst 1, 1) := by decide +kernel
theorem dL_law_542 : decode cL_law 542 = .ok (.iadd, 1) := by decide +kernel
theorem dL_law_543 : decode cL_law 543 = .ok (.iaload, 1) := by decide +kernel
theorem dL_law_544 : decode cL_law 544 = .ok (.aload_n 0, 1) := by decide +kernel
theorem dL_law_545 : decode cL_law 545 = .ok (.iload_n 3, 1) := by decide +kernel
theorem dL_law_546 : decode cL_law 546 = .ok (.iconst 2, 1) := by decide +kernel
theorem dL_law_547 : decode cL_law 547 = .ok (.iadd, 1) := by decide +kernel
theorem dL_law_548 : decode cL_law 548 = .ok (.iaload, 1) := by decide +kernel
theorem dL_law_549 : decode cL_law 549 = .ok (.invokevirtual 68, 3) := by decide +kernel
theorem dL_law_552 : decode cL_law 552 = .ok (.if_icmp .eq 741, 3) := by decide +kernel
theorem dL_law_555 : decode cL_law 555 = .ok (.iconst 0, 1) := by decide +kernel
theorem dL_law_556 : decode cL_law 556 = .ok (.ireturn, 1) := by decide +kernel
theorem dL_law_557 : decode cL_law 557 = .ok (.aload_n 1, 1) := by decide +kernel
theorem dL_law_558 : decode cL_law 558 = .ok (.aload_n 0, 1) := by decide +kernel
theorem dL_law_559 : decode cL_law 559 = .ok (.iload_n 3, 1) := by decide +kernel
theorem dL_law_560 : decode cL_law 560 = .ok (.iconst 1, 1) := by decide +kernel
theorem dL_law_561 : decode cL_law 561 = .ok (.iadd, 1) := by decide +kernel
theorem dL_law_562 : decode cL_law 562 = .ok (.iaload, 1) := by decide +kernel
theorem dL_law_563 : decode cL_law 563 = .ok (.invokevirtual 69, 3) := by decide +kernel
theorem dL_law_566 : decode cL_law 566 = .ok (.aload_n 2, 1) := by decide +kernel
theorem dL_law_567 : decode cL_law 567 = .ok (.aload_n 0, 1) := by decide +kernel
theorem dL_law_568 : decode cL_law 568 = .ok (.iload_n 3, 1) := by decide +kernel
theorem dL_law_569 : decode cL_law 569 = .ok (.iconst 1, 1) := by decide +kernel
theorem dL_law_570 : decode cL_law 570 = .ok (.iadd, 1) := by decide +kernel
theorem dL_law_571 : decode cL_law 571 = .ok (.iaload, 1) := by decide +kernel
theorem dL_law_572 : decode cL_law 572 = .ok (.invokevirtual 72, 3) := by decide +kernel
theorem dL_law_575 : decode cL_law 575 = .ok (.if_icmp .eq 718, 3) := by decide +kernel
theorem dL_law_578 : decode cL_law 578 = .ok (.iconst 0, 1) := by decide +kernel
theorem dL_law_579 : decode cL_law 579 = .ok (.ireturn, 1) := by decide +kernel
theorem dL_law_580 : decode cL_law 580 = .ok (.aload_n 1, 1) := by decide +kernel
theorem dL_law_581 : decode cL_law 581 = .ok (.invokevirtual 73, 3) := by decide +kernel
theorem dL_law_584 : decode cL_law 584 = .ok (.aload_n 2, 1) := by decide +kernel
theorem dL_law_585 : decode cL_law 585 = .ok (.invokevirtual 76, 3) := by decide +kernel
theorem dL_law_588 : decode cL_law 588 = .ok (.if_icmp .eq 705, 3) := by decide +kernel
theorem dL_law_591 : decode cL_law 591 = .ok (.iconst 0, 1) := by decide +kernel
theorem dL_law_592 : decode cL_law 592 = .ok (.ireturn, 1) := by decide +kernel
theorem dL_law_593 : decode cL_law 593 = .ok (.aload_n 1, 1) := by decide +kernel
theorem dL_law_594 : decode cL_law 594 = .ok (.aload_n 0, 1) := by decide +kernel
theorem dL_law_595 : decode cL_law 595 = .ok (.iload_n 3, 1) := by decide +kernel
theorem dL_law_596 : decode cL_law 596 = .ok (.iconst 1, 1) := by decide +kernel
theorem dL_law_597 : decode cL_law 597 = .ok (.iadd, 1) := by decide +kernel
theorem dL_law_598 : decode cL_law 598 = .ok (.iaload, 1) := by decide +kernel
theorem dL_law_599 : decode cL_law 599 = .ok (.aload_n 0, 1) := by decide +kernel
theorem dL_law_600 : decode cL_law 600 = .ok (.iload_n 3, 1) := by decide +kernel
theorem dL_law_601 : decode cL_law 601 = .ok (.iconst 2, 1) := by decide +kernel
theorem dL_law_602 : decode cL_law 602 = .ok (.iadd, 1) := by decide +kernel
theorem dL_law_603 : decode cL_law 603 = .ok (.iaload, 1) := by decide +kernel
theorem dL_law_604 : decode cL_law 604 = .ok (.aload_n 0, 1) := by decide +kernel
theorem dL_law_605 : decode cL_law 605 = .ok (.iload_n 3, 1) := by decide +kernel
theorem dL_law_606 : decode cL_law 606 = .ok (.iconst 3, 1) := by decide +kernel
theorem dL_law_607 : decode cL_law 607 = .ok (.iadd, 1) := by decide +kernel
theorem dL_law_608 : decode cL_law 608 = .ok (.iaload, 1) := by decide +kernel
theorem dL_law_609 : decode cL_law 609 = .ok (.invokevirtual 77, 3) := by decide +kernel
theorem dL_law_612 : decode cL_law 612 = .ok (.aload_n 2, 1) := by decide +kernel
theorem dL_law_613 : decode cL_law 613 = .ok (.aload_n 0, 1) := by decide +kernel
theorem dL_law_614 : decode cL_law 614 = .ok (.iload_n 3, 1) := by decide +kernel
theorem dL_law_615 : decode cL_law 615 = .ok (.iconst 1, 1) := by decide +kernel
theorem dL_law_616 : decode cL_law 616 = .ok (.iadd, 1) := by decide +kernel
theorem dL_law_617 : decode cL_law 617 = .ok (.iaload, 1) := by decide +kernel
theorem dL_law_618 : decode cL_law 618 = .ok (.aload_n 0, 1) := by decide +kernel
theorem dL_law_619 : decode cL_law 619 = .ok (.iload_n 3, 1) := by decide +kernel
theorem dL_law_620 : decode cL_law 620 = .ok (.iconst 2, 1) := by decide +kernel
theorem dL_law_621 : decode cL_law 621 = .ok (.iadd, 1) := by decide +kernel
theorem dL_law_622 : decode cL_law 622 = .ok (.iaload, 1) := by decide +kernel
theorem dL_law_623 : decode cL_law 623 = .ok (.aload_n 0, 1) := by decide +kernel
theorem dL_law_624 : decode cL_law 624 = .ok (.iload_n 3, 1) := by decide +kernel
theorem dL_law_625 : decode cL_law 625 = .ok (.iconst 3, 1) := by decide +kernel
theorem dL_law_626 : decode cL_law 626 = .ok (.iadd, 1) := by decide +kernel
theorem dL_law_627 : decode cL_law 627 = .ok (.iaload, 1) := by decide +kernel
theorem dL_law_628 : decode cL_law 628 = .ok (.invokevirtual 81, 3) := by decide +kernel
theorem dL_law_631 : decode cL_law 631 = .ok (.if_icmp .eq 662, 3) := by decide +kernel
theorem dL_law_634 : decode cL_law 634 = .ok (.iconst 0, 1) := by decide +kernel
theorem dL_law_635 : decode cL_law 635 = .ok (.ireturn, 1) := by decide +kernel
theorem dL_law_636 : decode cL_law 636 = .ok (.aload_n 1, 1) := by decide +kernel
theorem dL_law_637 : decode cL_law 637 = .ok (.aload_n 0, 1) := by decide +kernel
theorem dL_law_638 : decode cL_law 638 = .ok (.iload_n 3, 1) := by decide +kernel
theorem dL_law_639 : decode cL_law 639 = .ok (.iconst 1, 1) := by decide +kernel
theorem dL_law_640 : decode cL_law 640 = .ok (.iadd, 1) := by decide +kernel
theorem dL_law_641 : decode cL_law 641 = .ok (.iaload, 1) := by decide +kernel
theorem dL_law_642 : decode cL_law 642 = .ok (.invokevirtual 82, 3) := by decide +kernel
theorem dL_law_645 : decode cL_law 645 = .ok (.aload_n 2, 1) := by decide +kernel
theorem dL_law_646 : decode cL_law 646 = .ok (.aload_n 0, 1) := by decide +kernel
theorem dL_law_647 : decode cL_law 647 = .ok (.iload_n 3, 1) := by decide +kernel
theorem dL_law_648 : decode cL_law 648 = .ok (.iconst 1, 1) := by decide +kernel
theorem dL_law_649 : decode cL_law 649 = .ok (.iadd, 1) := by decide +kernel
theorem dL_law_650 : decode cL_law 650 = .ok (.iaload, 1) := by decide +kernel
theorem dL_law_651 : decode cL_law 651 = .ok (.invokevirtual 85, 3) := by decide +kernel
theorem dL_law_654 : decode cL_law 654 = .ok (.if_icmp .eq 639, 3) := by decide +kernel
theorem dL_law_657 : decode cL_law 657 = .ok (.iconst 0, 1) := by decide +kernel
theorem dL_law_658 : decode cL_law 658 = .ok (.ireturn, 1) := by decide +kernel
theorem dL_law_659 : decode cL_law 659 = .ok (.aload_n 1, 1) := by decide +kernel
theorem dL_law_660 : decode cL_law 660 = .ok (.aload_n 0, 1) := by decide +kernel
theorem dL_law_661 : decode cL_law 661 = .ok (.iload_n 3, 1) := by decide +kernel
theorem dL_law_662 : decode cL_law 662 = .ok (.iconst 1, 1) := by decide +kernel
theorem dL_law_663 : decode cL_law 663 = .ok (.iadd, 1) := by decide +kernel
theorem dL_law_664 : decode cL_law 664 = .ok (.iaload, 1) := by decide +kernel
theorem dL_law_665 : decode cL_law 665 = .ok (.invokevirtual 86, 3) := by decide +kernel
theorem dL_law_668 : decode cL_law 668 = .ok (.aload_n 2, 1) := by decide +kernel
theorem dL_law_669 : decode cL_law 669 = .ok (.aload_n 0, 1) := by decide +kernel
theorem dL_law_670 : decode cL_law 670 = .ok (.iload_n 3, 1) := by decide +kernel
theorem dL_law_671 : decode cL_law 671 = .ok (.iconst 1, 1) := by decide +kernel
theorem dL_law_672 : decode cL_law 672 = .ok (.iadd, 1) := by decide +kernel
theorem dL_law_673 : decode cL_law 673 = .ok (.iaload, 1) := by decide +kernel
theorem dL_law_674 : decode cL_law 674 = .ok (.invokevirtual 89, 3) := by decide +kernel
theorem dL_law_677 : decode cL_law 677 = .ok (.if_icmp .eq 616, 3) := by decide +kernel
theorem dL_law_680 : decode cL_law 680 = .ok (.iconst 0, 1) := by decide +kernel
theorem dL_law_681 : decode cL_law 681 = .ok (.ireturn, 1) := by decide +kernel
theorem dL_law_682 : decode cL_law 682 = .ok (.aload_n 1, 1) := by decide +kernel
theorem dL_law_683 : decode cL_law 683 = .ok (.aload_n 0, 1) := by decide +kernel
theorem dL_law_684 : decode cL_law 684 = .ok (.iload_n 3, 1) := by decide +kernel
theorem dL_law_685 : decode cL_law 685 = .ok (.iconst 1, 1) := by decide +kernel
theorem dL_law_686 : decode cL_law 686 = .ok (.iadd, 1) := by decide +kernel
theorem dL_law_687 : decode cL_law 687 = .ok (.iaload, 1) := by decide +kernel
theorem dL_law_688 : decode cL_law 688 = .ok (.aload_n 0, 1) := by decide +kernel
theorem dL_law_689 : decode cL_law 689 = .ok (.iload_n 3, 1) := by decide +kernel
theorem dL_law_690 : decode cL_law 690 = .ok (.iconst 2, 1) := by decide +kernel
theorem dL_law_691 : decode cL_law 691 = .ok (.iadd, 1) := by decide +kernel
theorem dL_law_692 : decode cL_law 692 = .ok (.iaload, 1) := by decide +kernel
theorem dL_law_693 : decode cL_law 693 = .ok (.aload_n 0, 1) := by decide +kernel
theorem dL_law_694 : decode cL_law 694 = .ok (.iload_n 3, 1) := by decide +kernel
theorem dL_law_695 : decode cL_law 695 = .ok (.iconst 3, 1) := by decide +kernel
theorem dL_law_696 : decode cL_law 696 = .ok (.iadd, 1) := by decide +kernel
theorem dL_law_697 : decode cL_law 697 = .ok (.iaload, 1) := by decide +kernel
theorem dL_law_698 : decode cL_law 698 = .ok (.invokevirtual 90, 3) := by decide +kernel
theorem dL_law_701 : decode cL_law 701 = .ok (.aload_n 2, 1) := by decide +kernel
theorem dL_law_702 : decode cL_law 702 = .ok (.aload_n 0, 1) := by decide +kernel
theorem dL_law_703 : decode cL_law 703 = .ok (.iload_n 3, 1) := by decide +kernel
theorem dL_law_704 : decode cL_law 704 = .ok (.iconst 1, 1) := by decide +kernel
theorem dL_law_705 : decode cL_law 705 = .ok (.iadd, 1) := by decide +kernel
theorem dL_law_706 : decode cL_law 706 = .ok (.iaload, 1) := by decide +kernel
theorem dL_law_707 : decode cL_law 707 = .ok (.aload_n 0, 1) := by decide +kernel
theorem dL_law_708 : decode cL_law 708 = .ok (.iload_n 3, 1) := by decide +kernel
theorem dL_law_709 : decode cL_law 709 = .ok (.iconst 2, 1) := by decide +kernel
theorem dL_law_710 : decode cL_law 710 = .ok (.iadd, 1) := by decide +kernel
theorem dL_law_711 : decode cL_law 711 = .ok (.iaload, 1) := by decide +kernel
theorem dL_law_712 : decode cL_law 712 = .ok (.aload_n 0, 1) := by decide +kernel
theorem dL_law_713 : decode cL_law 713 = .ok (.iload_n 3, 1) := by decide +kernel
theorem dL_law_714 : decode cL_law 714 = .ok (.iconst 3, 1) := by decide +kernel
theorem dL_law_715 : decode cL_law 715 = .ok (.iadd, 1) := by decide +kernel
theorem dL_law_716 : decode cL_law 716 = .ok (.iaload, 1) := by decide +kernel
theorem dL_law_717 : decode cL_law 717 = .ok (.invokevirtual 93, 3) := by decide +kernel
theorem dL_law_720 : decode cL_law 720 = .ok (.if_icmp .eq 573, 3) := by decide +kernel
theorem dL_law_723 : decode cL_law 723 = .ok (.iconst 0, 1) := by decide +kernel
theorem dL_law_724 : decode cL_law 724 = .ok (.ireturn, 1) := by decide +kernel
theorem dL_law_725 : decode cL_law 725 = .ok (.aload_n 1, 1) := by decide +kernel
theorem dL_law_726 : decode cL_law 726 = .ok (.aload_n 0, 1) := by decide +kernel
theorem dL_law_727 : decode cL_law 727 = .ok (.iload_n 3, 1) := by decide +kernel
theorem dL_law_728 : decode cL_law 728 = .ok (.iconst 1, 1) := by decide +kernel
theorem dL_law_729 : decode cL_law 729 = .ok (.iadd, 1) := by decide +kernel
theorem dL_law_730 : decode cL_law 730 = .ok (.iaload, 1) := by decide +kernel
theorem dL_law_731 : decode cL_law 731 = .ok (.aload_n 0, 1) := by decide +kernel
theorem dL_law_732 : decode cL_law 732 = .ok (.iload_n 3, 1) := by decide +kernel
theorem dL_law_733 : decode cL_law 733 = .ok (.iconst 2, 1) := by decide +kernel
theorem dL_law_734 : decode cL_law 734 = .ok (.iadd, 1) := by decide +kernel
theorem dL_law_735 : decode cL_law 735 = .ok (.iaload, 1) := by decide +kernel
theorem dL_law_736 : decode cL_law 736 = .ok (.aload_n 0, 1) := by decide +kernel
theorem dL_law_737 : decode cL_law 737 = .ok (.iload_n 3, 1) := by decide +kernel
theorem dL_law_738 : decode cL_law 738 = .ok (.iconst 3, 1) := by decide +kernel
theorem dL_law_739 : decode cL_law 739 = .ok (.iadd, 1) := by decide +kernel
theorem dL_law_740 : decode cL_law 740 = .ok (.iaload, 1) := by decide +kernel
theorem dL_law_741 : decode cL_law 741 = .ok (.invokevirtual 94, 3) := by decide +kernel
theorem dL_law_744 : decode cL_law 744 = .ok (.aload_n 2, 1) := by decide +kernel
theorem dL_law_745 : decode cL_law 745 = .ok (.aload_n 0, 1) := by decide +kernel
theorem dL_law_746 : decode cL_law 746 = .ok (.iload_n 3, 1) := by decide +kernel
theorem dL_law_747 : decode cL_law 747 = .ok (.iconst 1, 1) := by decide +kernel
theorem dL_law_748 : decode cL_law 748 = .ok (.iadd, 1) := by decide +kernel
theorem dL_law_749 : decode cL_law 749 = .ok (.iaload, 1) := by decide +kernel
theorem dL_law_750 : decode cL_law 750 = .ok (.aload_n 0, 1) := by decide +kernel
theorem dL_law_751 : decode cL_law 751 = .ok (.iload_n 3, 1) := by decide +kernel
theorem dL_law_752 : decode cL_law 752 = .ok (.iconst 2, 1) := by decide +kernel
theorem dL_law_753 : decode cL_law 753 = .ok (.iadd, 1) := by decide +kernel
theorem dL_law_754 : decode cL_law 754 = .ok (.iaload, 1) := by decide +kernel
theorem dL_law_755 : decode cL_law 755 = .ok (.aload_n 0, 1) := by decide +kernel
theorem dL_law_756 : decode cL_law 756 = .ok (.iload_n 3, 1) := by decide +kernel
theorem dL_law_757 : decode cL_law 757 = .ok (.iconst 3, 1) := by decide +kernel
theorem dL_law_758 : decode cL_law 758 = .ok (.iadd, 1) := by decide +kernel
theorem dL_law_759 : decode cL_law 759 = .ok (.iaload, 1) := by decide +kernel
theorem dL_law_760 : decode cL_law 760 = .ok (.invokevirtual 97, 3) := by decide +kernel
theorem dL_law_763 : decode cL_law 763 = .ok (.if_icmp .eq 530, 3) := by decide +kernel
theorem dL_law_766 : decode cL_law 766 = .ok (.iconst 0, 1) := by decide +kernel
theorem dL_law_767 : decode cL_law 767 = .ok (.ireturn, 1) := by decide +kernel
theorem dL_law_768 : decode cL_law 768 = .ok (.aload_n 1, 1) := by decide +kernel
theorem dL_law_769 : decode cL_law 769 = .ok (.aload_n 0, 1) := by decide +kernel
theorem dL_law_770 : decode cL_law 770 = .ok (.iload_n 3, 1) := by decide +kernel
theorem dL_law_771 : decode cL_law 771 = .ok (.iconst 1, 1) := by decide +kernel
theorem dL_law_772 : decode cL_law 772 = .ok (.iadd, 1) := by decide +kernel
theorem dL_law_773 : decode cL_law 773 = .ok (.iaload, 1) := by decide +kernel
theorem dL_law_774 : decode cL_law 774 = .ok (.aload_n 0, 1) := by decide +kernel
theorem dL_law_775 : decode cL_law 775 = .ok (.iload_n 3, 1) := by decide +kernel
theorem dL_law_776 : decode cL_law 776 = .ok (.iconst 2, 1) := by decide +kernel
theorem dL_law_777 : decode cL_law 777 = .ok (.iadd, 1) := by decide +kernel
theorem dL_law_778 : decode cL_law 778 = .ok (.iaload, 1) := by decide +kernel
theorem dL_law_779 : decode cL_law 779 = .ok (.aload_n 0, 1) := by decide +kernel
theorem dL_law_780 : decode cL_law 780 = .ok (.iload_n 3, 1) := by decide +kernel
theorem dL_law_781 : decode cL_law 781 = .ok (.iconst 3, 1) := by decide +kernel
theorem dL_law_782 : decode cL_law 782 = .ok (.iadd, 1) := by decide +kernel
theorem dL_law_783 : decode cL_law 783 = .ok (.iaload, 1) := by decide +kernel
theorem dL_law_784 : decode cL_law 784 = .ok (.aload_n 0, 1) := by decide +kernel
theorem dL_law_785 : decode cL_law 785 = .ok (.iload_n 3, 1) := by decide +kernel
theorem dL_law_786 : decode cL_law 786 = .ok (.iconst 4, 1) := by decide +kernel
theorem dL_law_787 : decode cL_law 787 = .ok (.iadd, 1) := by decide +kernel
theorem dL_law_788 : decode cL_law 788 = .ok (.iaload, 1) := by decide +kernel
theorem dL_law_789 : decode cL_law 789 = .ok (.invokevirtual 98, 3) := by decide +kernel
theorem dL_law_792 : decode cL_law 792 = .ok (.aload_n 2, 1) := by decide +kernel
theorem dL_law_793 : decode cL_law 793 = .ok (.aload_n 0, 1) := by decide +kernel
theorem dL_law_794 : decode cL_law 794 = .ok (.iload_n 3, 1) := by decide +kernel
theorem dL_law_795 : decode cL_law 795 = .ok (.iconst 1, 1) := by decide +kernel
theorem dL_law_796 : decode cL_law 796 = .ok (.iadd, 1) := by decide +kernel
theorem dL_law_797 : decode cL_law 797 = .ok (.iaload, 1) := by decide +kernel
theorem dL_law_798 : decode cL_law 798 = .ok (.aload_n 0, 1) := by decide +kernel
theorem dL_law_799 : decode cL_law 799 = .ok (.iload_n 3, 1) := by decide +kernel
theorem dL_law_800 : decode cL_law 800 = .ok (.iconst 2, 1) := by decide +kernel
theorem dL_law_801 : decode cL_law 801 = .ok (.iadd, 1) := by decide +kernel
theorem dL_law_802 : decode cL_law 802 = .ok (.iaload, 1) := by decide +kernel
theorem dL_law_803 : decode cL_law 803 = .ok (.aload_n 0, 1) := by decide +kernel
theorem dL_law_804 : decode cL_law 804 = .ok (.iload_n 3, 1) := by decide +kernel
theorem dL_law_805 : decode cL_law 805 = .ok (.iconst 3, 1) := by decide +kernel
theorem dL_law_806 : decode cL_law 806 = .ok (.iadd, 1) := by decide +kernel
theorem dL_law_807 : decode cL_law 807 = .ok (.iaload, 1) := by decide +kernel
theorem dL_law_808 : decode cL_law 808 = .ok (.aload_n 0, 1) := by decide +kernel
theorem dL_law_809 : decode cL_law 809 = .ok (.iload_n 3, 1) := by decide +kernel
theorem dL_law_810 : decode cL_law 810 = .ok (.iconst 4, 1) := by decide +kernel
theorem dL_law_811 : decode cL_law 811 = .ok (.iadd, 1) := by decide +kernel
theorem dL_law_812 : decode cL_law 812 = .ok (.iaload, 1) := by decide +kernel
theorem dL_law_813 : decode cL_law 813 = .ok (.invokevirtual 102, 3) := by decide +kernel
theorem dL_law_816 : decode cL_law 816 = .ok (.if_icmp .eq 477, 3) := by decide +kernel
theorem dL_law_819 : decode cL_law 819 = .ok (.iconst 0, 1) := by decide +kernel
theorem dL_law_820 : decode cL_law 820 = .ok (.ireturn, 1) := by decide +kernel
theorem dL_law_821 : decode cL_law 821 = .ok (.aload_n 1, 1) := by decide +kernel
theorem dL_law_822 : decode cL_law 822 = .ok (.aload_n 0, 1) := by decide +kernel
theorem dL_law_823 : decode cL_law 823 = .ok (.iload_n 3, 1) := by decide +kernel
theorem dL_law_824 : decode cL_law 824 = .ok (.iconst 1, 1) := by decide +kernel
theorem dL_law_825 : decode cL_law 825 = .ok (.iadd, 1) := by decide +kernel
theorem dL_law_826 : decode cL_law 826 = .ok (.iaload, 1) := by decide +kernel
theorem dL_law_827 : decode cL_law 827 = .ok (.aload_n 0, 1) := by decide +kernel
theorem dL_law_828 : decode cL_law 828 = .ok (.iload_n 3, 1) := by decide +kernel
theorem dL_law_829 : decode cL_law 829 = .ok (.iconst 2, 1) := by decide +kernel
theorem dL_law_830 : decode cL_law 830 = .ok (.iadd, 1) := by decide +kernel
theorem dL_law_831 : decode cL_law 831 = .ok (.iaload, 1) := by decide +kernel
theorem dL_law_832 : decode cL_law 832 = .ok (.aload_n 0, 1) := by decide +kernel
theorem dL_law_833 : decode cL_law 833 = .ok (.iload_n 3, 1) := by decide +kernel
theorem dL_law_834 : decode cL_law 834 = .ok (.iconst 3, 1) := by decide +kernel
theorem dL_law_835 : decode cL_law 835 = .ok (.iadd, 1) := by decide +kernel
theorem dL_law_836 : decode cL_law 836 = .ok (.iaload, 1) := by decide +kernel
theorem dL_law_837 : decode cL_law 837 = .ok (.invokevirtual 103, 3) := by decide +kernel
theorem dL_law_840 : decode cL_law 840 = .ok (.aload_n 2, 1) := by decide +kernel
theorem dL_law_841 : decode cL_law 841 = .ok (.aload_n 0, 1) := by decide +kernel
theorem dL_law_842 : decode cL_law 842 = .ok (.iload_n 3, 1) := by decide +kernel
theorem dL_law_843 : decode cL_law 843 = .ok (.iconst 1, 1) := by decide +kernel
theorem dL_law_844 : decode cL_law 844 = .ok (.iadd, 1) := by decide +kernel
theorem dL_law_845 : decode cL_law 845 = .ok (.iaload, 1) := by decide +kernel
theorem dL_law_846 : decode cL_law 846 = .ok (.aload_n 0, 1) := by decide +kernel
theorem dL_law_847 : decode cL_law 847 = .ok (.iload_n 3, 1) := by decide +kernel
theorem dL_law_848 : decode cL_law 848 = .ok (.iconst 2, 1) := by decide +kernel
theorem dL_law_849 : decode cL_law 849 = .ok (.iadd, 1) := by decide +kernel
theorem dL_law_850 : decode cL_law 850 = .ok (.iaload, 1) := by decide +kernel
theorem dL_law_851 : decode cL_law 851 = .ok (.aload_n 0, 1) := by decide +kernel
theorem dL_law_852 : decode cL_law 852 = .ok (.iload_n 3, 1) := by decide +kernel
theorem dL_law_853 : decode cL_law 853 = .ok (.iconst 3, 1) := by decide +kernel
theorem dL_law_854 : decode cL_law 854 = .ok (.iadd, 1) := by decide +kernel
theorem dL_law_855 : decode cL_law 855 = .ok (.iaload, 1) := by decide +kernel
theorem dL_law_856 : decode cL_law 856 = .ok (.invokevirtual 106, 3) := by decide +kernel
theorem dL_law_859 : decode cL_law 859 = .ok (.if_icmp .eq 434, 3) := by decide +kernel
theorem dL_law_862 : decode cL_law 862 = .ok (.iconst 0, 1) := by decide +kernel
theorem dL_law_863 : decode cL_law 863 = .ok (.ireturn, 1) := by decide +kernel
theorem dL_law_864 : decode cL_law 864 = .ok (.aload_n 1, 1) := by decide +kernel
theorem dL_law_865 : decode cL_law 865 = .ok (.aload_n 0, 1) := by decide +kernel
theorem dL_law_866 : decode cL_law 866 = .ok (.iload_n 3, 1) := by decide +kernel
theorem dL_law_867 : decode cL_law 867 = .ok (.iconst 1, 1) := by decide +kernel
theorem dL_law_868 : decode cL_law 868 = .ok (.iadd, 1) := by decide +kernel
theorem dL_law_869 : decode cL_law 869 = .ok (.iaload, 1) := by decide +kernel
theorem dL_law_870 : decode cL_law 870 = .ok (.aload_n 0, 1) := by decide +kernel
theorem dL_law_871 : decode cL_law 871 = .ok (.iload_n 3, 1) := by decide +kernel
theorem dL_law_872 : decode cL_law 872 = .ok (.iconst 2, 1) := by decide +kernel
theorem dL_law_873 : decode cL_law 873 = .ok (.iadd, 1) := by decide +kernel
theorem dL_law_874 : decode cL_law 874 = .ok (.iaload, 1) := by decide +kernel
theorem dL_law_875 : decode cL_law 875 = .ok (.invokevirtual 107, 3) := by decide +kernel
theorem dL_law_878 : decode cL_law 878 = .ok (.aload_n 2, 1) := by decide +kernel
theorem dL_law_879 : decode cL_law 879 = .ok (.aload_n 0, 1) := by decide +kernel
theorem dL_law_880 : decode cL_law 880 = .ok (.iload_n 3, 1) := by decide +kernel
theorem dL_law_881 : decode cL_law 881 = .ok (.iconst 1, 1) := by decide +kernel
theorem dL_law_882 : decode cL_law 882 = .ok (.iadd, 1) := by decide +kernel
theorem dL_law_883 : decode cL_law 883 = .ok (.iaload, 1) := by decide +kernel
theorem dL_law_884 : decode cL_law 884 = .ok (.aload_n 0, 1) := by decide +kernel
theorem dL_law_885 : decode cL_law 885 = .ok (.iload_n 3, 1) := by decide +kernel
theorem dL_law_886 : decode cL_law 886 = .ok (.iconst 2, 1) := by decide +kernel
theorem dL_law_887 : decode cL_law 887 = .ok (.iadd, 1) := by decide +kernel
theorem dL_law_888 : decode cL_law 888 = .ok (.iaload, 1) := by decide +kernel
theorem dL_law_889 : decode cL_law 889 = .ok (.invokevirtual 110, 3) := by decide +kernel
theorem dL_law_892 : decode cL_law 892 = .ok (.if_icmp .eq 401, 3) := by decide +kernel
theorem dL_law_895 : decode cL_law 895 = .ok (.iconst 0, 1) := by decide +kernel
theorem dL_law_896 : decode cL_law 896 = .ok (.ireturn, 1) := by decide +kernel
theorem dL_law_897 : decode cL_law 897 = .ok (.aload_n 1, 1) := by decide +kernel
theorem dL_law_898 : decode cL_law 898 = .ok (.aload_n 0, 1) := by decide +kernel
theorem dL_law_899 : decode cL_law 899 = .ok (.iload_n 3, 1) := by decide +kernel
theorem dL_law_900 : decode cL_law 900 = .ok (.iconst 1, 1) := by decide +kernel
theorem dL_law_901 : decode cL_law 901 = .ok (.iadd, 1) := by decide +kernel
theorem dL_law_902 : decode cL_law 902 = .ok (.iaload, 1) := by decide +kernel
theorem dL_law_903 : decode cL_law 903 = .ok (.aload_n 0, 1) := by decide +kernel
theorem dL_law_904 : decode cL_law 904 = .ok (.iload_n 3, 1) := by decide +kernel
theorem dL_law_905 : decode cL_law 905 = .ok (.iconst 2, 1) := by decide +kernel
theorem dL_law_906 : decode cL_law 906 = .ok (.iadd, 1) := by decide +kernel
theorem dL_law_907 : decode cL_law 907 = .ok (.iaload, 1) := by decide +kernel
theorem dL_law_908 : decode cL_law 908 = .ok (.invokevirtual 111, 3) := by decide +kernel
theorem dL_law_911 : decode cL_law 911 = .ok (.aload_n 2, 1) := by decide +kernel
theorem dL_law_912 : decode cL_law 912 = .ok (.aload_n 0, 1) := by decide +kernel
theorem dL_law_913 : decode cL_law 913 = .ok (.iload_n 3, 1) := by decide +kernel
theorem dL_law_914 : decode cL_law 914 = .ok (.iconst 1, 1) := by decide +kernel
theorem dL_law_915 : decode cL_law 915 = .ok (.iadd, 1) := by decide +kernel
theorem dL_law_916 : decode cL_law 916 = .ok (.iaload, 1) := by decide +kernel
theorem dL_law_917 : decode cL_law 917 = .ok (.aload_n 0, 1) := by decide +kernel
theorem dL_law_918 : decode cL_law 918 = .ok (.iload_n 3, 1) := by decide +kernel
theorem dL_law_919 : decode cL_law 919 = .ok (.iconst 2, 1) := by decide +kernel
theorem dL_law_920 : decode cL_law 920 = .ok (.iadd, 1) := by decide +kernel
theorem dL_law_921 : decode cL_law 921 = .ok (.iaload, 1) := by decide +kernel
theorem dL_law_922 : decode cL_law 922 = .ok (.invokevirtual 114, 3) := by decide +kernel
theorem dL_law_925 : decode cL_law 925 = .ok (.if_icmp .eq 368, 3) := by decide +kernel
theorem dL_law_928 : decode cL_law 928 = .ok (.iconst 0, 1) := by decide +kernel
theorem dL_law_929 : decode cL_law 929 = .ok (.ireturn, 1) := by decide +kernel
theorem dL_law_930 : decode cL_law 930 = .ok (.aload_n 1, 1) := by decide +kernel
theorem dL_law_931 : decode cL_law 931 = .ok (.aload_n 0, 1) := by decide +kernel
theorem dL_law_932 : decode cL_law 932 = .ok (.iload_n 3, 1) := by decide +kernel
theorem dL_law_933 : decode cL_law 933 = .ok (.iconst 1, 1) := by decide +kernel
theorem dL_law_934 : decode cL_law 934 = .ok (.iadd, 1) := by decide +kernel
theorem dL_law_935 : decode cL_law 935 = .ok (.iaload, 1) := by decide +kernel
theorem dL_law_936 : decode cL_law 936 = .ok (.aload_n 0, 1) := by decide +kernel
theorem dL_law_937 : decode cL_law 937 = .ok (.iload_n 3, 1) := by decide +kernel
theorem dL_law_938 : decode cL_law 938 = .ok (.iconst 2, 1) := by decide +kernel
theorem dL_law_939 : decode cL_law 939 = .ok (.iadd, 1) := by decide +kernel
theorem dL_law_940 : decode cL_law 940 = .ok (.iaload, 1) := by decide +kernel
theorem dL_law_941 : decode cL_law 941 = .ok (.invokevirtual 115, 3) := by decide +kernel
theorem dL_law_944 : decode cL_law 944 = .ok (.aload_n 2, 1) := by decide +kernel
theorem dL_law_945 : decode cL_law 945 = .ok (.aload_n 0, 1) := by decide +kernel
theorem dL_law_946 : decode cL_law 946 = .ok (.iload_n 3, 1) := by decide +kernel
theorem dL_law_947 : decode cL_law 947 = .ok (.iconst 1, 1) := by decide +kernel
theorem dL_law_948 : decode cL_law 948 = .ok (.iadd, 1) := by decide +kernel
theorem dL_law_949 : decode cL_law 949 = .ok (.iaload, 1) := by decide +kernel
theorem dL_law_950 : decode cL_law 950 = .ok (.aload_n 0, 1) := by decide +kernel
theorem dL_law_951 : decode cL_law 951 = .ok (.iload_n 3, 1) := by decide +kernel
theorem dL_law_952 : decode cL_law 952 = .ok (.iconst 2, 1) := by decide +kernel
theorem dL_law_953 : decode cL_law 953 = .ok (.iadd, 1) := by decide +kernel
theorem dL_law_954 : decode cL_law 954 = .ok (.iaload, 1) := by decide +kernel
theorem dL_law_955 : decode cL_law 955 = .ok (.invokevirtual 118, 3) := by decide +kernel
theorem dL_law_958 : decode cL_law 958 = .ok (.if_icmp .eq 335, 3) := by decide +kernel
theorem dL_law_961 : decode cL_law 961 = .ok (.iconst 0, 1) := by decide +kernel
theorem dL_law_962 : decode cL_law 962 = .ok (.ireturn, 1) := by decide +kernel
theorem dL_law_963 : decode cL_law 963 = .ok (.aload_n 1, 1) := by decide +kernel
theorem dL_law_964 : decode cL_law 964 = .ok (.aload_n 0, 1) := by decide +kernel
theorem dL_law_965 : decode cL_law 965 = .ok (.iload_n 3, 1) := by decide +kernel
theorem dL_law_966 : decode cL_law 966 = .ok (.iconst 1, 1) := by decide +kernel
theorem dL_law_967 : decode cL_law 967 = .ok (.iadd, 1) := by decide +kernel
theorem dL_law_968 : decode cL_law 968 = .ok (.iaload, 1) := by decide +kernel
theorem dL_law_969 : decode cL_law 969 = .ok (.aload_n 0, 1) := by decide +kernel
theorem dL_law_970 : decode cL_law 970 = .ok (.iload_n 3, 1) := by decide +kernel
theorem dL_law_971 : decode cL_law 971 = .ok (.iconst 2, 1) := by decide +kernel
theorem dL_law_972 : decode cL_law 972 = .ok (.iadd, 1) := by decide +kernel
theorem dL_law_973 : decode cL_law 973 = .ok (.iaload, 1) := by decide +kernel
theorem dL_law_974 : decode cL_law 974 = .ok (.aload_n 0, 1) := by decide +kernel
theorem dL_law_975 : decode cL_law 975 = .ok (.iload_n 3, 1) := by decide +kernel
theorem dL_law_976 : decode cL_law 976 = .ok (.iconst 3, 1) := by decide +kernel
theorem dL_law_977 : decode cL_law 977 = .ok (.iadd, 1) := by decide +kernel
theorem dL_law_978 : decode cL_law 978 = .ok (.iaload, 1) := by decide +kernel
theorem dL_law_979 : decode cL_law 979 = .ok (.aload_n 0, 1) := by decide +kernel
theorem dL_law_980 : decode cL_law 980 = .ok (.iload_n 3, 1) := by decide +kernel
theorem dL_law_981 : decode cL_law 981 = .ok (.iconst 4, 1) := by decide +kernel
theorem dL_law_982 : decode cL_law 982 = .ok (.iadd, 1) := by decide +kernel
theorem dL_law_983 : decode cL_law 983 = .ok (.iaload, 1) := by decide +kernel
theorem dL_law_984 : decode cL_law 984 = .ok (.invokevirtual 119, 3) := by decide +kernel
theorem dL_law_987 : decode cL_law 987 = .ok (.aload_n 2, 1) := by decide +kernel
theorem dL_law_988 : decode cL_law 988 = .ok (.aload_n 0, 1) := by decide +kernel
theorem dL_law_989 : decode cL_law 989 = .ok (.iload_n 3, 1) := by decide +kernel
theorem dL_law_990 : decode cL_law 990 = .ok (.iconst 1, 1) := by decide +kernel
theorem dL_law_991 : decode cL_law 991 = .ok (.iadd, 1) := by decide +kernel
theorem dL_law_992 : decode cL_law 992 = .ok (.iaload, 1) := by decide +kernel
theorem dL_law_993 : decode cL_law 993 = .ok (.aload_n 0, 1) := by decide +kernel
theorem dL_law_994 : decode cL_law 994 = .ok (.iload_n 3, 1) := by decide +kernel
theorem dL_law_995 : decode cL_law 995 = .ok (.iconst 2, 1) := by decide +kernel
theorem dL_law_996 : decode cL_law 996 = .ok (.iadd, 1) := by decide +kernel
theorem dL_law_997 : decode cL_law 997 = .ok (.iaload, 1) := by decide +kernel
theorem dL_law_998 : decode cL_law 998 = .ok (.aload_n 0, 1) := by decide +kernel
theorem dL_law_999 : decode cL_law 999 = .ok (.iload_n 3, 1) := by decide +kernel
theorem dL_law_1000 : decode cL_law 1000 = .ok (.iconst 3, 1) := by decide +kernel
theorem dL_law_1001 : decode cL_law 1001 = .ok (.iadd, 1) := by decide +kernel
theorem dL_law_1002 : decode cL_law 1002 = .ok (.iaload, 1) := by decide +kernel
theorem dL_law_1003 : decode cL_law 1003 = .ok (.aload_n 0, 1) := by decide +kernel
theorem dL_law_1004 : decode cL_law 1004 = .ok (.iload_n 3, 1) := by decide +kernel
theorem dL_law_1005 : decode cL_law 1005 = .ok (.iconst 4, 1) := by decide +kernel
theorem dL_law_1006 : decode cL_law 1006 = .ok (.iadd, 1) := by decide +kernel
theorem dL_law_1007 : decode cL_law 1007 = .ok (.iaload, 1) := by decide +kernel
theorem dL_law_1008 : decode cL_law 1008 = .ok (.invokevirtual 122, 3) := by decide +kernel
theorem dL_law_1011 : decode cL_law 1011 = .ok (.if_icmp .eq 282, 3) := by decide +kernel
theorem dL_law_1014 : decode cL_law 1014 = .ok (.iconst 0, 1) := by decide +kernel
theorem dL_law_1015 : decode cL_law 1015 = .ok (.ireturn, 1) := by decide +kernel
theorem dL_law_1016 : decode cL_law 1016 = .ok (.aload_n 1, 1) := by decide +kernel
theorem dL_law_1017 : decode cL_law 1017 = .ok (.aload_n 0, 1) := by decide +kernel
theorem dL_law_1018 : decode cL_law 1018 = .ok (.iload_n 3, 1) := by decide +kernel
theorem dL_law_1019 : decode cL_law 1019 = .ok (.iconst 1, 1) := by decide +kernel
theorem dL_law_1020 : decode cL_law 1020 = .ok (.iadd, 1) := by decide +kernel
theorem dL_law_1021 : decode cL_law 1021 = .ok (.iaload, 1) := by decide +kernel
theorem dL_law_1022 : decode cL_law 1022 = .ok (.aload_n 0, 1) := by decide +kernel
theorem dL_law_1023 : decode cL_law 1023 = .ok (.iload_n 3, 1) := by decide +kernel
theorem dL_law_1024 : decode cL_law 1024 = .ok (.iconst 2, 1) := by decide +kernel
theorem dL_law_1025 : decode cL_law 1025 = .ok (.iadd, 1) := by decide +kernel
theorem dL_law_1026 : decode cL_law 1026 = .ok (.iaload, 1) := by decide +kernel
theorem dL_law_1027 : decode cL_law 1027 = .ok (.invokevirtual 123, 3) := by decide +kernel
theorem dL_law_1030 : decode cL_law 1030 = .ok (.aload_n 2, 1) := by decide +kernel
theorem dL_law_1031 : decode cL_law 1031 = .ok (.aload_n 0, 1) := by decide +kernel
theorem dL_law_1032 : decode cL_law 1032 = .ok (.iload_n 3, 1) := by decide +kernel
theorem dL_law_1033 : decode cL_law 1033 = .ok (.iconst 1, 1) := by decide +kernel
theorem dL_law_1034 : decode cL_law 1034 = .ok (.iadd, 1) := by decide +kernel
theorem dL_law_1035 : decode cL_law 1035 = .ok (.iaload, 1) := by decide +kernel
theorem dL_law_1036 : decode cL_law 1036 = .ok (.aload_n 0, 1) := by decide +kernel
theorem dL_law_1037 : decode cL_law 1037 = .ok (.iload_n 3, 1) := by decide +kernel
theorem dL_law_1038 : decode cL_law 1038 = .ok (.iconst 2, 1) := by decide +kernel
theorem dL_law_1039 : decode cL_law 1039 = .ok (.iadd, 1) := by decide +kernel
theorem dL_law_1040 : decode cL_law 1040 = .ok (.iaload, 1) := by decide +kernel
theorem dL_law_1041 : decode cL_law 1041 = .ok (.invokevirtual 126, 3) := by decide +kernel
theorem dL_law_1044 : decode cL_law 1044 = .ok (.if_icmp .eq 249, 3) := by decide +kernel
theorem dL_law_1047 : decode cL_law 1047 = .ok (.iconst 0, 1) := by decide +kernel
theorem dL_law_1048 : decode cL_law 1048 = .ok (.ireturn, 1) := by decide +kernel
theorem dL_law_1049 : decode cL_law 1049 = .ok (.aload_n 1, 1) := by decide +kernel
theorem dL_law_1050 : decode cL_law 1050 = .ok (.aload_n 0, 1) := by decide +kernel
theorem dL_law_1051 : decode cL_law 1051 = .ok (.iload_n 3, 1) := by decide +kernel
theorem dL_law_1052 : decode cL_law 1052 = .ok (.iconst 1, 1) := by decide +kernel
theorem dL_law_1053 : decode cL_law 1053 = .ok (.iadd, 1) := by decide +kernel
theorem dL_law_1054 : decode cL_law 1054 = .ok (.iaload, 1) := by decide +kernel
theorem dL_law_1055 : decode cL_law 1055 = .ok (.aload_n 0, 1) := by decide +kernel
theorem dL_law_1056 : decode cL_law 1056 = .ok (.iload_n 3, 1) := by decide +kernel
theorem dL_law_1057 : decode cL_law 1057 = .ok (.iconst 2, 1) := by decide +kernel
theorem dL_law_1058 : decode cL_law 1058 = .ok (.iadd, 1) := by decide +kernel
theorem dL_law_1059 : decode cL_law 1059 = .ok (.iaload, 1) := by decide +kernel
theorem dL_law_1060 : decode cL_law 1060 = .ok (.aload_n 0, 1) := by decide +kernel
theorem dL_law_1061 : decode cL_law 1061 = .ok (.iload_n 3, 1) := by decide +kernel
theorem dL_law_1062 : decode cL_law 1062 = .ok (.iconst 3, 1) := by decide +kernel
theorem dL_law_1063 : decode cL_law 1063 = .ok (.iadd, 1) := by decide +kernel
theorem dL_law_1064 : decode cL_law 1064 = .ok (.iaload, 1) := by decide +kernel
theorem dL_law_1065 : decode cL_law 1065 = .ok (.invokevirtual 127, 3) := by decide +kernel
theorem dL_law_1068 : decode cL_law 1068 = .ok (.aload_n 2, 1) := by decide +kernel
theorem dL_law_1069 : decode cL_law 1069 = .ok (.aload_n 0, 1) := by decide +kernel
theorem dL_law_1070 : decode cL_law 1070 = .ok (.iload_n 3, 1) := by decide +kernel
theorem dL_law_1071 : decode cL_law 1071 = .ok (.iconst 1, 1) := by decide +kernel
theorem dL_law_1072 : decode cL_law 1072 = .ok (.iadd, 1) := by decide +kernel
theorem dL_law_1073 : decode cL_law 1073 = .ok (.iaload, 1) := by decide +kernel
theorem dL_law_1074 : decode cL_law 1074 = .ok (.aload_n 0, 1) := by decide +kernel
theorem dL_law_1075 : decode cL_law 1075 = .ok (.iload_n 3, 1) := by decide +kernel
theorem dL_law_1076 : decode cL_law 1076 = .ok (.iconst 2, 1) := by decide +kernel
theorem dL_law_1077 : decode cL_law 1077 = .ok (.iadd, 1) := by decide +kernel
theorem dL_law_1078 : decode cL_law 1078 = .ok (.iaload, 1) := by decide +kernel
theorem dL_law_1079 : decode cL_law 1079 = .ok (.aload_n 0, 1) := by decide +kernel
theorem dL_law_1080 : decode cL_law 1080 = .ok (.iload_n 3, 1) := by decide +kernel
theorem dL_law_1081 : decode cL_law 1081 = .ok (.iconst 3, 1) := by decide +kernel
theorem dL_law_1082 : decode cL_law 1082 = .ok (.iadd, 1) := by decide +kernel
theorem dL_law_1083 : decode cL_law 1083 = .ok (.iaload, 1) := by decide +kernel
theorem dL_law_1084 : decode cL_law 1084 = .ok (.invokevirtual 130, 3) := by decide +kernel
theorem dL_law_1087 : decode cL_law 1087 = .ok (.if_icmp .eq 206, 3) := by decide +kernel
theorem dL_law_1090 : decode cL_law 1090 = .ok (.iconst 0, 1) := by decide +kernel
theorem dL_law_1091 : decode cL_law 1091 = .ok (.ireturn, 1) := by decide +kernel
theorem dL_law_1092 : decode cL_law 1092 = .ok (.aload_n 1, 1) := by decide +kernel
theorem dL_law_1093 : decode cL_law 1093 = .ok (.aload_n 0, 1) := by decide +kernel
theorem dL_law_1094 : decode cL_law 1094 = .ok (.iload_n 3, 1) := by decide +kernel
theorem dL_law_1095 : decode cL_law 1095 = .ok (.iconst 1, 1) := by decide +kernel
theorem dL_law_1096 : decode cL_law 1096 = .ok (.iadd, 1) := by decide +kernel
theorem dL_law_1097 : decode cL_law 1097 = .ok (.iaload, 1) := by decide +kernel
theorem dL_law_1098 : decode cL_law 1098 = .ok (.invokevirtual 131, 3) := by decide +kernel
theorem dL_law_1101 : decode cL_law 1101 = .ok (.aload_n 2, 1) := by decide +kernel
theorem dL_law_1102 : decode cL_law 1102 = .ok (.aload_n 0, 1) := by decide +kernel
theorem dL_law_1103 : decode cL_law 1103 = .ok (.iload_n 3, 1) := by decide +kernel
theorem dL_law_1104 : decode cL_law 1104 = .ok (.iconst 1, 1) := by decide +kernel
theorem dL_law_1105 : decode cL_law 1105 = .ok (.iadd, 1) := by decide +kernel
theorem dL_law_1106 : decode cL_law 1106 = .ok (.iaload, 1) := by decide +kernel
theorem dL_law_1107 : decode cL_law 1107 = .ok (.invokevirtual 134, 3) := by decide +kernel
theorem dL_law_1110 : decode cL_law 1110 = .ok (.if_icmp .eq 183, 3) := by decide +kernel
theorem dL_law_1113 : decode cL_law 1113 = .ok (.iconst 0, 1) := by decide +kernel
theorem dL_law_1114 : decode cL_law 1114 = .ok (.ireturn, 1) := by decide +kernel
theorem dL_law_1115 : decode cL_law 1115 = .ok (.aload_n 1, 1) := by decide +kernel
theorem dL_law_1116 : decode cL_law 1116 = .ok (.aload_n 0, 1) := by decide +kernel
theorem dL_law_1117 : decode cL_law 1117 = .ok (.iload_n 3, 1) := by decide +kernel
theorem dL_law_1118 : decode cL_law 1118 = .ok (.iconst 1, 1) := by decide +kernel
theorem dL_law_1119 : decode cL_law 1119 = .ok (.iadd, 1) := by decide +kernel
theorem dL_law_1120 : decode cL_law 1120 = .ok (.iaload, 1) := by decide +kernel
theorem dL_law_1121 : decode cL_law 1121 = .ok (.aload_n 0, 1) := by decide +kernel
theorem dL_law_1122 : decode cL_law 1122 = .ok (.iload_n 3, 1) := by decide +kernel
theorem dL_law_1123 : decode cL_law 1123 = .ok (.iconst 2, 1) := by decide +kernel
theorem dL_law_1124 : decode cL_law 1124 = .ok (.iadd, 1) := by decide +kernel
theorem dL_law_1125 : decode cL_law 1125 = .ok (.iaload, 1) := by decide +kernel
theorem dL_law_1126 : decode cL_law 1126 = .ok (.invokevirtual 135, 3) := by decide +kernel
theorem dL_law_1129 : decode cL_law 1129 = .ok (.aload_n 2, 1) := by decide +kernel
theorem dL_law_1130 : decode cL_law 1130 = .ok (.aload_n 0, 1) := by decide +kernel
theorem dL_law_1131 : decode cL_law 1131 = .ok (.iload_n 3, 1) := by decide +kernel
theorem dL_law_1132 : decode cL_law 1132 = .ok (.iconst 1, 1) := by decide +kernel
theorem dL_law_1133 : decode cL_law 1133 = .ok (.iadd, 1) := by decide +kernel
theorem dL_law_1134 : decode cL_law 1134 = .ok (.iaload, 1) := by decide +kernel
theorem dL_law_1135 : decode cL_law 1135 = .ok (.aload_n 0, 1) := by decide +kernel
theorem dL_law_1136 : decode cL_law 1136 = .ok (.iload_n 3, 1) := by decide +kernel
theorem dL_law_1137 : decode cL_law 1137 = .ok (.iconst 2, 1) := by decide +kernel
theorem dL_law_1138 : decode cL_law 1138 = .ok (.iadd, 1) := by decide +kernel
theorem dL_law_1139 : decode cL_law 1139 = .ok (.iaload, 1) := by decide +kernel
theorem dL_law_1140 : decode cL_law 1140 = .ok (.invokevirtual 138, 3) := by decide +kernel
theorem dL_law_1143 : decode cL_law 1143 = .ok (.if_icmp .eq 150, 3) := by decide +kernel
theorem dL_law_1146 : decode cL_law 1146 = .ok (.iconst 0, 1) := by decide +kernel
theorem dL_law_1147 : decode cL_law 1147 = .ok (.ireturn, 1) := by decide +kernel
theorem dL_law_1148 : decode cL_law 1148 = .ok (.aload_n 1, 1) := by decide +kernel
theorem dL_law_1149 : decode cL_law 1149 = .ok (.aload_n 0, 1) := by decide +kernel
theorem dL_law_1150 : decode cL_law 1150 = .ok (.iload_n 3, 1) := by decide +kernel
theorem dL_law_1151 : decode cL_law 1151 = .ok (.iconst 1, 1) := by decide +kernel
theorem dL_law_1152 : decode cL_law 1152 = .ok (.iadd, 1) := by decide +kernel
theorem dL_law_1153 : decode cL_law 1153 = .ok (.iaload, 1) := by decide +kernel
theorem dL_law_1154 : decode cL_law 1154 = .ok (.invokevirtual 139, 3) := by decide +kernel
theorem dL_law_1157 : decode cL_law 1157 = .ok (.aload_n 2, 1) := by decide +kernel
theorem dL_law_1158 : decode cL_law 1158 = .ok (.aload_n 0, 1) := by decide +kernel
theorem dL_law_1159 : decode cL_law 1159 = .ok (.iload_n 3, 1) := by decide +kernel
theorem dL_law_1160 : decode cL_law 1160 = .ok (.iconst 1, 1) := by decide +kernel
theorem dL_law_1161 : decode cL_law 1161 = .ok (.iadd, 1) := by decide +kernel
theorem dL_law_1162 : decode cL_law 1162 = .ok (.iaload, 1) := by decide +kernel
theorem dL_law_1163 : decode cL_law 1163 = .ok (.invokevirtual 142, 3) := by decide +kernel
theorem dL_law_1166 : decode cL_law 1166 = .ok (.if_icmp .eq 127, 3) := by decide +kernel
theorem dL_law_1169 : decode cL_law 1169 = .ok (.iconst 0, 1) := by decide +kernel
theorem dL_law_1170 : decode cL_law 1170 = .ok (.ireturn, 1) := by decide +kernel
theorem dL_law_1171 : decode cL_law 1171 = .ok (.aload_n 1, 1) := by decide +kernel
theorem dL_law_1172 : decode cL_law 1172 = .ok (.aload_n 0, 1) := by decide +kernel
theorem dL_law_1173 : decode cL_law 1173 = .ok (.iload_n 3, 1) := by decide +kernel
theorem dL_law_1174 : decode cL_law 1174 = .ok (.iconst 1, 1) := by decide +kernel
theorem dL_law_1175 : decode cL_law 1175 = .ok (.iadd, 1) := by decide +kernel
theorem dL_law_1176 : decode cL_law 1176 = .ok (.iaload, 1) := by decide +kernel
theorem dL_law_1177 : decode cL_law 1177 = .ok (.aload_n 0, 1) := by decide +kernel
theorem dL_law_1178 : decode cL_law 1178 = .ok (.iload_n 3, 1) := by decide +kernel
theorem dL_law_1179 : decode cL_law 1179 = .ok (.iconst 2, 1) := by decide +kernel
theorem dL_law_1180 : decode cL_law 1180 = .ok (.iadd, 1) := by decide +kernel
theorem dL_law_1181 : decode cL_law 1181 = .ok (.iaload, 1) := by decide +kernel
theorem dL_law_1182 : decode cL_law 1182 = .ok (.aload_n 0, 1) := by decide +kernel
theorem dL_law_1183 : decode cL_law 1183 = .ok (.iload_n 3, 1) := by decide +kernel
theorem dL_law_1184 : decode cL_law 1184 = .ok (.iconst 3, 1) := by decide +kernel
theorem dL_law_1185 : decode cL_law 1185 = .ok (.iadd, 1) := by decide +kernel
theorem dL_law_1186 : decode cL_law 1186 = .ok (.iaload, 1) := by decide +kernel
theorem dL_law_1187 : decode cL_law 1187 = .ok (.aload_n 0, 1) := by decide +kernel
theorem dL_law_1188 : decode cL_law 1188 = .ok (.iload_n 3, 1) := by decide +kernel
theorem dL_law_1189 : decode cL_law 1189 = .ok (.iconst 4, 1) := by decide +kernel
theorem dL_law_1190 : decode cL_law 1190 = .ok (.iadd, 1) := by decide +kernel
theorem dL_law_1191 : decode cL_law 1191 = .ok (.iaload, 1) := by decide +kernel
theorem dL_law_1192 : decode cL_law 1192 = .ok (.invokevirtual 143, 3) := by decide +kernel
theorem dL_law_1195 : decode cL_law 1195 = .ok (.aload_n 2, 1) := by decide +kernel
theorem dL_law_1196 : decode cL_law 1196 = .ok (.aload_n 0, 1) := by decide +kernel
theorem dL_law_1197 : decode cL_law 1197 = .ok (.iload_n 3, 1) := by decide +kernel
theorem dL_law_1198 : decode cL_law 1198 = .ok (.iconst 1, 1) := by decide +kernel
theorem dL_law_1199 : decode cL_law 1199 = .ok (.iadd, 1) := by decide +kernel
theorem dL_law_1200 : decode cL_law 1200 = .ok (.iaload, 1) := by decide +kernel
theorem dL_law_1201 : decode cL_law 1201 = .ok (.aload_n 0, 1) := by decide +kernel
theorem dL_law_1202 : decode cL_law 1202 = .ok (.iload_n 3, 1) := by decide +kernel
theorem dL_law_1203 : decode cL_law 1203 = .ok (.iconst 2, 1) := by decide +kernel
theorem dL_law_1204 : decode cL_law 1204 = .ok (.iadd, 1) := by decide +kernel
theorem dL_law_1205 : decode cL_law 1205 = .ok (.iaload, 1) := by decide +kernel
theorem dL_law_1206 : decode cL_law 1206 = .ok (.aload_n 0, 1) := by decide +kernel
theorem dL_law_1207 : decode cL_law 1207 = .ok (.iload_n 3, 1) := by decide +kernel
theorem dL_law_1208 : decode cL_law 1208 = .ok (.iconst 3, 1) := by decide +kernel
theorem dL_law_1209 : decode cL_law 1209 = .ok (.iadd, 1) := by decide +kernel
theorem dL_law_1210 : decode cL_law 1210 = .ok (.iaload, 1) := by decide +kernel
theorem dL_law_1211 : decode cL_law 1211 = .ok (.aload_n 0, 1) := by decide +kernel
theorem dL_law_1212 : decode cL_law 1212 = .ok (.iload_n 3, 1) := by decide +kernel
theorem dL_law_1213 : decode cL_law 1213 = .ok (.iconst 4, 1) := by decide +kernel
theorem dL_law_1214 : decode cL_law 1214 = .ok (.iadd, 1) := by decide +kernel
theorem dL_law_1215 : decode cL_law 1215 = .ok (.iaload, 1) := by decide +kernel
theorem dL_law_1216 : decode cL_law 1216 = .ok (.invokevirtual 146, 3) := by decide +kernel
theorem dL_law_1219 : decode cL_law 1219 = .ok (.if_icmp .eq 74, 3) := by decide +kernel
theorem dL_law_1222 : decode cL_law 1222 = .ok (.iconst 0, 1) := by decide +kernel
theorem dL_law_1223 : decode cL_law 1223 = .ok (.ireturn, 1) := by decide +kernel
theorem dL_law_1224 : decode cL_law 1224 = .ok (.aload_n 1, 1) := by decide +kernel
theorem dL_law_1225 : decode cL_law 1225 = .ok (.aload_n 0, 1) := by decide +kernel
theorem dL_law_1226 : decode cL_law 1226 = .ok (.iload_n 3, 1) := by decide +kernel
theorem dL_law_1227 : decode cL_law 1227 = .ok (.iconst 1, 1) := by decide +kernel
theorem dL_law_1228 : decode cL_law 1228 = .ok (.iadd, 1) := by decide +kernel
theorem dL_law_1229 : decode cL_law 1229 = .ok (.iaload, 1) := by decide +kernel
theorem dL_law_1230 : decode cL_law 1230 = .ok (.invokevirtual 147, 3) := by decide +kernel
theorem dL_law_1233 : decode cL_law 1233 = .ok (.aload_n 2, 1) := by decide +kernel
theorem dL_law_1234 : decode cL_law 1234 = .ok (.aload_n 0, 1) := by decide +kernel
theorem dL_law_1235 : decode cL_law 1235 = .ok (.iload_n 3, 1) := by decide +kernel
theorem dL_law_1236 : decode cL_law 1236 = .ok (.iconst 1, 1) := by decide +kernel
theorem dL_law_1237 : decode cL_law 1237 = .ok (.iadd, 1) := by decide +kernel
theorem dL_law_1238 : decode cL_law 1238 = .ok (.iaload, 1) := by decide +kernel
theorem dL_law_1239 : decode cL_law 1239 = .ok (.invokevirtual 150, 3) := by decide +kernel
theorem dL_law_1242 : decode cL_law 1242 = .ok (.if_icmp .eq 51, 3) := by decide +kernel
theorem dL_law_1245 : decode cL_law 1245 = .ok (.iconst 0, 1) := by decide +kernel
theorem dL_law_1246 : decode cL_law 1246 = .ok (.ireturn, 1) := by decide +kernel
theorem dL_law_1247 : decode cL_law 1247 = .ok (.aload_n 1, 1) := by decide +kernel
theorem dL_law_1248 : decode cL_law 1248 = .ok (.aload_n 0, 1) := by decide +kernel
theorem dL_law_1249 : decode cL_law 1249 = .ok (.iload_n 3, 1) := by decide +kernel
theorem dL_law_1250 : decode cL_law 1250 = .ok (.iconst 1, 1) := by decide +kernel
theorem dL_law_1251 : decode cL_law 1251 = .ok (.iadd, 1) := by decide +kernel
theorem dL_law_1252 : decode cL_law 1252 = .ok (.iaload, 1) := by decide +kernel
theorem dL_law_1253 : decode cL_law 1253 = .ok (.invokevirtual 151, 3) := by decide +kernel
theorem dL_law_1256 : decode cL_law 1256 = .ok (.aload_n 2, 1) := by decide +kernel
theorem dL_law_1257 : decode cL_law 1257 = .ok (.aload_n 0, 1) := by decide +kernel
theorem dL_law_1258 : decode cL_law 1258 = .ok (.iload_n 3, 1) := by decide +kernel
theorem dL_law_1259 : decode cL_law 1259 = .ok (.iconst 1, 1) := by decide +kernel
theorem dL_law_1260 : decode cL_law 1260 = .ok (.iadd, 1) := by decide +kernel
theorem dL_law_1261 : decode cL_law 1261 = .ok (.iaload, 1) := by decide +kernel
theorem dL_law_1262 : decode cL_law 1262 = .ok (.invokevirtual 154, 3) := by decide +kernel
theorem dL_law_1265 : decode cL_law 1265 = .ok (.if_icmp .eq 28, 3) := by decide +kernel
theorem dL_law_1268 : decode cL_law 1268 = .ok (.iconst 0, 1) := by decide +kernel
theorem dL_law_1269 : decode cL_law 1269 = .ok (.ireturn, 1) := by decide +kernel
theorem dL_law_1270 : decode cL_law 1270 = .ok (.aload_n 1, 1) := by decide +kernel
theorem dL_law_1271 : decode cL_law 1271 = .ok (.aload_n 0, 1) := by decide +kernel
theorem dL_law_1272 : decode cL_law 1272 = .ok (.iload_n 3, 1) := by decide +kernel
theorem dL_law_1273 : decode cL_law 1273 = .ok (.iconst 1, 1) := by decide +kernel
theorem dL_law_1274 : decode cL_law 1274 = .ok (.iadd, 1) := by decide +kernel
theorem dL_law_1275 : decode cL_law 1275 = .ok (.iaload, 1) := by decide +kernel
theorem dL_law_1276 : decode cL_law 1276 = .ok (.invokevirtual 155, 3) := by decide +kernel
theorem dL_law_1279 : decode cL_law 1279 = .ok (.aload_n 2, 1) := by decide +kernel
theorem dL_law_1280 : decode cL_law 1280 = .ok (.aload_n 0, 1) := by decide +kernel
theorem dL_law_1281 : decode cL_law 1281 = .ok (.iload_n 3, 1) := by decide +kernel
theorem dL_law_1282 : decode cL_law 1282 = .ok (.iconst 1, 1) := by decide +kernel
theorem dL_law_1283 : decode cL_law 1283 = .ok (.iadd, 1) := by decide +kernel
theorem dL_law_1284 : decode cL_law 1284 = .ok (.iaload, 1) := by decide +kernel
theorem dL_law_1285 : decode cL_law 1285 = .ok (.invokevirtual 158, 3) := by decide +kernel
theorem dL_law_1288 : decode cL_law 1288 = .ok (.if_icmp .eq 5, 3) := by decide +kernel
theorem dL_law_1291 : decode cL_law 1291 = .ok (.iconst 0, 1) := by decide +kernel
theorem dL_law_1292 : decode cL_law 1292 = .ok (.ireturn, 1) := by decide +kernel
theorem dL_law_1293 : decode cL_law 1293 = .ok (.iinc 3 6, 3) := by decide +kernel
theorem dL_law_1296 : decode cL_law 1296 = .ok (.goto (-1278), 3) := by decide +kernel
theorem dL_law_1299 : decode cL_law 1299 = .ok (.iconst 1, 1) := by decide +kernel
theorem dL_law_1300 : decode cL_law 1300 = .ok (.ireturn, 1) := by decide +kernel
