theorem dX7_copyFrom_15 : decode cX7_copyFrom 15 = .ok (.aload_n 1, 1) := by decide +kernel
theorem dX7_copyFrom_16 : decode cX7_copyFrom 16 = .ok (.getfield 15, 3) := by decide +kernel
theorem dX7_copyFrom_19 : decode cX7_copyFrom 19 = .ok (.iconst 0, 1) := by decide +kernel
theorem dX7_copyFrom_20 : decode cX7_copyFrom 20 = .ok (.aload_n 0, 1) := by decide +kernel
theorem dX7_copyFrom_21 : decode cX7_copyFrom 21 = .ok (.getfield 15, 3) := by decide +kernel
theorem dX7_copyFrom_24 : decode cX7_copyFrom 24 = .ok (.iconst 0, 1) := by decide +kernel
theorem dX7_copyFrom_25 : decode cX7_copyFrom 25 = .ok (.bipush 6, 2) := by decide +kernel
theorem dX7_copyFrom_27 : decode cX7_copyFrom 27 = .ok (.invokestatic 43, 3) := by decide +kernel
theorem dX7_copyFrom_30 : decode cX7_copyFrom 30 = .ok (.aload_n 1, 1) := by decide +kernel
theorem dX7_copyFrom_31 : decode cX7_copyFrom 31 = .ok (.getfield 18, 3) := by decide +kernel
theorem dX7_copyFrom_34 : decode cX7_copyFrom 34 = .ok (.iconst 0, 1) := by decide +kernel
theorem dX7_copyFrom_35 : decode cX7_copyFrom 35 = .ok (.aload_n 0, 1) := by decide +kernel
theorem dX7_copyFrom_36 : decode cX7_copyFrom 36 = .ok (.getfield 18, 3) := by decide +kernel
theorem dX7_copyFrom_39 : decode cX7_copyFrom 39 = .ok (.iconst 0, 1) := by decide +kernel
theorem dX7_copyFrom_40 : decode cX7_copyFrom 40 = .ok (.bipush 6, 2) := by decide +kernel
theorem dX7_copyFrom_42 : decode cX7_copyFrom 42 = .ok (.invokestatic 43, 3) := by decide +kernel
theorem dX7_copyFrom_45 : decode cX7_copyFrom 45 = .ok (.aload_n 1, 1) := by decide +kernel
theorem dX7_copyFrom_46 : decode cX7_copyFrom 46 = .ok (.getfield 21, 3) := by decide +kernel
theorem dX7_copyFrom_49 : decode cX7_copyFrom 49 = .ok (.iconst 0, 1) := by decide +kernel
theorem dX7_copyFrom_50 : decode cX7_copyFrom 50 = .ok (.aload_n 0, 1) := by decide +kernel
theorem dX7_copyFrom_51 : decode cX7_copyFrom 51 = .ok (.getfield 21, 3) := by decide +kernel
theorem dX7_copyFrom_54 : decode cX7_copyFrom 54 = .ok (.iconst 0, 1) := by decide +kernel
theorem dX7_copyFrom_55 : decode cX7_copyFrom 55 = .ok (.bipush 6, 2) := by decide +kernel
theorem dX7_copyFrom_57 : decode cX7_copyFrom 57 = .ok (.invokestatic 43, 3) := by decide +kernel
theorem dX7_copyFrom_60 : decode cX7_copyFrom 60 = .ok (.aload_n 1, 1) := by decide +kernel
theorem dX7_copyFrom_61 : decode cX7_copyFrom 61 = .ok (.getfield 24, 3) := by decide +kernel
theorem dX7_copyFrom_64 : decode cX7_copyFrom 64 = .ok (.iconst 0, 1) := by decide +kernel
theorem dX7_copyFrom_65 : decode cX7_copyFrom 65 = .ok (.aload_n 0, 1) := by decide +kernel
theorem dX7_copyFrom_66 : decode cX7_copyFrom 66 = .ok (.getfield 24, 3) := by decide +kernel
theorem dX7_copyFrom_69 : decode cX7_copyFrom 69 = .ok (.iconst 0, 1) := by decide +kernel
theorem dX7_copyFrom_70 : decode cX7_copyFrom 70 = .ok (.bipush 6, 2) := by decide +kernel
theorem dX7_copyFrom_72 : decode cX7_copyFrom 72 = .ok (.invokestatic 43, 3) := by decide +kernel
theorem dX7_copyFrom_75 : decode cX7_copyFrom 75 = .ok (.aload_n 1, 1) := by decide +kernel
theorem dX7_copyFrom_76 : decode cX7_copyFrom 76 = .ok (.getfield 27, 3) := by decide +kernel
theorem dX7_copyFrom_79 : decode cX7_copyFrom 79 = .ok (.iconst 0, 1) := by decide +kernel
theorem dX7_copyFrom_80 : decode cX7_copyFrom 80 = .ok (.aload_n 0, 1) := by decide +kernel
theorem dX7_copyFrom_81 : decode cX7_copyFrom 81 = .ok (.getfield 27, 3) := by decide +kernel
theorem dX7_copyFrom_84 : decode cX7_copyFrom 84 = .ok (.iconst 0, 1) := by decide +kernel
theorem dX7_copyFrom_85 : decode cX7_copyFrom 85 = .ok (.iconst 4, 1) := by decide +kernel
theorem dX7_copyFrom_86 : decode cX7_copyFrom 86 = .ok (.invokestatic 43, 3) := by decide +kernel
theorem dX7_copyFrom_89 : decode cX7_copyFrom 89 = .ok (.aload_n 1, 1) := by decide +kernel
theorem dX7_copyFrom_90 : decode cX7_copyFrom 90 = .ok (.getfield 30, 3) := by decide +kernel
theorem dX7_copyFrom_93 : decode cX7_copyFrom 93 = .ok (.iconst 0, 1) := by decide +kernel
theorem dX7_copyFrom_94 : decode cX7_copyFrom 94 = .ok (.aload_n 0, 1) := by decide +kernel
theorem dX7_copyFrom_95 : decode cX7_copyFrom 95 = .ok (.getfield 30, 3) := by decide +kernel
theorem dX7_copyFrom_98 : decode cX7_copyFrom 98 = .ok (.iconst 0, 1) := by decide +kernel
theorem dX7_copyFrom_99 : decode cX7_copyFrom 99 = .ok (.bipush 36, 2) := by decide +kernel
theorem dX7_copyFrom_101 : decode cX7_copyFrom 101 = .ok (.invokestatic 43, 3) := by decide +kernel
theorem dX7_copyFrom_104 : decode cX7_copyFrom 104 = .ok (.aload_n 0, 1) := by decide +kernel
theorem dX7_copyFrom_105 : decode cX7_copyFrom 105 = .ok (.aload_n 1, 1) := by decide +kernel
theorem dX7_copyFrom_106 : decode cX7_copyFrom 106 = .ok (.getfield 33, 3) := by decide +kernel
theorem dX7_copyFrom_109 : decode cX7_copyFrom 109 = .ok (.putfield 33, 3) := by decide +kernel
theorem dX7_copyFrom_112 : decode cX7_copyFrom 112 = .ok (.aload_n 0, 1) := by decide +kernel
theorem dX7_copyFrom_113 : decode cX7_copyFrom 113 = .ok (.aload_n 1, 1) := by decide +kernel
theorem dX7_copyFrom_114 : decode cX7_copyFrom 114 = .ok (.getfield 37, 3) := by decide +kernel
theorem dX7_copyFrom_117 : decode cX7_copyFrom 117 = .ok (.putfield 37, 3) := by decide +kernel
theorem dX7_copyFrom_120 : decode cX7_copyFrom 120 = .ok (.return_, 1) := by decide +kernel
theorem dX7_urgeOn_0 : decode cX7_urgeOn 0 = .ok (.iload_n 1, 1) := by decide +kernel
theorem dX7_urgeOn_1 : decode cX7_urgeOn 1 = .ok (.ifCond .lt 28, 3) := by decide +kernel
theorem dX7_urgeOn_4 : decode cX7_urgeOn 4 = .ok (.iload_n 1, 1) := by decide +kernel
theorem dX7_urgeOn_5 : decode cX7_urgeOn 5 = .ok (.bipush 6, 2) := by decide +kernel
theorem dX7_urgeOn_7 : decode cX7_urgeOn 7 = .ok (.if_icmp .ge 22, 3) := by decide +kernel
theorem dX7_urgeOn_10 : decode cX7_urgeOn 10 = .ok (.aload_n 0, 1) := by decide +kernel
theorem dX7_urgeOn_11 : decode cX7_urgeOn 11 = .ok (.getfield 18, 3) := by decide +kernel
theorem dX7_urgeOn_14 : decode cX7_urgeOn 14 = .ok (.iload_n 1, 1) := by decide +kernel
theorem dX7_urgeOn_15 : decode cX7_urgeOn 15 = .ok (.bipush 99, 2) := by decide +kernel
theorem dX7_urgeOn_17 : decode cX7_urgeOn 17 = .ok (.aload_n 0, 1) := by decide +kernel
theorem dX7_urgeOn_18 : decode cX7_urgeOn 18 = .ok (.getfield 18, 3) := by decide +kernel
theorem dX7_urgeOn_21 : decode cX7_urgeOn 21 = .ok (.iload_n 1, 1) := by decide +kernel
theorem dX7_urgeOn_22 : decode cX7_urgeOn 22 = .ok (.iaload, 1) := by decide +kernel
theorem dX7_urgeOn_23 : decode cX7_urgeOn 23 = .ok (.iload_n 2, 1) := by decide +kernel
theorem dX7_urgeOn_24 : decode cX7_urgeOn 24 = .ok (.iadd, 1) := by decide +kernel
theorem dX7_urgeOn_25 : decode cX7_urgeOn 25 = .ok (.invokestatic 56, 3) := by decide +kernel
theorem dX7_urgeOn_28 : decode cX7_urgeOn 28 = .ok (.iastore, 1) := by decide +kernel
theorem dX7_urgeOn_29 : decode cX7_urgeOn 29 = .ok (.return_, 1) := by decide +kernel
theorem dX7_windAt_0 : decode cX7_windAt 0 = .ok (.iload_n 1, 1) := by decide +kernel
theorem dX7_windAt_1 : decode cX7_windAt 1 = .ok (.ifCond .lt 18, 3) := by decide +kernel
theorem dX7_windAt_4 : decode cX7_windAt 4 = .ok (.iload_n 1, 1) := by decide +kernel
theorem dX7_windAt_5 : decode cX7_windAt 5 = .ok (.bipush 36, 2) := by decide +kernel
theorem dX7_windAt_7 : decode cX7_windAt 7 = .ok (.if_icmp .ge 12, 3) := by decide +kernel
theorem dX7_windAt_10 : decode cX7_windAt 10 = .ok (.aload_n 0, 1) := by decide +kernel
theorem dX7_windAt_11 : decode cX7_windAt 11 = .ok (.getfield 30, 3) := by decide +kernel
theorem dX7_windAt_14 : decode cX7_windAt 14 = .ok (.iload_n 1, 1) := by decide +kernel
theorem dX7_windAt_15 : decode cX7_windAt 15 = .ok (.iaload, 1) := by decide +kernel
theorem dX7_windAt_16 : decode cX7_windAt 16 = .ok (.goto 4, 3) := by decide +kernel
theorem dX7_windAt_19 : decode cX7_windAt 19 = .ok (.iconst 0, 1) := by decide +kernel
theorem dX7_windAt_20 : decode cX7_windAt 20 = .ok (.ireturn, 1) := by decide +kernel
theorem dX7_windInAll_0 : decode cX7_windInAll 0 = .ok (.aload_n 0, 1) := by decide +kernel
theorem dX7_windInAll_1 : decode cX7_windInAll 1 = .ok (.getfield 30, 3) := by decide +kernel
theorem dX7_windInAll_4 : decode cX7_windInAll 4 = .ok (.invokestatic 62, 3) := by decide +kernel
theorem dX7_windInAll_7 : decode cX7_windInAll 7 = .ok (.ireturn, 1) := by decide +kernel
theorem dX7_groundInAll_0 : decode cX7_groundInAll 0 = .ok (.aload_n 0, 1) := by decide +kernel
theorem dX7_groundInAll_1 : decode cX7_groundInAll 1 = .ok (.getfield 27, 3) := by decide +kernel
theorem dX7_groundInAll_4 : decode cX7_groundInAll 4 = .ok (.invokestatic 62, 3) := by decide +kernel
theorem dX7_groundInAll_7 : decode cX7_groundInAll 7 = .ok (.ireturn, 1) := by decide +kernel
theorem dX7_actedInAll_0 : decode cX7_actedInAll 0 = .ok (.aload_n 0, 1) := by decide +kernel
theorem dX7_actedInAll_1 : decode cX7_actedInAll 1 = .ok (.getfield 21, 3) := by decide +kernel
theorem dX7_actedInAll_4 : decode cX7_actedInAll 4 = .ok (.invokestatic 62, 3) := by decide +kernel
theorem dX7_actedInAll_7 : decode cX7_actedInAll 7 = .ok (.ireturn, 1) := by decide +kernel
theorem dX7_sum_0 : decode cX7_sum 0 = .ok (.iconst 0, 1) := by decide +kernel
theorem dX7_sum_1 : decode cX7_sum 1 = .ok (.istore_n 1, 1) := by decide +kernel
theorem dX7_sum_2 : decode cX7_sum 2 = .ok (.aload_n 0, 1) := by decide +kernel
theorem dX7_sum_3 : decode cX7_sum 3 = .ok (.astore_n 2, 1) := by decide +kernel
theorem dX7_sum_4 : decode cX7_sum 4 = .ok (.aload_n 2, 1) := by decide +kernel
theorem dX7_sum_5 : decode cX7_sum 5 = .ok (.arraylength, 1) := by decide +kernel
theorem dX7_sum_6 : decode cX7_sum 6 = .ok (.istore_n 3, 1) := by decide +kernel
theorem dX7_sum_7 : decode cX7_sum 7 = .ok (.iconst 0, 1) := by decide +kernel
theorem dX7_sum_8 : decode cX7_sum 8 = .ok (.istore 4, 2) := by decide +kernel
theorem dX7_sum_10 : decode cX7_sum 10 = .ok (.iload 4, 2) := by decide +kernel
theorem dX7_sum_12 : decode cX7_sum 12 = .ok (.iload_n 3, 1) := by decide +kernel
theorem dX7_sum_13 : decode cX7_sum 13 = .ok (.if_icmp .ge 20, 3) := by decide +kernel
theorem dX7_sum_16 : decode cX7_sum 16 = .ok (.aload_n 2, 1) := by decide +kernel
theorem dX7_sum_17 : decode cX7_sum 17 = .ok (.iload 4, 2) := by decide +kernel
theorem dX7_sum_19 : decode cX7_sum 19 = .ok (.iaload, 1) := by decide +kernel
theorem dX7_sum_20 : decode cX7_sum 20 = .ok (.istore 5, 2) := by decide +kernel
theorem dX7_sum_22 : decode cX7_sum 22 = .ok (.iload_n 1, 1) := by decide +kernel
theorem dX7_sum_23 : decode cX7_sum 23 = .ok (.iload 5, 2) := by decide +kernel
theorem dX7_sum_25 : decode cX7_sum 25 = .ok (.iadd, 1) := by decide +kernel
theorem dX7_sum_26 : decode cX7_sum 26 = .ok (.istore_n 1, 1) := by decide +kernel
theorem dX7_sum_27 : decode cX7_sum 27 = .ok (.iinc 4 1, 3) := by decide +kernel
theorem dX7_sum_30 : decode cX7_sum 30 = .ok (.goto (-20), 3) := by decide +kernel
theorem dX7_sum_33 : decode cX7_sum 33 = .ok (.iload_n 1, 1) := by decide +kernel
theorem dX7_sum_34 : decode cX7_sum 34 = .ok (.ireturn, 1) := by decide +kernel
theorem dX7_share_0 : decode cX7_share 0 = .ok (.aload_n 0, 1) := by decide +kernel
theorem dX7_share_1 : decode cX7_share 1 = .ok (.invokevirtual 66, 3) := by decide +kernel
theorem dX7_share_4 : decode cX7_share 4 = .ok (.istore_n 3, 1) := by decide +kernel
theorem dX7_share_5 : decode cX7_share 5 = .ok (.iload_n 3, 1) := by decide +kernel
theorem dX7_share_6 : decode cX7_share 6 = .ok (.ifCond .le 13, 3) := by decide +kernel
theorem dX7_share_9 : decode cX7_share 9 = .ok (.iload_n 2, 1) := by decide +kernel
theorem dX7_share_10 : decode cX7_share 10 = .ok (.ifCond .lt 9, 3) := by decide +kernel
theorem dX7_share_13 : decode cX7_share 13 = .ok (.iload_n 2, 1) := by decide +kernel
theorem dX7_share_14 : decode cX7_share 14 = .ok (.bipush 6, 2) := by decide +kernel
theorem dX7_share_16 : decode cX7_share 16 = .ok (.if_icmp .lt 5, 3) := by decide +kernel
theorem dX7_share_19 : decode cX7_share 19 = .ok (.iconst 0, 1) := by decide +kernel
theorem dX7_share_20 : decode cX7_share 20 = .ok (.ireturn, 1) := by decide +kernel
theorem dX7_share_21 : decode cX7_share 21 = .ok (.iload_n 1, 1) := by decide +kernel
theorem dX7_share_22 : decode cX7_share 22 = .ok (.istore 4, 2) := by decide +kernel
theorem dX7_share_24 : decode cX7_share 24 = .ok (.iconst 0, 1) := by decide +kernel
theorem dX7_share_25 : decode cX7_share 25 = .ok (.istore 5, 2) := by decide +kernel
theorem dX7_share_27 : decode cX7_share 27 = .ok (.iload_n 1, 1) := by decide +kernel
theorem dX7_share_28 : decode cX7_share 28 = .ok (.aload_n 0, 1) := by decide +kernel
theorem dX7_share_29 : decode cX7_share 29 = .ok (.getfield 21, 3) := by decide +kernel
theorem dX7_share_32 : decode cX7_share 32 = .ok (.iload_n 2, 1) := by decide +kernel
theorem dX7_share_33 : decode cX7_share 33 = .ok (.iaload, 1) := by decide +kernel
theorem dX7_share_34 : decode cX7_share 34 = .ok (.imul, 1) := by decide +kernel
theorem dX7_share_35 : decode cX7_share 35 = .ok (.iload_n 3, 1) := by decide +kernel
theorem dX7_share_36 : decode cX7_share 36 = .ok (.irem, 1) := by decide +kernel
theorem dX7_share_37 : decode cX7_share 37 = .ok (.istore 6, 2) := by decide +kernel
theorem dX7_share_39 : decode cX7_share 39 = .ok (.iconst 0, 1) := by decide +kernel
theorem dX7_share_40 : decode cX7_share 40 = .ok (.istore 7, 2) := by decide +kernel
theorem dX7_share_42 : decode cX7_share 42 = .ok (.iload 7, 2) := by decide +kernel
theorem dX7_share_44 : decode cX7_share 44 = .ok (.bipush 6, 2) := by decide +kernel
theorem dX7_share_46 : decode cX7_share 46 = .ok (.if_icmp .ge 61, 3) := by decide +kernel
theorem dX7_share_49 : decode cX7_share 49 = .ok (.iload_n 1, 1) := by decide +kernel
theorem dX7_share_50 : decode cX7_share 50 = .ok (.aload_n 0, 1) := by decide +kernel
theorem dX7_share_51 : decode cX7_share 51 = .ok (.getfield 21, 3) := by decide +kernel
theorem dX7_share_54 : decode cX7_share 54 = .ok (.iload 7, 2) := by decide +kernel
theorem dX7_share_56 : decode cX7_share 56 = .ok (.iaload, 1) := by decide +kernel
theorem dX7_share_57 : decode cX7_share 57 = .ok (.imul, 1) := by decide +kernel
theorem dX7_share_58 : decode cX7_share 58 = .ok (.iload_n 3, 1) := by decide +kernel
theorem dX7_share_59 : decode cX7_share 59 = .ok (.irem, 1) := by decide +kernel
theorem dX7_share_60 : decode cX7_share 60 = .ok (.istore 8, 2) := by decide +kernel
theorem dX7_share_62 : decode cX7_share 62 = .ok (.iload 4, 2) := by decide +kernel
theorem dX7_share_64 : decode cX7_share 64 = .ok (.iload_n 1, 1) := by decide +kernel
theorem dX7_share_65 : decode cX7_share 65 = .ok (.aload_n 0, 1) := by decide +kernel
theorem dX7_share_66 : decode cX7_share 66 = .ok (.getfield 21, 3) := by decide +kernel
theorem dX7_share_69 : decode cX7_share 69 = .ok (.iload 7, 2) := by decide +kernel
theorem dX7_share_71 : decode cX7_share 71 = .ok (.iaload, 1) := by decide +kernel
theorem dX7_share_72 : decode cX7_share 72 = .ok (.imul, 1) := by decide +kernel
theorem dX7_share_73 : decode cX7_share 73 = .ok (.iload_n 3, 1) := by decide +kernel
theorem dX7_share_74 : decode cX7_share 74 = .ok (.idiv, 1) := by decide +kernel
theorem dX7_share_75 : decode cX7_share 75 = .ok (.isub, 1) := by decide +kernel
theorem dX7_share_76 : decode cX7_share 76 = .ok (.istore 4, 2) := by decide +kernel
theorem dX7_share_78 : decode cX7_share 78 = .ok (.iload 8, 2) := by decide +kernel
theorem dX7_share_80 : decode cX7_share 80 = .ok (.iload 6, 2) := by decide +kernel
theorem dX7_share_82 : decode cX7_share 82 = .ok (.if_icmp .gt 16, 3) := by decide +kernel
theorem dX7_share_85 : decode cX7_share 85 = .ok (.iload 8, 2) := by decide +kernel
theorem dX7_share_87 : decode cX7_share 87 = .ok (.iload 6, 2) := by decide +kernel
theorem dX7_share_89 : decode cX7_share 89 = .ok (.if_icmp .ne 12, 3) := by decide +kernel
theorem dX7_share_92 : decode cX7_share 92 = .ok (.iload 7, 2) := by decide +kernel
theorem dX7_share_94 : decode cX7_share 94 = .ok (.iload_n 2, 1) := by decide +kernel
theorem dX7_share_95 : decode cX7_share 95 = .ok (.if_icmp .ge 6, 3) := by decide +kernel
theorem dX7_share_98 : decode cX7_share 98 = .ok (.iinc 5 1, 3) := by decide +kernel
theorem dX7_share_101 : decode cX7_share 101 = .ok (.iinc 7 1, 3) := by decide +kernel
theorem dX7_share_104 : decode cX7_share 104 = .ok (.goto (-62), 3) := by decide +kernel
theorem dX7_share_107 : decode cX7_share 107 = .ok (.iload_n 1, 1) := by decide +kernel
theorem dX7_share_108 : decode cX7_share 108 = .ok (.aload_n 0, 1) := by decide +kernel
theorem dX7_share_109 : decode cX7_share 109 = .ok (.getfield 21, 3) := by decide +kernel
theorem dX7_share_112 : decode cX7_share 112 = .ok (.iload_n 2, 1) := by decide +kernel
theorem dX7_share_113 : decode cX7_share 113 = .ok (.iaload, 1) := by decide +kernel
theorem dX7_share_114 : decode cX7_share 114 = .ok (.imul, 1) := by decide +kernel
theorem dX7_share_115 : decode cX7_share 115 = .ok (.iload_n 3, 1) := by decide +kernel
theorem dX7_share_116 : decode cX7_share 116 = .ok (.idiv, 1) := by decide +kernel
theorem dX7_share_117 : decode cX7_share 117 = .ok (.iload 5, 2) := by decide +kernel
theorem dX7_share_119 : decode cX7_share 119 = .ok (.iload 4, 2) := by decide +kernel
theorem dX7_share_121 : decode cX7_share 121 = .ok (.if_icmp .ge 7, 3) := by decide +kernel
theorem dX7_share_124 : decode cX7_share 124 = .ok (.iconst 1, 1) := by decide +kernel
theorem dX7_share_125 : decode cX7_share 125 = .ok (.goto 4, 3) := by decide +kernel
theorem dX7_share_128 : decode cX7_share 128 = .ok (.iconst 0, 1) := by decide +kernel
theorem dX7_share_129 : decode cX7_share 129 = .ok (.iadd, 1) := by decide +kernel
theorem dX7_share_130 : decode cX7_share 130 = .ok (.ireturn, 1) := by decide +kernel
theorem dX8_init_0 : decode cX8_init 0 = .ok (.aload_n 0, 1) := by decide +kernel
theorem dX8_init_1 : decode cX8_init 1 = .ok (.invokespecial 3, 3) := by decide +kernel
theorem dX8_init_4 : decode cX8_init 4 = .ok (.aload_n 0, 1) := by decide +kernel
theorem dX8_init_5 : decode cX8_init 5 = .ok (.sipush 400, 3) := by decide +kernel
theorem dX8_init_8 : decode cX8_init 8 = .ok (.newarray .int, 2) := by decide +kernel
theorem dX8_init_10 : decode cX8_init 10 = .ok (.putfield 9, 3) := by decide +kernel
theorem dX8_init_13 : decode cX8_init 13 = .ok (.aload_n 0, 1) := by decide +kernel
theorem dX8_init_14 : decode cX8_init 14 = .ok (.iconst 0, 1) := by decide +kernel
theorem dX8_init_15 : decode cX8_init 15 = .ok (.putfield 15, 3) := by decide +kernel
theorem dX8_init_18 : decode cX8_init 18 = .ok (.aload_n 0, 1) := by decide +kernel
theorem dX8_init_19 : decode cX8_init 19 = .ok (.iconst 0, 1) := by decide +kernel
theorem dX8_init_20 : decode cX8_init 20 = .ok (.putfield 19, 3) := by decide +kernel
theorem dX8_init_23 : decode cX8_init 23 = .ok (.aload_n 0, 1) := by decide +kernel
theorem dX8_init_24 : decode cX8_init 24 = .ok (.iconst 0, 1) := by decide +kernel
theorem dX8_init_25 : decode cX8_init 25 = .ok (.putfield 22, 3) := by decide +kernel
theorem dX8_init_28 : decode cX8_init 28 = .ok (.aload_n 0, 1) := by decide +kernel
theorem dX8_init_29 : decode cX8_init 29 = .ok (.iconst (-1), 1) := by decide +kernel
theorem dX8_init_30 : decode cX8_init 30 = .ok (.putfield 25, 3) := by decide +kernel
theorem dX8_init_33 : decode cX8_init 33 = .ok (.aload_n 0, 1) := by decide +kernel
theorem dX8_init_34 : decode cX8_init 34 = .ok (.iconst 0, 1) := by decide +kernel
theorem dX8_init_35 : decode cX8_init 35 = .ok (.putfield 28, 3) := by decide +kernel
theorem dX8_init_38 : decode cX8_init 38 = .ok (.aload_n 0, 1) := by decide +kernel
theorem dX8_init_39 : decode cX8_init 39 = .ok (.iconst 0, 1) := by decide +kernel
theorem dX8_init_40 : decode cX8_init 40 = .ok (.putfield 31, 3) := by decide +kernel
theorem dX8_init_43 : decode cX8_init 43 = .ok (.return_, 1) := by decide +kernel
theorem dX8_add_0 : decode cX8_add 0 = .ok (.bipush 24, 2) := by decide +kernel
theorem dX8_add_2 : decode cX8_add 2 = .ok (.istore_n 2, 1) := by decide +kernel
theorem dX8_add_3 : decode cX8_add 3 = .ok (.iload_n 2, 1) := by decide +kernel
theorem dX8_add_4 : decode cX8_add 4 = .ok (.ifCond .lt 45, 3) := by decide +kernel
theorem dX8_add_7 : decode cX8_add 7 = .ok (.aload_n 0, 1) := by decide +kernel
theorem dX8_add_8 : decode cX8_add 8 = .ok (.getfield 15, 3) := by decide +kernel
theorem dX8_add_11 : decode cX8_add 11 = .ok (.sipush 400, 3) := by decide +kernel
theorem dX8_add_14 : decode cX8_add 14 = .ok (.if_icmp .ge 29, 3) := by decide +kernel
theorem dX8_add_17 : decode cX8_add 17 = .ok (.aload_n 0, 1) := by decide +kernel
theorem dX8_add_18 : decode cX8_add 18 = .ok (.getfield 9, 3) := by decide +kernel
theorem dX8_add_21 : decode cX8_add 21 = .ok (.aload_n 0, 1) := by decide +kernel
theorem dX8_add_22 : decode cX8_add 22 = .ok (.getfield 15, 3) := by decide +kernel
theorem dX8_add_25 : decode cX8_add 25 = .ok (.iload_n 1, 1) := by decide +kernel
theorem dX8_add_26 : decode cX8_add 26 = .ok (.iload_n 2, 1) := by decide +kernel
theorem dX8_add_27 : decode cX8_add 27 = .ok (.iushr, 1) := by decide +kernel
theorem dX8_add_28 : decode cX8_add 28 = .ok (.sipush 255, 3) := by decide +kernel
theorem dX8_add_31 : decode cX8_add 31 = .ok (.iand, 1) := by decide +kernel
theorem dX8_add_32 : decode cX8_add 32 = .ok (.iastore, 1) := by decide +kernel
theorem dX8_add_33 : decode cX8_add 33 = .ok (.aload_n 0, 1) := by decide +kernel
theorem dX8_add_34 : decode cX8_add 34 = .ok (.dup, 1) := by decide +kernel
theorem dX8_add_35 : decode cX8_add 35 = .ok (.getfield 15, 3) := by decide +kernel
theorem dX8_add_38 : decode cX8_add 38 = .ok (.iconst 1, 1) := by decide +kernel
theorem dX8_add_39 : decode cX8_add 39 = .ok (.iadd, 1) := by decide +kernel
theorem dX8_add_40 : decode cX8_add 40 = .ok (.putfield 15, 3) := by decide +kernel
theorem dX8_add_43 : decode cX8_add 43 = .ok (.iinc 2 (-8), 3) := by decide +kernel
theorem dX8_add_46 : decode cX8_add 46 = .ok (.goto (-43), 3) := by decide +kernel
theorem dX8_add_49 : decode cX8_add 49 = .ok (.return_, 1) := by decide +kernel
theorem dX8_clear_0 : decode cX8_clear 0 = .ok (.aload_n 0, 1) := by decide +kernel
theorem dX8_clear_1 : decode cX8_clear 1 = .ok (.iconst 0, 1) := by decide +kernel
theorem dX8_clear_2 : decode cX8_clear 2 = .ok (.putfield 15, 3) := by decide +kernel
theorem dX8_clear_5 : decode cX8_clear 5 = .ok (.return_, 1) := by decide +kernel
theorem dX8_open_0 : decode cX8_open 0 = .ok (.aload_n 0, 1) := by decide +kernel
theorem dX8_open_1 : decode cX8_open 1 = .ok (.iconst 0, 1) := by decide +kernel
theorem dX8_open_2 : decode cX8_open 2 = .ok (.putfield 19, 3) := by decide +kernel
theorem dX8_open_5 : decode cX8_open 5 = .ok (.aload_n 0, 1) := by decide +kernel
theorem dX8_open_6 : decode cX8_open 6 = .ok (.iconst 0, 1) := by decide +kernel
theorem dX8_open_7 : decode cX8_open 7 = .ok (.putfield 22, 3) := by decide +kernel
theorem dX8_open_10 : decode cX8_open 10 = .ok (.return_, 1) := by decide +kernel
theorem dX8_isSound_0 : decode cX8_isSound 0 = .ok (.aload_n 0, 1) := by decide +kernel
theorem dX8_isSound_1 : decode cX8_isSound 1 = .ok (.getfield 22, 3) := by decide +kernel
theorem dX8_isSound_4 : decode cX8_isSound 4 = .ok (.ifCond .ne 7, 3) := by decide +kernel
theorem dX8_isSound_7 : decode cX8_isSound 7 = .ok (.iconst 1, 1) := by decide +kernel
theorem dX8_isSound_8 : decode cX8_isSound 8 = .ok (.goto 4, 3) := by decide +kernel
theorem dX8_isSound_11 : decode cX8_isSound 11 = .ok (.iconst 0, 1) := by decide +kernel
theorem dX8_isSound_12 : decode cX8_isSound 12 = .ok (.ireturn, 1) := by decide +kernel
theorem dX8_fail_0 : decode cX8_fail 0 = .ok (.aload_n 0, 1) := by decide +kernel
theorem dX8_fail_1 : decode cX8_fail 1 = .ok (.getfield 22, 3) := by decide +kernel
theorem dX8_fail_4 : decode cX8_fail 4 = .ok (.ifCond .ne 18, 3) := by decide +kernel
theorem dX8_fail_7 : decode cX8_fail 7 = .ok (.aload_n 0, 1) := by decide +kernel
theorem dX8_fail_8 : decode cX8_fail 8 = .ok (.iconst 1, 1) := by decide +kernel
theorem dX8_fail_9 : decode cX8_fail 9 = .ok (.bipush 8, 2) := by decide +kernel
theorem dX8_fail_11 : decode cX8_fail 11 = .ok (.aload_n 0, 1) := by decide +kernel
theorem dX8_fail_12 : decode cX8_fail 12 = .ok (.getfield 28, 3) := by decide +kernel
theorem dX8_fail_15 : decode cX8_fail 15 = .ok (.imul, 1) := by decide +kernel
theorem dX8_fail_16 : decode cX8_fail 16 = .ok (.iadd, 1) := by decide +kernel
theorem dX8_fail_17 : decode cX8_fail 17 = .ok (.iload_n 1, 1) := by decide +kernel
theorem dX8_fail_18 : decode cX8_fail 18 = .ok (.iadd, 1) := by decide +kernel
theorem dX8_fail_19 : decode cX8_fail 19 = .ok (.putfield 22, 3) := by decide +kernel
theorem dX8_fail_22 : decode cX8_fail 22 = .ok (.return_, 1) := by decide +kernel
theorem dX8_advance_0 : decode cX8_advance 0 = .ok (.aload_n 0, 1) := by decide +kernel
theorem dX8_advance_1 : decode cX8_advance 1 = .ok (.getfield 19, 3) := by decide +kernel
theorem dX8_advance_4 : decode cX8_advance 4 = .ok (.aload_n 0, 1) := by decide +kernel
theorem dX8_advance_5 : decode cX8_advance 5 = .ok (.getfield 15, 3) := by decide +kernel
theorem dX8_advance_8 : decode cX8_advance 8 = .ok (.if_icmp .ge 29, 3) := by decide +kernel
theorem dX8_advance_11 : decode cX8_advance 11 = .ok (.aload_n 0, 1) := by decide +kernel
theorem dX8_advance_12 : decode cX8_advance 12 = .ok (.aload_n 0, 1) := by decide +kernel
theorem dX8_advance_13 : decode cX8_advance 13 = .ok (.getfield 19, 3) := by decide +kernel
theorem dX8_advance_16 : decode cX8_advance 16 = .ok (.invokevirtual 34, 3) := by decide +kernel
theorem dX8_advance_19 : decode cX8_advance 19 = .ok (.bipush 32, 2) := by decide +kernel
theorem dX8_advance_21 : decode cX8_advance 21 = .ok (.if_icmp .ne 16, 3) := by decide +kernel
theorem dX8_advance_24 : decode cX8_advance 24 = .ok (.aload_n 0, 1) := by decide +kernel
theorem dX8_advance_25 : decode cX8_advance 25 = .ok (.dup, 1) := by decide +kernel
theorem dX8_advance_26 : decode cX8_advance 26 = .ok (.getfield 19, 3) := by decide +kernel
theorem dX8_advance_29 : decode cX8_advance 29 = .ok (.iconst 1, 1) := by decide +kernel
theorem dX8_advance_30 : decode cX8_advance 30 = .ok (.iadd, 1) := by decide +kernel
theorem dX8_advance_31 : decode cX8_advance 31 = .ok (.putfield 19, 3) := by decide +kernel
theorem dX8_advance_34 : decode cX8_advance 34 = .ok (.goto (-34), 3) := by decide +kernel
theorem dX8_advance_37 : decode cX8_advance 37 = .ok (.aload_n 0, 1) := by decide +kernel
theorem dX8_advance_38 : decode cX8_advance 38 = .ok (.aload_n 0, 1) := by decide +kernel
theorem dX8_advance_39 : decode cX8_advance 39 = .ok (.getfield 19, 3) := by decide +kernel
theorem dX8_advance_42 : decode cX8_advance 42 = .ok (.putfield 28, 3) := by decide +kernel
theorem dX8_advance_45 : decode cX8_advance 45 = .ok (.aload_n 0, 1) := by decide +kernel
theorem dX8_advance_46 : decode cX8_advance 46 = .ok (.aload_n 0, 1) := by decide +kernel
theorem dX8_advance_47 : decode cX8_advance 47 = .ok (.getfield 19, 3) := by decide +kernel
theorem dX8_advance_50 : decode cX8_advance 50 = .ok (.invokevirtual 34, 3) := by decide +kernel
theorem dX8_advance_53 : decode cX8_advance 53 = .ok (.istore_n 1, 1) := by decide +kernel
theorem dX8_advance_54 : decode cX8_advance 54 = .ok (.iload_n 1, 1) := by decide +kernel
theorem dX8_advance_55 : decode cX8_advance 55 = .ok (.bipush 48, 2) := by decide +kernel
theorem dX8_advance_57 : decode cX8_advance 57 = .ok (.if_icmp .lt 16, 3) := by decide +kernel
theorem dX8_advance_60 : decode cX8_advance 60 = .ok (.iload_n 1, 1) := by decide +kernel
theorem dX8_advance_61 : decode cX8_advance 61 = .ok (.bipush 57, 2) := by decide +kernel
theorem dX8_advance_63 : decode cX8_advance 63 = .ok (.if_icmp .gt 10, 3) := by decide +kernel
theorem dX8_advance_66 : decode cX8_advance 66 = .ok (.aload_n 0, 1) := by decide +kernel
theorem dX8_advance_67 : decode cX8_advance 67 = .ok (.invokevirtual 38, 3) := by decide +kernel
theorem dX8_advance_70 : decode cX8_advance 70 = .ok (.goto 27, 3) := by decide +kernel
theorem dX8_advance_73 : decode cX8_advance 73 = .ok (.iload_n 1, 1) := by decide +kernel
theorem dX8_advance_74 : decode cX8_advance 74 = .ok (.bipush 97, 2) := by decide +kernel
theorem dX8_advance_76 : decode cX8_advance 76 = .ok (.if_icmp .lt 16, 3) := by decide +kernel
theorem dX8_advance_79 : decode cX8_advance 79 = .ok (.iload_n 1, 1) := by decide +kernel
theorem dX8_advance_80 : decode cX8_advance 80 = .ok (.bipush 122, 2) := by decide +kernel
theorem dX8_advance_82 : decode cX8_advance 82 = .ok (.if_icmp .gt 10, 3) := by decide +kernel
theorem dX8_advance_85 : decode cX8_advance 85 = .ok (.aload_n 0, 1) := by decide +kernel
theorem dX8_advance_86 : decode cX8_advance 86 = .ok (.invokevirtual 41, 3) := by decide +kernel
theorem dX8_advance_89 : decode cX8_advance 89 = .ok (.goto 8, 3) := by decide +kernel
theorem dX8_advance_92 : decode cX8_advance 92 = .ok (.aload_n 0, 1) := by decide +kernel
theorem dX8_advance_93 : decode cX8_advance 93 = .ok (.iload_n 1, 1) := by decide +kernel
theorem dX8_advance_94 : decode cX8_advance 94 = .ok (.invokevirtual 44, 3) := by decide +kernel
theorem dX8_advance_97 : decode cX8_advance 97 = .ok (.return_, 1) := by decide +kernel
theorem dX8_byteAt_0 : decode cX8_byteAt 0 = .ok (.iload_n 1, 1) := by decide +kernel
theorem dX8_byteAt_1 : decode cX8_byteAt 1 = .ok (.ifCond .lt 27, 3) := by decide +kernel
theorem dX8_byteAt_4 : decode cX8_byteAt 4 = .ok (.iload_n 1, 1) := by decide +kernel
theorem dX8_byteAt_5 : decode cX8_byteAt 5 = .ok (.aload_n 0, 1) := by decide +kernel
theorem dX8_byteAt_6 : decode cX8_byteAt 6 = .ok (.getfield 15, 3) := by decide +kernel
theorem dX8_byteAt_9 : decode cX8_byteAt 9 = .ok (.if_icmp .ge 19, 3) := by decide +kernel
theorem dX8_byteAt_12 : decode cX8_byteAt 12 = .ok (.iload_n 1, 1) := by decide +kernel
theorem dX8_byteAt_13 : decode cX8_byteAt 13 = .ok (.sipush 400, 3) := by decide +kernel
theorem dX8_byteAt_16 : decode cX8_byteAt 16 = .ok (.if_icmp .ge 12, 3) := by decide +kernel
theorem dX8_byteAt_19 : decode cX8_byteAt 19 = .ok (.aload_n 0, 1) := by decide +kernel
theorem dX8_byteAt_20 : decode cX8_byteAt 20 = .ok (.getfield 9, 3) := by decide +kernel
theorem dX8_byteAt_23 : decode cX8_byteAt 23 = .ok (.iload_n 1, 1) := by decide +kernel
theorem dX8_byteAt_24 : decode cX8_byteAt 24 = .ok (.iaload, 1) := by decide +kernel
theorem dX8_byteAt_25 : decode cX8_byteAt 25 = .ok (.goto 4, 3) := by decide +kernel
theorem dX8_byteAt_28 : decode cX8_byteAt 28 = .ok (.iconst (-1), 1) := by decide +kernel
theorem dX8_byteAt_29 : decode cX8_byteAt 29 = .ok (.ireturn, 1) := by decide +kernel
theorem dX8_readNumber_0 : decode cX8_readNumber 0 = .ok (.aload_n 0, 1) := by decide +kernel
theorem dX8_readNumber_1 : decode cX8_readNumber 1 = .ok (.sipush 256, 3) := by decide +kernel
theorem dX8_readNumber_4 : decode cX8_readNumber 4 = .ok (.putfield 25, 3) := by decide +kernel
theorem dX8_readNumber_7 : decode cX8_readNumber 7 = .ok (.aload_n 0, 1) := by decide +kernel
theorem dX8_readNumber_8 : decode cX8_readNumber 8 = .ok (.iconst 0, 1) := by decide +kernel
theorem dX8_readNumber_9 : decode cX8_readNumber 9 = .ok (.putfield 31, 3) := by decide +kernel
theorem dX8_readNumber_12 : decode cX8_readNumber 12 = .ok (.aload_n 0, 1) := by decide +kernel
theorem dX8_readNumber_13 : decode cX8_readNumber 13 = .ok (.getfield 19, 3) := by decide +kernel
theorem dX8_readNumber_16 : decode cX8_readNumber 16 = .ok (.aload_n 0, 1) := by decide +kernel
theorem dX8_readNumber_17 : decode cX8_readNumber 17 = .ok (.getfield 15, 3) := by decide +kernel
theorem dX8_readNumber_20 : decode cX8_readNumber 20 = .ok (.if_icmp .ge 82, 3) := by decide +kernel
theorem dX8_readNumber_23 : decode cX8_readNumber 23 = .ok (.aload_n 0, 1) := by decide +kernel
theorem dX8_readNumber_24 : decode cX8_readNumber 24 = .ok (.aload_n 0, 1) := by decide +kernel
theorem dX8_readNumber_25 : decode cX8_readNumber 25 = .ok (.getfield 19, 3) := by decide +kernel
theorem dX8_readNumber_28 : decode cX8_readNumber 28 = .ok (.invokevirtual 34, 3) := by decide +kernel
theorem dX8_readNumber_31 : decode cX8_readNumber 31 = .ok (.bipush 48, 2) := by decide +kernel
theorem dX8_readNumber_33 : decode cX8_readNumber 33 = .ok (.if_icmp .lt 69, 3) := by decide +kernel
theorem dX8_readNumber_36 : decode cX8_readNumber 36 = .ok (.aload_n 0, 1) := by decide +kernel
theorem dX8_readNumber_37 : decode cX8_readNumber 37 = .ok (.aload_n 0, 1) := by decide +kernel
theorem dX8_readNumber_38 : decode cX8_readNumber 38 = .ok (.getfield 19, 3) := by decide +kernel
theorem dX8_readNumber_41 : decode cX8_readNumber 41 = .ok (.invokevirtual 34, 3) := by decide +kernel
theorem dX8_readNumber_44 : decode cX8_readNumber 44 = .ok (.bipush 57, 2) := by decide +kernel
theorem dX8_readNumber_46 : decode cX8_readNumber 46 = .ok (.if_icmp .gt 56, 3) := by decide +kernel
theorem dX8_readNumber_49 : decode cX8_readNumber 49 = .ok (.aload_n 0, 1) := by decide +kernel
theorem dX8_readNumber_50 : decode cX8_readNumber 50 = .ok (.aload_n 0, 1) := by decide +kernel
theorem dX8_readNumber_51 : decode cX8_readNumber 51 = .ok (.getfield 19, 3) := by decide +kernel
theorem dX8_readNumber_54 : decode cX8_readNumber 54 = .ok (.aload_n 0, 1) := by decide +kernel
theorem dX8_readNumber_55 : decode cX8_readNumber 55 = .ok (.getfield 28, 3) := by decide +kernel
theorem dX8_readNumber_58 : decode cX8_readNumber 58 = .ok (.isub, 1) := by decide +kernel
theorem dX8_readNumber_59 : decode cX8_readNumber 59 = .ok (.iconst 5, 1) := by decide +kernel
theorem dX8_readNumber_60 : decode cX8_readNumber 60 = .ok (.if_icmp .ge 25, 3) := by decide +kernel
theorem dX8_readNumber_63 : decode cX8_readNumber 63 = .ok (.aload_n 0, 1) := by decide +kernel
theorem dX8_readNumber_64 : decode cX8_readNumber 64 = .ok (.getfield 31, 3) := by decide +kernel
theorem dX8_readNumber_67 : decode cX8_readNumber 67 = .ok (.bipush 10, 2) := by decide +kernel
theorem dX8_readNumber_69 : decode cX8_readNumber 69 = .ok (.imul, 1) := by decide +kernel
theorem dX8_readNumber_70 : decode cX8_readNumber 70 = .ok (.aload_n 0, 1) := by decide +kernel
theorem dX8_readNumber_71 : decode cX8_readNumber 71 = .ok (.aload_n 0, 1) := by decide +kernel
theorem dX8_readNumber_72 : decode cX8_readNumber 72 = .ok (.getfield 19, 3) := by decide +kernel
theorem dX8_readNumber_75 : decode cX8_readNumber 75 = .ok (.invokevirtual 34, 3) := by decide +kernel
theorem dX8_readNumber_78 : decode cX8_readNumber 78 = .ok (.iadd, 1) := by decide +kernel
theorem dX8_readNumber_79 : decode cX8_readNumber 79 = .ok (.bipush 48, 2) := by decide +kernel
theorem dX8_readNumber_81 : decode cX8_readNumber 81 = .ok (.isub, 1) := by decide +kernel
theorem dX8_readNumber_82 : decode cX8_readNumber 82 = .ok (.goto 4, 3) := by decide +kernel
theorem dX8_readNumber_85 : decode cX8_readNumber 85 = .ok (.iconst (-1), 1) := by decide +kernel
theorem dX8_readNumber_86 : decode cX8_readNumber 86 = .ok (.putfield 31, 3) := by decide +kernel
theorem dX8_readNumber_89 : decode cX8_readNumber 89 = .ok (.aload_n 0, 1) := by decide +kernel
theorem dX8_readNumber_90 : decode cX8_readNumber 90 = .ok (.dup, 1) := by decide +kernel
theorem dX8_readNumber_91 : decode cX8_readNumber 91 = .ok (.getfield 19, 3) := by decide +kernel
theorem dX8_readNumber_94 : decode cX8_readNumber 94 = .ok (.iconst 1, 1) := by decide +kernel
theorem dX8_readNumber_95 : decode cX8_readNumber 95 = .ok (.iadd, 1) := by decide +kernel
theorem dX8_readNumber_96 : decode cX8_readNumber 96 = .ok (.putfield 19, 3) := by decide +kernel
theorem dX8_readNumber_99 : decode cX8_readNumber 99 = .ok (.goto (-87), 3) := by decide +kernel
theorem dX8_readNumber_102 : decode cX8_readNumber 102 = .ok (.return_, 1) := by decide +kernel
theorem dX8_readWord_0 : decode cX8_readWord 0 = .ok (.aload_n 0, 1) := by decide +kernel
theorem dX8_readWord_1 : decode cX8_readWord 1 = .ok (.getfield 19, 3) := by decide +kernel
theorem dX8_readWord_4 : decode cX8_readWord 4 = .ok (.aload_n 0, 1) := by decide +kernel
theorem dX8_readWord_5 : decode cX8_readWord 5 = .ok (.getfield 15, 3) := by decide +kernel
theorem dX8_readWord_8 : decode cX8_readWord 8 = .ok (.if_icmp .ge 42, 3) := by decide +kernel
theorem dX8_readWord_11 : decode cX8_readWord 11 = .ok (.aload_n 0, 1) := by decide +kernel
theorem dX8_readWord_12 : decode cX8_readWord 12 = .ok (.aload_n 0, 1) := by decide +kernel
theorem dX8_readWord_13 : decode cX8_readWord 13 = .ok (.getfield 19, 3) := by decide +kernel
theorem dX8_readWord_16 : decode cX8_readWord 16 = .ok (.invokevirtual 34, 3) := by decide +kernel
theorem dX8_readWord_19 : decode cX8_readWord 19 = .ok (.bipush 97, 2) := by decide +kernel
theorem dX8_readWord_21 : decode cX8_readWord 21 = .ok (.if_icmp .lt 29, 3) := by decide +kernel
theorem dX8_readWord_24 : decode cX8_readWord 24 = .ok (.aload_n 0, 1) := by decide +kernel
theorem dX8_readWord_25 : decode cX8_readWord 25 = .ok (.aload_n 0, 1) := by decide +kernel
theorem dX8_readWord_26 : decode cX8_readWord 26 = .ok (.getfield 19, 3) := by decide +kernel
theorem dX8_readWord_29 : decode cX8_readWord 29 = .ok (.invokevirtual 34, 3) := by decide +kernel
theorem dX8_readWord_32 : decode cX8_readWord 32 = .ok (.bipush 122, 2) := by decide +kernel
theorem dX8_readWord_34 : decode cX8_readWord 34 = .ok (.if_icmp .gt 16, 3) := by decide +kernel
theorem dX8_readWord_37 : decode cX8_readWord 37 = .ok (.aload_n 0, 1) := by decide +kernel
theorem dX8_readWord_38 : decode cX8_readWord 38 = .ok (.dup, 1) := by decide +kernel
theorem dX8_readWord_39 : decode cX8_readWord 39 = .ok (.getfield 19, 3) := by decide +kernel
theorem dX8_readWord_42 : decode cX8_readWord 42 = .ok (.iconst 1, 1) := by decide +kernel
theorem dX8_readWord_43 : decode cX8_readWord 43 = .ok (.iadd, 1) := by decide +kernel
theorem dX8_readWord_44 : decode cX8_readWord 44 = .ok (.putfield 19, 3) := by decide +kernel
theorem dX8_readWord_47 : decode cX8_readWord 47 = .ok (.goto (-47), 3) := by decide +kernel
theorem dX8_readWord_50 : decode cX8_readWord 50 = .ok (.aload_n 0, 1) := by decide +kernel
theorem dX8_readWord_51 : decode cX8_readWord 51 = .ok (.sipush 259, 3) := by decide +kernel
theorem dX8_readWord_54 : decode cX8_readWord 54 = .ok (.putfield 25, 3) := by decide +kernel
theorem dX8_readWord_57 : decode cX8_readWord 57 = .ok (.sipush 300, 3) := by decide +kernel
theorem dX8_readWord_60 : decode cX8_readWord 60 = .ok (.istore_n 1, 1) := by decide +kernel
theorem dX8_readWord_61 : decode cX8_readWord 61 = .ok (.iload_n 1, 1) := by decide +kernel
theorem dX8_readWord_62 : decode cX8_readWord 62 = .ok (.sipush 320, 3) := by decide +kernel
theorem dX8_readWord_65 : decode cX8_readWord 65 = .ok (.if_icmp .ge 35, 3) := by decide +kernel
theorem dX8_readWord_68 : decode cX8_readWord 68 = .ok (.aload_n 0, 1) := by decide +kernel
theorem dX8_readWord_69 : decode cX8_readWord 69 = .ok (.getfield 25, 3) := by decide +kernel
theorem dX8_readWord_72 : decode cX8_readWord 72 = .ok (.sipush 259, 3) := by decide +kernel
theorem dX8_readWord_75 : decode cX8_readWord 75 = .ok (.if_icmp .ne 25, 3) := by decide +kernel
theorem dX8_readWord_78 : decode cX8_readWord 78 = .ok (.aload_n 0, 1) := by decide +kernel
theorem dX8_readWord_79 : decode cX8_readWord 79 = .ok (.iload_n 1, 1) := by decide +kernel
theorem dX8_readWord_80 : decode cX8_readWord 80 = .ok (.invokestatic 48, 3) := by decide +kernel
theorem dX8_readWord_83 : decode cX8_readWord 83 = .ok (.invokevirtual 52, 3) := by decide +kernel
theorem dX8_readWord_86 : decode cX8_readWord 86 = .ok (.ifCond .eq 8, 3) := by decide +kernel
theorem dX8_readWord_89 : decode cX8_readWord 89 = .ok (.aload_n 0, 1) := by decide +kernel
theorem dX8_readWord_90 : decode cX8_readWord 90 = .ok (.iload_n 1, 1) := by decide +kernel
theorem dX8_readWord_91 : decode cX8_readWord 91 = .ok (.putfield 25, 3) := by decide +kernel
theorem dX8_readWord_94 : decode cX8_readWord 94 = .ok (.iinc 1 1, 3) := by decide +kernel
theorem dX8_readWord_97 : decode cX8_readWord 97 = .ok (.goto (-36), 3) := by decide +kernel
theorem dX8_readWord_100 : decode cX8_readWord 100 = .ok (.return_, 1) := by decide +kernel
theorem dX8_readSign_0 : decode cX8_readSign 0 = .ok (.aload_n 0, 1) := by decide +kernel
theorem dX8_readSign_1 : decode cX8_readSign 1 = .ok (.iload_n 1, 1) := by decide +kernel
theorem dX8_readSign_2 : decode cX8_readSign 2 = .ok (.putfield 25, 3) := by decide +kernel
theorem dX8_readSign_5 : decode cX8_readSign 5 = .ok (.iload_n 1, 1) := by decide +kernel
theorem dX8_readSign_6 : decode cX8_readSign 6 = .ok (.iconst (-1), 1) := by decide +kernel
theorem dX8_readSign_7 : decode cX8_readSign 7 = .ok (.if_icmp .eq 13, 3) := by decide +kernel
theorem dX8_readSign_10 : decode cX8_readSign 10 = .ok (.aload_n 0, 1) := by decide +kernel
theorem dX8_readSign_11 : decode cX8_readSign 11 = .ok (.dup, 1) := by decide +kernel
theorem dX8_readSign_12 : decode cX8_readSign 12 = .ok (.getfield 19, 3) := by decide +kernel
theorem dX8_readSign_15 : decode cX8_readSign 15 = .ok (.iconst 1, 1) := by decide +kernel
theorem dX8_readSign_16 : decode cX8_readSign 16 = .ok (.iadd, 1) := by decide +kernel
theorem dX8_readSign_17 : decode cX8_readSign 17 = .ok (.putfield 19, 3) := by decide +kernel
theorem dX8_readSign_20 : decode cX8_readSign 20 = .ok (.iload_n 1, 1) := by decide +kernel
theorem dX8_readSign_21 : decode cX8_readSign 21 = .ok (.bipush 60, 2) := by decide +kernel
theorem dX8_readSign_23 : decode cX8_readSign 23 = .ok (.if_icmp .eq 9, 3) := by decide +kernel
theorem dX8_readSign_26 : decode cX8_readSign 26 = .ok (.iload_n 1, 1) := by decide +kernel
theorem dX8_readSign_27 : decode cX8_readSign 27 = .ok (.bipush 62, 2) := by decide +kernel
theorem dX8_readSign_29 : decode cX8_readSign 29 = .ok (.if_icmp .ne 45, 3) := by decide +kernel
theorem dX8_readSign_32 : decode cX8_readSign 32 = .ok (.aload_n 0, 1) := by decide +kernel
theorem dX8_readSign_33 : decode cX8_readSign 33 = .ok (.aload_n 0, 1) := by decide +kernel
theorem dX8_readSign_34 : decode cX8_readSign 34 = .ok (.getfield 19, 3) := by decide +kernel
theorem dX8_readSign_37 : decode cX8_readSign 37 = .ok (.invokevirtual 34, 3) := by decide +kernel
theorem dX8_readSign_40 : decode cX8_readSign 40 = .ok (.bipush 61, 2) := by decide +kernel
theorem dX8_readSign_42 : decode cX8_readSign 42 = .ok (.if_icmp .ne 32, 3) := by decide +kernel
theorem dX8_readSign_45 : decode cX8_readSign 45 = .ok (.aload_n 0, 1) := by decide +kernel
theorem dX8_readSign_46 : decode cX8_readSign 46 = .ok (.dup, 1) := by decide +kernel
theorem dX8_readSign_47 : decode cX8_readSign 47 = .ok (.getfield 19, 3) := by decide +kernel
theorem dX8_readSign_50 : decode cX8_readSign 50 = .ok (.iconst 1, 1) := by decide +kernel
theorem dX8_readSign_51 : decode cX8_readSign 51 = .ok (.iadd, 1) := by decide +kernel
theorem dX8_readSign_52 : decode cX8_readSign 52 = .ok (.putfield 19, 3) := by decide +kernel
theorem dX8_readSign_55 : decode cX8_readSign 55 = .ok (.aload_n 0, 1) := by decide +kernel
theorem dX8_readSign_56 : decode cX8_readSign 56 = .ok (.iload_n 1, 1) := by decide +kernel
theorem dX8_readSign_57 : decode cX8_readSign 57 = .ok (.bipush 60, 2) := by decide +kernel
theorem dX8_readSign_59 : decode cX8_readSign 59 = .ok (.if_icmp .ne 9, 3) := by decide +kernel
theorem dX8_readSign_62 : decode cX8_readSign 62 = .ok (.sipush 257, 3) := by decide +kernel
theorem dX8_readSign_65 : decode cX8_readSign 65 = .ok (.goto 6, 3) := by decide +kernel
theorem dX8_readSign_68 : decode cX8_readSign 68 = .ok (.sipush 258, 3) := by decide +kernel
theorem dX8_readSign_71 : decode cX8_readSign 71 = .ok (.putfield 25, 3) := by decide +kernel
theorem dX8_readSign_74 : decode cX8_readSign 74 = .ok (.return_, 1) := by decide +kernel
theorem dX8_isHere_0 : decode cX8_isHere 0 = .ok (.aload_n 0, 1) := by decide +kernel
theorem dX8_isHere_1 : decode cX8_isHere 1 = .ok (.getfield 19, 3) := by decide +kernel
theorem dX8_isHere_4 : decode cX8_isHere 4 = .ok (.aload_n 0, 1) := by decide +kernel
theorem dX8_isHere_5 : decode cX8_isHere 5 = .ok (.getfield 28, 3) := by decide +kernel
theorem dX8_isHere_8 : decode cX8_isHere 8 = .ok (.isub, 1) := by decide +kernel
theorem dX8_isHere_9 : decode cX8_isHere 9 = .ok (.aload_n 1, 1) := by decide +kernel
theorem dX8_isHere_10 : decode cX8_isHere 10 = .ok (.invokevirtual 56, 3) := by decide +kernel
theorem dX8_isHere_13 : decode cX8_isHere 13 = .ok (.if_icmp .eq 5, 3) := by decide +kernel
theorem dX8_isHere_16 : decode cX8_isHere 16 = .ok (.iconst 0, 1) := by decide +kernel
theorem dX8_isHere_17 : decode cX8_isHere 17 = .ok (.ireturn, 1) := by decide +kernel
theorem dX8_isHere_18 : decode cX8_isHere 18 = .ok (.iconst 0, 1) := by decide +kernel
theorem dX8_isHere_19 : decode cX8_isHere 19 = .ok (.istore_n 2, 1) := by decide +kernel
theorem dX8_isHere_20 : decode cX8_isHere 20 = .ok (.iload_n 2, 1) := by decide +kernel
theorem dX8_isHere_21 : decode cX8_isHere 21 = .ok (.aload_n 1, 1) := by decide +kernel
theorem dX8_isHere_22 : decode cX8_isHere 22 = .ok (.invokevirtual 56, 3) := by decide +kernel
theorem dX8_isHere_25 : decode cX8_isHere 25 = .ok (.if_icmp .ge 42, 3) := by decide +kernel
theorem dX8_isHere_28 : decode cX8_isHere 28 = .ok (.aload_n 0, 1) := by decide +kernel
theorem dX8_isHere_29 : decode cX8_isHere 29 = .ok (.getfield 28, 3) := by decide +kernel
theorem dX8_isHere_32 : decode cX8_isHere 32 = .ok (.iload_n 2, 1) := by decide +kernel
theorem dX8_isHere_33 : decode cX8_isHere 33 = .ok (.iadd, 1) := by decide +kernel
theorem dX8_isHere_34 : decode cX8_isHere 34 = .ok (.sipush 400, 3) := by decide +kernel
theorem dX8_isHere_37 : decode cX8_isHere 37 = .ok (.if_icmp .ge 22, 3) := by decide +kernel
theorem dX8_isHere_40 : decode cX8_isHere 40 = .ok (.aload_n 0, 1) := by decide +kernel
theorem dX8_isHere_41 : decode cX8_isHere 41 = .ok (.getfield 9, 3) := by decide +kernel
theorem dX8_isHere_44 : decode cX8_isHere 44 = .ok (.aload_n 0, 1) := by decide +kernel
theorem dX8_isHere_45 : decode cX8_isHere 45 = .ok (.getfield 28, 3) := by decide +kernel
theorem dX8_isHere_48 : decode cX8_isHere 48 = .ok (.iload_n 2, 1) := by decide +kernel
theorem dX8_isHere_49 : decode cX8_isHere 49 = .ok (.iadd, 1) := by decide +kernel
theorem dX8_isHere_50 : decode cX8_isHere 50 = .ok (.iaload, 1) := by decide +kernel
theorem dX8_isHere_51 : decode cX8_isHere 51 = .ok (.aload_n 1, 1) := by decide +kernel
theorem dX8_isHere_52 : decode cX8_isHere 52 = .ok (.iload_n 2, 1) := by decide +kernel
theorem dX8_isHere_53 : decode cX8_isHere 53 = .ok (.invokevirtual 61, 3) := by decide +kernel
theorem dX8_isHere_56 : decode cX8_isHere 56 = .ok (.if_icmp .eq 5, 3) := by decide +kernel
theorem dX8_isHere_59 : decode cX8_isHere 59 = .ok (.iconst 0, 1) := by decide +kernel
theorem dX8_isHere_60 : decode cX8_isHere 60 = .ok (.ireturn, 1) := by decide +kernel
theorem dX8_isHere_61 : decode cX8_isHere 61 = .ok (.iinc 2 1, 3) := by decide +kernel
theorem dX8_isHere_64 : decode cX8_isHere 64 = .ok (.goto (-44), 3) := by decide +kernel
theorem dX8_isHere_67 : decode cX8_isHere 67 = .ok (.iconst 1, 1) := by decide +kernel
theorem dX8_isHere_68 : decode cX8_isHere 68 = .ok (.ireturn, 1) := by decide +kernel
theorem dX8_named_0 : decode cX8_named 0 = .ok (.iload_n 0, 1) := by decide +kernel
theorem dX8_named_1 : decode cX8_named 1 = .ok (.tableswitch 155 300 319 #[95, 98, 101, 104, 107, 110, 113, 116, 119, 122, 125, 128, 131, 134, 137, 140, 143, 146, 149, 152], 95) := by decide +kernel
theorem dX8_named_96 : decode cX8_named 96 = .ok (.ldc 65, 2) := by decide +kernel
theorem dX8_named_98 : decode cX8_named 98 = .ok (.areturn, 1) := by decide +kernel
theorem dX8_named_99 : decode cX8_named 99 = .ok (.ldc 67, 2) := by decide +kernel
theorem dX8_named_101 : decode cX8_named 101 = .ok (.areturn, 1) := by decide +kernel
theorem dX8_named_102 : decode cX8_named 102 = .ok (.ldc 69, 2) := by decide +kernel
theorem dX8_named_104 : decode cX8_named 104 = .ok (.areturn, 1) := by decide +kernel
theorem dX8_named_105 : decode cX8_named 105 = .ok (.ldc 71, 2) := by decide +kernel
theorem dX8_named_107 : decode cX8_named 107 = .ok (.areturn, 1) := by decide +kernel
theorem dX8_named_108 : decode cX8_named 108 = .ok (.ldc 73, 2) := by decide +kernel
theorem dX8_named_110 : decode cX8_named 110 = .ok (.areturn, 1) := by decide +kernel
theorem dX8_named_111 : decode cX8_named 111 = .ok (.ldc 75, 2) := by decide +kernel
theorem dX8_named_113 : decode cX8_named 113 = .ok (.areturn, 1) := by decide +kernel
theorem dX8_named_114 : decode cX8_named 114 = .ok (.ldc 77, 2) := by decide +kernel
theorem dX8_named_116 : decode cX8_named 116 = .ok (.areturn, 1) := by decide +kernel
theorem dX8_named_117 : decode cX8_named 117 = .ok (.ldc 79, 2) := by decide +kernel
theorem dX8_named_119 : decode cX8_named 119 = .ok (.areturn, 1) := by decide +kernel
theorem dX8_named_120 : decode cX8_named 120 = .ok (.ldc 81, 2) := by decide +kernel
theorem dX8_named_122 : decode cX8_named 122 = .ok (.areturn, 1) := by decide +kernel
theorem dX8_named_123 : decode cX8_named 123 = .ok (.ldc 83, 2) := by decide +kernel
theorem dX8_named_125 : decode cX8_named 125 = .ok (.areturn, 1) := by decide +kernel
theorem dX8_named_126 : decode cX8_named 126 = .ok (.ldc 85, 2) := by decide +kernel
theorem dX8_named_128 : decode cX8_named 128 = .ok (.areturn, 1) := by decide +kernel
theorem dX8_named_129 : decode cX8_named 129 = .ok (.ldc 87, 2) := by decide +kernel
theorem dX8_named_131 : decode cX8_named 131 = .ok (.areturn, 1) := by decide +kernel
theorem dX8_named_132 : decode cX8_named 132 = .ok (.ldc 89, 2) := by decide +kernel
theorem dX8_named_134 : decode cX8_named 134 = .ok (.areturn, 1) := by decide +kernel
theorem dX8_named_135 : decode cX8_named 135 = .ok (.ldc 91, 2) := by decide +kernel
theorem dX8_named_137 : decode cX8_named 137 = .ok (.areturn, 1) := by decide +kernel
theorem dX8_named_138 : decode cX8_named 138 = .ok (.ldc 93, 2) := by decide +kernel
theorem dX8_named_140 : decode cX8_named 140 = .ok (.areturn, 1) := by decide +kernel
theorem dX8_named_141 : decode cX8_named 141 = .ok (.ldc 95, 2) := by decide +kernel
theorem dX8_named_143 : decode cX8_named 143 = .ok (.areturn, 1) := by decide +kernel
theorem dX8_named_144 : decode cX8_named 144 = .ok (.ldc 97, 2) := by decide +kernel
theorem dX8_named_146 : decode cX8_named 146 = .ok (.areturn, 1) := by decide +kernel
theorem dX8_named_147 : decode cX8_named 147 = .ok (.ldc 99, 2) := by decide +kernel
theorem dX8_named_149 : decode cX8_named 149 = .ok (.areturn, 1) := by decide +kernel
theorem dX8_named_150 : decode cX8_named 150 = .ok (.ldc 101, 2) := by decide +kernel
theorem dX8_named_152 : decode cX8_named 152 = .ok (.areturn, 1) := by decide +kernel
theorem dX8_named_153 : decode cX8_named 153 = .ok (.ldc 103, 2) := by decide +kernel
theorem dX8_named_155 : decode cX8_named 155 = .ok (.areturn, 1) := by decide +kernel
theorem dX8_named_156 : decode cX8_named 156 = .ok (.ldc 105, 2) := by decide +kernel
theorem dX8_named_158 : decode cX8_named 158 = .ok (.areturn, 1) := by decide +kernel
theorem dX9_init_0 : decode cX9_init 0 = .ok (.aload_n 0, 1) := by decide +kernel
theorem dX9_init_1 : decode cX9_init 1 = .ok (.invokespecial 3, 3) := by decide +kernel
theorem dX9_init_4 : decode cX9_init 4 = .ok (.aload_n 0, 1) := by decide +kernel
theorem dX9_init_5 : decode cX9_init 5 = .ok (.bipush 12, 2) := by decide +kernel
theorem dX9_init_7 : decode cX9_init 7 = .ok (.newarray .long, 2) := by decide +kernel
theorem dX9_init_9 : decode cX9_init 9 = .ok (.putfield 9, 3) := by decide +kernel
theorem dX9_init_12 : decode cX9_init 12 = .ok (.return_, 1) := by decide +kernel
theorem dX9_pass_0 : decode cX9_pass 0 = .ok (.iconst 0, 1) := by decide +kernel
theorem dX9_pass_1 : decode cX9_pass 1 = .ok (.istore 5, 2) := by decide +kernel
theorem dX9_pass_3 : decode cX9_pass 3 = .ok (.iload 5, 2) := by decide +kernel
theorem dX9_pass_5 : decode cX9_pass 5 = .ok (.aload_n 1, 1) := by decide +kernel
theorem dX9_pass_6 : decode cX9_pass 6 = .ok (.getfield 15, 3) := by decide +kernel
theorem dX9_pass_9 : decode cX9_pass 9 = .ok (.if_icmp .ge 16, 3) := by decide +kernel
theorem dX9_pass_12 : decode cX9_pass 12 = .ok (.aload_n 3, 1) := by decide +kernel
theorem dX9_pass_13 : decode cX9_pass 13 = .ok (.iload 5, 2) := by decide +kernel
theorem dX9_pass_15 : decode cX9_pass 15 = .ok (.iconst 1, 1) := by decide +kernel
theorem dX9_pass_16 : decode cX9_pass 16 = .ok (.invokevirtual 21, 3) := by decide +kernel
theorem dX9_pass_19 : decode cX9_pass 19 = .ok (.iinc 5 1, 3) := by decide +kernel
theorem dX9_pass_22 : decode cX9_pass 22 = .ok (.goto (-19), 3) := by decide +kernel
theorem dX9_pass_25 : decode cX9_pass 25 = .ok (.aload_n 0, 1) := by decide +kernel
theorem dX9_pass_26 : decode cX9_pass 26 = .ok (.aload_n 1, 1) := by decide +kernel
theorem dX9_pass_27 : decode cX9_pass 27 = .ok (.aload_n 2, 1) := by decide +kernel
theorem dX9_pass_28 : decode cX9_pass 28 = .ok (.aload_n 3, 1) := by decide +kernel
theorem dX9_pass_29 : decode cX9_pass 29 = .ok (.iload 4, 2) := by decide +kernel
theorem dX9_pass_31 : decode cX9_pass 31 = .ok (.invokevirtual 27, 3) := by decide +kernel
theorem dX9_pass_34 : decode cX9_pass 34 = .ok (.istore 5, 2) := by decide +kernel
theorem dX9_pass_36 : decode cX9_pass 36 = .ok (.aload_n 1, 1) := by decide +kernel
theorem dX9_pass_37 : decode cX9_pass 37 = .ok (.aload_n 3, 1) := by decide +kernel
theorem dX9_pass_38 : decode cX9_pass 38 = .ok (.iload 5, 2) := by decide +kernel
theorem dX9_pass_40 : decode cX9_pass 40 = .ok (.invokestatic 31, 3) := by decide +kernel
theorem dX9_pass_43 : decode cX9_pass 43 = .ok (.aload_n 1, 1) := by decide +kernel
theorem dX9_pass_44 : decode cX9_pass 44 = .ok (.aload_n 3, 1) := by decide +kernel
theorem dX9_pass_45 : decode cX9_pass 45 = .ok (.invokestatic 35, 3) := by decide +kernel
theorem dX9_pass_48 : decode cX9_pass 48 = .ok (.aload_n 1, 1) := by decide +kernel
theorem dX9_pass_49 : decode cX9_pass 49 = .ok (.aload_n 3, 1) := by decide +kernel
theorem dX9_pass_50 : decode cX9_pass 50 = .ok (.invokestatic 39, 3) := by decide +kernel
theorem dX9_pass_53 : decode cX9_pass 53 = .ok (.aload_n 1, 1) := by decide +kernel
theorem dX9_pass_54 : decode cX9_pass 54 = .ok (.aload_n 3, 1) := by decide +kernel
theorem dX9_pass_55 : decode cX9_pass 55 = .ok (.invokestatic 42, 3) := by decide +kernel
theorem dX9_pass_58 : decode cX9_pass 58 = .ok (.aload_n 3, 1) := by decide +kernel
theorem dX9_pass_59 : decode cX9_pass 59 = .ok (.dup, 1) := by decide +kernel
theorem dX9_pass_60 : decode cX9_pass 60 = .ok (.getfield 45, 3) := by decide +kernel
theorem dX9_pass_63 : decode cX9_pass 63 = .ok (.iconst 1, 1) := by decide +kernel
theorem dX9_pass_64 : decode cX9_pass 64 = .ok (.iadd, 1) := by decide +kernel
theorem dX9_pass_65 : decode cX9_pass 65 = .ok (.putfield 45, 3) := by decide +kernel
theorem dX9_pass_68 : decode cX9_pass 68 = .ok (.iload 5, 2) := by decide +kernel
theorem dX9_pass_70 : decode cX9_pass 70 = .ok (.ireturn, 1) := by decide +kernel
theorem dX9_giversOf_0 : decode cX9_giversOf 0 = .ok (.iconst 0, 1) := by decide +kernel
theorem dX9_giversOf_1 : decode cX9_giversOf 1 = .ok (.istore 5, 2) := by decide +kernel
theorem dX9_giversOf_3 : decode cX9_giversOf 3 = .ok (.iconst 0, 1) := by decide +kernel
theorem dX9_giversOf_4 : decode cX9_giversOf 4 = .ok (.istore 6, 2) := by decide +kernel
theorem dX9_giversOf_6 : decode cX9_giversOf 6 = .ok (.iload 6, 2) := by decide +kernel
theorem dX9_giversOf_8 : decode cX9_giversOf 8 = .ok (.aload_n 1, 1) := by decide +kernel
theorem dX9_giversOf_9 : decode cX9_giversOf 9 = .ok (.getfield 15, 3) := by decide +kernel
theorem dX9_giversOf_12 : decode cX9_giversOf 12 = .ok (.if_icmp .ge 79, 3) := by decide +kernel
theorem dX9_giversOf_15 : decode cX9_giversOf 15 = .ok (.aload_n 2, 1) := by decide +kernel
theorem dX9_giversOf_16 : decode cX9_giversOf 16 = .ok (.ifnonnull 30, 3) := by decide +kernel
theorem dX9_giversOf_19 : decode cX9_giversOf 19 = .ok (.aload_n 3, 1) := by decide +kernel
theorem dX9_giversOf_20 : decode cX9_giversOf 20 = .ok (.getfield 48, 3) := by decide +kernel
theorem dX9_giversOf_23 : decode cX9_giversOf 23 = .ok (.iload 6, 2) := by decide +kernel
theorem dX9_giversOf_25 : decode cX9_giversOf 25 = .ok (.iaload, 1) := by decide +kernel
theorem dX9_giversOf_26 : decode cX9_giversOf 26 = .ok (.aload_n 1, 1) := by decide +kernel
theorem dX9_giversOf_27 : decode cX9_giversOf 27 = .ok (.getfield 52, 3) := by decide +kernel
theorem dX9_giversOf_30 : decode cX9_giversOf 30 = .ok (.iload 6, 2) := by decide +kernel
theorem dX9_giversOf_32 : decode cX9_giversOf 32 = .ok (.iaload, 1) := by decide +kernel
theorem dX9_giversOf_33 : decode cX9_giversOf 33 = .ok (.if_icmp .le 7, 3) := by decide +kernel
theorem dX9_giversOf_36 : decode cX9_giversOf 36 = .ok (.iconst 1, 1) := by decide +kernel
theorem dX9_giversOf_37 : decode cX9_giversOf 37 = .ok (.goto 4, 3) := by decide +kernel
theorem dX9_giversOf_40 : decode cX9_giversOf 40 = .ok (.iconst 0, 1) := by decide +kernel
theorem dX9_giversOf_41 : decode cX9_giversOf 41 = .ok (.istore 7, 2) := by decide +kernel
theorem dX9_giversOf_43 : decode cX9_giversOf 43 = .ok (.goto 21, 3) := by decide +kernel
theorem dX9_giversOf_46 : decode cX9_giversOf 46 = .ok (.aload_n 0, 1) := by decide +kernel
theorem dX9_giversOf_47 : decode cX9_giversOf 47 = .ok (.aload_n 1, 1) := by decide +kernel
theorem dX9_giversOf_48 : decode cX9_giversOf 48 = .ok (.aload_n 3, 1) := by decide +kernel
theorem dX9_giversOf_49 : decode cX9_giversOf 49 = .ok (.iload 6, 2) := by decide +kernel
theorem dX9_giversOf_51 : decode cX9_giversOf 51 = .ok (.invokevirtual 55, 3) := by decide +kernel
theorem dX9_giversOf_54 : decode cX9_giversOf 54 = .ok (.aload_n 2, 1) := by decide +kernel
theorem dX9_giversOf_55 : decode cX9_giversOf 55 = .ok (.aload_n 0, 1) := by decide +kernel
theorem dX9_giversOf_56 : decode cX9_giversOf 56 = .ok (.getfield 9, 3) := by decide +kernel
theorem dX9_giversOf_59 : decode cX9_giversOf 59 = .ok (.invokevirtual 58, 3) := by decide +kernel
theorem dX9_giversOf_62 : decode cX9_giversOf 62 = .ok (.istore 7, 2) := by decide +kernel
theorem dX9_giversOf_64 : decode cX9_giversOf 64 = .ok (.iload 7, 2) := by decide +kernel
theorem dX9_giversOf_66 : decode cX9_giversOf 66 = .ok (.ifCond .eq 19, 3) := by decide +kernel
theorem dX9_giversOf_69 : decode cX9_giversOf 69 = .ok (.iload 6, 2) := by decide +kernel
theorem dX9_giversOf_71 : decode cX9_giversOf 71 = .ok (.iload 4, 2) := by decide +kernel
theorem dX9_giversOf_73 : decode cX9_giversOf 73 = .ok (.if_icmp .eq 12, 3) := by decide +kernel
theorem dX9_giversOf_76 : decode cX9_giversOf 76 = .ok (.iload 5, 2) := by decide +kernel
theorem dX9_giversOf_78 : decode cX9_giversOf 78 = .ok (.iconst 1, 1) := by decide +kernel
theorem dX9_giversOf_79 : decode cX9_giversOf 79 = .ok (.iload 6, 2) := by decide +kernel
theorem dX9_giversOf_81 : decode cX9_giversOf 81 = .ok (.ishl, 1) := by decide +kernel
theorem dX9_giversOf_82 : decode cX9_giversOf 82 = .ok (.ior, 1) := by decide +kernel
theorem dX9_giversOf_83 : decode cX9_giversOf 83 = .ok (.istore 5, 2) := by decide +kernel
theorem dX9_giversOf_85 : decode cX9_giversOf 85 = .ok (.iinc 6 1, 3) := by decide +kernel
theorem dX9_giversOf_88 : decode cX9_giversOf 88 = .ok (.goto (-82), 3) := by decide +kernel
theorem dX9_giversOf_91 : decode cX9_giversOf 91 = .ok (.iload 5, 2) := by decide +kernel
theorem dX9_giversOf_93 : decode cX9_giversOf 93 = .ok (.ireturn, 1) := by decide +kernel
theorem dX9_tell_0 : decode cX9_tell 0 = .ok (.aload_n 0, 1) := by decide +kernel
theorem dX9_tell_1 : decode cX9_tell 1 = .ok (.getfield 9, 3) := by decide +kernel
theorem dX9_tell_4 : decode cX9_tell 4 = .ok (.iconst 0, 1) := by decide +kernel
theorem dX9_tell_5 : decode cX9_tell 5 = .ok (.iload_n 3, 1) := by decide +kernel
theorem dX9_tell_6 : decode cX9_tell 6 = .ok (.i2l, 1) := by decide +kernel
theorem dX9_tell_7 : decode cX9_tell 7 = .ok (.lastore, 1) := by decide +kernel
theorem dX9_tell_8 : decode cX9_tell 8 = .ok (.aload_n 0, 1) := by decide +kernel
theorem dX9_tell_9 : decode cX9_tell 9 = .ok (.getfield 9, 3) := by decide +kernel
theorem dX9_tell_12 : decode cX9_tell 12 = .ok (.iconst 1, 1) := by decide +kernel
theorem dX9_tell_13 : decode cX9_tell 13 = .ok (.aload_n 2, 1) := by decide +kernel
theorem dX9_tell_14 : decode cX9_tell 14 = .ok (.getfield 48, 3) := by decide +kernel
theorem dX9_tell_17 : decode cX9_tell 17 = .ok (.iload_n 3, 1) := by decide +kernel
theorem dX9_tell_18 : decode cX9_tell 18 = .ok (.iaload, 1) := by decide +kernel
theorem dX9_tell_19 : decode cX9_tell 19 = .ok (.i2l, 1) := by decide +kernel
theorem dX9_tell_20 : decode cX9_tell 20 = .ok (.lastore, 1) := by decide +kernel
theorem dX9_tell_21 : decode cX9_tell 21 = .ok (.aload_n 0, 1) := by decide +kernel
theorem dX9_tell_22 : decode cX9_tell 22 = .ok (.getfield 9, 3) := by decide +kernel
theorem dX9_tell_25 : decode cX9_tell 25 = .ok (.iconst 2, 1) := by decide +kernel
theorem dX9_tell_26 : decode cX9_tell 26 = .ok (.aload_n 1, 1) := by decide +kernel
theorem dX9_tell_27 : decode cX9_tell 27 = .ok (.getfield 52, 3) := by decide +kernel
theorem dX9_tell_30 : decode cX9_tell 30 = .ok (.iload_n 3, 1) := by decide +kernel
theorem dX9_tell_31 : decode cX9_tell 31 = .ok (.iaload, 1) := by decide +kernel
theorem dX9_tell_32 : decode cX9_tell 32 = .ok (.i2l, 1) := by decide +kernel
theorem dX9_tell_33 : decode cX9_tell 33 = .ok (.lastore, 1) := by decide +kernel
theorem dX9_tell_34 : decode cX9_tell 34 = .ok (.aload_n 0, 1) := by decide +kernel
theorem dX9_tell_35 : decode cX9_tell 35 = .ok (.getfield 9, 3) := by decide +kernel
theorem dX9_tell_38 : decode cX9_tell 38 = .ok (.iconst 3, 1) := by decide +kernel
theorem dX9_tell_39 : decode cX9_tell 39 = .ok (.aload_n 2, 1) := by decide +kernel
theorem dX9_tell_40 : decode cX9_tell 40 = .ok (.getfield 64, 3) := by decide +kernel
theorem dX9_tell_43 : decode cX9_tell 43 = .ok (.iload_n 3, 1) := by decide +kernel
theorem dX9_tell_44 : decode cX9_tell 44 = .ok (.iaload, 1) := by decide +kernel
theorem dX9_tell_45 : decode cX9_tell 45 = .ok (.i2l, 1) := by decide +kernel
theorem dX9_tell_46 : decode cX9_tell 46 = .ok (.lastore, 1) := by decide +kernel
theorem dX9_tell_47 : decode cX9_tell 47 = .ok (.aload_n 0, 1) := by decide +kernel
theorem dX9_tell_48 : decode cX9_tell 48 = .ok (.getfield 9, 3) := by decide +kernel
theorem dX9_tell_51 : decode cX9_tell 51 = .ok (.iconst 4, 1) := by decide +kernel
theorem dX9_tell_52 : decode cX9_tell 52 = .ok (.aload_n 1, 1) := by decide +kernel
theorem dX9_tell_53 : decode cX9_tell 53 = .ok (.aload_n 2, 1) := by decide +kernel
theorem dX9_tell_54 : decode cX9_tell 54 = .ok (.getfield 67, 3) := by decide +kernel
theorem dX9_tell_57 : decode cX9_tell 57 = .ok (.iload_n 3, 1) := by decide +kernel
theorem dX9_tell_58 : decode cX9_tell 58 = .ok (.iaload, 1) := by decide +kernel
theorem dX9_tell_59 : decode cX9_tell 59 = .ok (.invokevirtual 70, 3) := by decide +kernel
theorem dX9_tell_62 : decode cX9_tell 62 = .ok (.i2l, 1) := by decide +kernel
theorem dX9_tell_63 : decode cX9_tell 63 = .ok (.lastore, 1) := by decide +kernel
theorem dX9_tell_64 : decode cX9_tell 64 = .ok (.aload_n 0, 1) := by decide +kernel
theorem dX9_tell_65 : decode cX9_tell 65 = .ok (.getfield 9, 3) := by decide +kernel
theorem dX9_tell_68 : decode cX9_tell 68 = .ok (.iconst 5, 1) := by decide +kernel
theorem dX9_tell_69 : decode cX9_tell 69 = .ok (.aload_n 1, 1) := by decide +kernel
theorem dX9_tell_70 : decode cX9_tell 70 = .ok (.aload_n 2, 1) := by decide +kernel
theorem dX9_tell_71 : decode cX9_tell 71 = .ok (.getfield 67, 3) := by decide +kernel
theorem dX9_tell_74 : decode cX9_tell 74 = .ok (.iload_n 3, 1) := by decide +kernel
theorem dX9_tell_75 : decode cX9_tell 75 = .ok (.iaload, 1) := by decide +kernel
theorem dX9_tell_76 : decode cX9_tell 76 = .ok (.invokevirtual 74, 3) := by decide +kernel
theorem dX9_tell_79 : decode cX9_tell 79 = .ok (.i2l, 1) := by decide +kernel
theorem dX9_tell_80 : decode cX9_tell 80 = .ok (.lastore, 1) := by decide +kernel
theorem dX9_tell_81 : decode cX9_tell 81 = .ok (.aload_n 0, 1) := by decide +kernel
theorem dX9_tell_82 : decode cX9_tell 82 = .ok (.getfield 9, 3) := by decide +kernel
theorem dX9_tell_85 : decode cX9_tell 85 = .ok (.bipush 6, 2) := by decide +kernel
theorem dX9_tell_87 : decode cX9_tell 87 = .ok (.aload_n 2, 1) := by decide +kernel
theorem dX9_tell_88 : decode cX9_tell 88 = .ok (.aload_n 2, 1) := by decide +kernel
theorem dX9_tell_89 : decode cX9_tell 89 = .ok (.getfield 67, 3) := by decide +kernel
theorem dX9_tell_92 : decode cX9_tell 92 = .ok (.iload_n 3, 1) := by decide +kernel
theorem dX9_tell_93 : decode cX9_tell 93 = .ok (.iaload, 1) := by decide +kernel
theorem dX9_tell_94 : decode cX9_tell 94 = .ok (.invokevirtual 77, 3) := by decide +kernel
theorem dX9_tell_97 : decode cX9_tell 97 = .ok (.i2l, 1) := by decide +kernel
theorem dX9_tell_98 : decode cX9_tell 98 = .ok (.lastore, 1) := by decide +kernel
theorem dX9_tell_99 : decode cX9_tell 99 = .ok (.aload_n 0, 1) := by decide +kernel
theorem dX9_tell_100 : decode cX9_tell 100 = .ok (.getfield 9, 3) := by decide +kernel
theorem dX9_tell_103 : decode cX9_tell 103 = .ok (.bipush 7, 2) := by decide +kernel
theorem dX9_tell_105 : decode cX9_tell 105 = .ok (.aload_n 2, 1) := by decide +kernel
theorem dX9_tell_106 : decode cX9_tell 106 = .ok (.getfield 80, 3) := by decide +kernel
theorem dX9_tell_109 : decode cX9_tell 109 = .ok (.iload_n 3, 1) := by decide +kernel
theorem dX9_tell_110 : decode cX9_tell 110 = .ok (.iaload, 1) := by decide +kernel
theorem dX9_tell_111 : decode cX9_tell 111 = .ok (.i2l, 1) := by decide +kernel
theorem dX9_tell_112 : decode cX9_tell 112 = .ok (.lastore, 1) := by decide +kernel
theorem dX9_tell_113 : decode cX9_tell 113 = .ok (.aload_n 0, 1) := by decide +kernel
theorem dX9_tell_114 : decode cX9_tell 114 = .ok (.getfield 9, 3) := by decide +kernel
theorem dX9_tell_117 : decode cX9_tell 117 = .ok (.bipush 8, 2) := by decide +kernel
theorem dX9_tell_119 : decode cX9_tell 119 = .ok (.aload_n 2, 1) := by decide +kernel
theorem dX9_tell_120 : decode cX9_tell 120 = .ok (.getfield 83, 3) := by decide +kernel
theorem dX9_tell_123 : decode cX9_tell 123 = .ok (.iload_n 3, 1) := by decide +kernel
theorem dX9_tell_124 : decode cX9_tell 124 = .ok (.iaload, 1) := by decide +kernel
theorem dX9_tell_125 : decode cX9_tell 125 = .ok (.i2l, 1) := by decide +kernel
theorem dX9_tell_126 : decode cX9_tell 126 = .ok (.lastore, 1) := by decide +kernel
theorem dX9_tell_127 : decode cX9_tell 127 = .ok (.aload_n 0, 1) := by decide +kernel
theorem dX9_tell_128 : decode cX9_tell 128 = .ok (.getfield 9, 3) := by decide +kernel
theorem dX9_tell_131 : decode cX9_tell 131 = .ok (.bipush 9, 2) := by decide +kernel
theorem dX9_tell_133 : decode cX9_tell 133 = .ok (.aload_n 2, 1) := by decide +kernel
theorem dX9_tell_134 : decode cX9_tell 134 = .ok (.invokevirtual 86, 3) := by decide +kernel
theorem dX9_tell_137 : decode cX9_tell 137 = .ok (.i2l, 1) := by decide +kernel
theorem dX9_tell_138 : decode cX9_tell 138 = .ok (.lastore, 1) := by decide +kernel
theorem dX9_tell_139 : decode cX9_tell 139 = .ok (.aload_n 0, 1) := by decide +kernel
theorem dX9_tell_140 : decode cX9_tell 140 = .ok (.getfield 9, 3) := by decide +kernel
theorem dX9_tell_143 : decode cX9_tell 143 = .ok (.bipush 10, 2) := by decide +kernel
theorem dX9_tell_145 : decode cX9_tell 145 = .ok (.aload_n 2, 1) := by decide +kernel
theorem dX9_tell_146 : decode cX9_tell 146 = .ok (.getfield 90, 3) := by decide +kernel
theorem dX9_tell_149 : decode cX9_tell 149 = .ok (.invokestatic 93, 3) := by decide +kernel
theorem dX9_tell_152 : decode cX9_tell 152 = .ok (.i2l, 1) := by decide +kernel
theorem dX9_tell_153 : decode cX9_tell 153 = .ok (.lastore, 1) := by decide +kernel
theorem dX9_tell_154 : decode cX9_tell 154 = .ok (.aload_n 0, 1) := by decide +kernel
theorem dX9_tell_155 : decode cX9_tell 155 = .ok (.getfield 9, 3) := by decide +kernel
theorem dX9_tell_158 : decode cX9_tell 158 = .ok (.bipush 11, 2) := by decide +kernel
theorem dX9_tell_160 : decode cX9_tell 160 = .ok (.aload_n 2, 1) := by decide +kernel
theorem dX9_tell_161 : decode cX9_tell 161 = .ok (.getfield 45, 3) := by decide +kernel
theorem dX9_tell_164 : decode cX9_tell 164 = .ok (.i2l, 1) := by decide +kernel
theorem dX9_tell_165 : decode cX9_tell 165 = .ok (.lastore, 1) := by decide +kernel
theorem dX9_tell_166 : decode cX9_tell 166 = .ok (.return_, 1) := by decide +kernel
theorem dX9_blow_0 : decode cX9_blow 0 = .ok (.aload_n 1, 1) := by decide +kernel
theorem dX9_blow_1 : decode cX9_blow 1 = .ok (.getfield 98, 3) := by decide +kernel
theorem dX9_blow_4 : decode cX9_blow 4 = .ok (.iconst 0, 1) := by decide +kernel
theorem dX9_blow_5 : decode cX9_blow 5 = .ok (.invokestatic 101, 3) := by decide +kernel
theorem dX9_blow_8 : decode cX9_blow 8 = .ok (.iconst 0, 1) := by decide +kernel
theorem dX9_blow_9 : decode cX9_blow 9 = .ok (.istore_n 3, 1) := by decide +kernel
theorem dX9_blow_10 : decode cX9_blow 10 = .ok (.iload_n 3, 1) := by decide +kernel
theorem dX9_blow_11 : decode cX9_blow 11 = .ok (.aload_n 0, 1) := by decide +kernel
theorem dX9_blow_12 : decode cX9_blow 12 = .ok (.getfield 15, 3) := by decide +kernel
theorem dX9_blow_15 : decode cX9_blow 15 = .ok (.if_icmp .ge 73, 3) := by decide +kernel
theorem dX9_blow_18 : decode cX9_blow 18 = .ok (.iload_n 2, 1) := by decide +kernel
theorem dX9_blow_19 : decode cX9_blow 19 = .ok (.iload_n 3, 1) := by decide +kernel
theorem dX9_blow_20 : decode cX9_blow 20 = .ok (.ishr, 1) := by decide +kernel
theorem dX9_blow_21 : decode cX9_blow 21 = .ok (.iconst 1, 1) := by decide +kernel
theorem dX9_blow_22 : decode cX9_blow 22 = .ok (.iand, 1) := by decide +kernel
theorem dX9_blow_23 : decode cX9_blow 23 = .ok (.ifCond .eq 40, 3) := by decide +kernel
theorem dX9_blow_26 : decode cX9_blow 26 = .ok (.aload_n 0, 1) := by decide +kernel
theorem dX9_blow_27 : decode cX9_blow 27 = .ok (.aload_n 1, 1) := by decide +kernel
theorem dX9_blow_28 : decode cX9_blow 28 = .ok (.iload_n 3, 1) := by decide +kernel
theorem dX9_blow_29 : decode cX9_blow 29 = .ok (.aload_n 1, 1) := by decide +kernel
theorem dX9_blow_30 : decode cX9_blow 30 = .ok (.getfield 98, 3) := by decide +kernel
theorem dX9_blow_33 : decode cX9_blow 33 = .ok (.invokestatic 107, 3) := by decide +kernel
theorem dX9_blow_36 : decode cX9_blow 36 = .ok (.aload_n 1, 1) := by decide +kernel
theorem dX9_blow_37 : decode cX9_blow 37 = .ok (.getfield 48, 3) := by decide +kernel
theorem dX9_blow_40 : decode cX9_blow 40 = .ok (.iload_n 3, 1) := by decide +kernel
theorem dX9_blow_41 : decode cX9_blow 41 = .ok (.iconst 0, 1) := by decide +kernel
theorem dX9_blow_42 : decode cX9_blow 42 = .ok (.iastore, 1) := by decide +kernel
theorem dX9_blow_43 : decode cX9_blow 43 = .ok (.aload_n 1, 1) := by decide +kernel
theorem dX9_blow_44 : decode cX9_blow 44 = .ok (.getfield 80, 3) := by decide +kernel
theorem dX9_blow_47 : decode cX9_blow 47 = .ok (.iload_n 3, 1) := by decide +kernel
theorem dX9_blow_48 : decode cX9_blow 48 = .ok (.dup2, 1) := by decide +kernel
theorem dX9_blow_49 : decode cX9_blow 49 = .ok (.iaload, 1) := by decide +kernel
theorem dX9_blow_50 : decode cX9_blow 50 = .ok (.iconst 1, 1) := by decide +kernel
theorem dX9_blow_51 : decode cX9_blow 51 = .ok (.iadd, 1) := by decide +kernel
theorem dX9_blow_52 : decode cX9_blow 52 = .ok (.iastore, 1) := by decide +kernel
theorem dX9_blow_53 : decode cX9_blow 53 = .ok (.aload_n 1, 1) := by decide +kernel
theorem dX9_blow_54 : decode cX9_blow 54 = .ok (.getfield 83, 3) := by decide +kernel
theorem dX9_blow_57 : decode cX9_blow 57 = .ok (.iload_n 3, 1) := by decide +kernel
theorem dX9_blow_58 : decode cX9_blow 58 = .ok (.iconst 1, 1) := by decide +kernel
theorem dX9_blow_59 : decode cX9_blow 59 = .ok (.iastore, 1) := by decide +kernel
theorem dX9_blow_60 : decode cX9_blow 60 = .ok (.goto 22, 3) := by decide +kernel
theorem dX9_blow_63 : decode cX9_blow 63 = .ok (.aload_n 1, 1) := by decide +kernel
theorem dX9_blow_64 : decode cX9_blow 64 = .ok (.getfield 83, 3) := by decide +kernel
theorem dX9_blow_67 : decode cX9_blow 67 = .ok (.iload_n 3, 1) := by decide +kernel
theorem dX9_blow_68 : decode cX9_blow 68 = .ok (.bipush 99, 2) := by decide +kernel
theorem dX9_blow_70 : decode cX9_blow 70 = .ok (.aload_n 1, 1) := by decide +kernel
theorem dX9_blow_71 : decode cX9_blow 71 = .ok (.getfield 83, 3) := by decide +kernel
theorem dX9_blow_74 : decode cX9_blow 74 = .ok (.iload_n 3, 1) := by decide +kernel
theorem dX9_blow_75 : decode cX9_blow 75 = .ok (.iaload, 1) := by decide +kernel
theorem dX9_blow_76 : decode cX9_blow 76 = .ok (.iconst 1, 1) := by decide +kernel
theorem dX9_blow_77 : decode cX9_blow 77 = .ok (.iadd, 1) := by decide +kernel
theorem dX9_blow_78 : decode cX9_blow 78 = .ok (.invokestatic 111, 3) := by decide +kernel
theorem dX9_blow_81 : decode cX9_blow 81 = .ok (.iastore, 1) := by decide +kernel
theorem dX9_blow_82 : decode cX9_blow 82 = .ok (.iinc 3 1, 3) := by decide +kernel
theorem dX9_blow_85 : decode cX9_blow 85 = .ok (.goto (-75), 3) := by decide +kernel
theorem dX9_blow_88 : decode cX9_blow 88 = .ok (.return_, 1) := by decide +kernel
theorem dX9_puff_0 : decode cX9_puff 0 = .ok (.aload_n 0, 1) := by decide +kernel
theorem dX9_puff_1 : decode cX9_puff 1 = .ok (.aload_n 1, 1) := by decide +kernel
theorem dX9_puff_2 : decode cX9_puff 2 = .ok (.getfield 67, 3) := by decide +kernel
theorem dX9_puff_5 : decode cX9_puff 5 = .ok (.iload_n 2, 1) := by decide +kernel
theorem dX9_puff_6 : decode cX9_puff 6 = .ok (.iaload, 1) := by decide +kernel
theorem dX9_puff_7 : decode cX9_puff 7 = .ok (.invokevirtual 70, 3) := by decide +kernel
theorem dX9_puff_10 : decode cX9_puff 10 = .ok (.istore 4, 2) := by decide +kernel
theorem dX9_puff_12 : decode cX9_puff 12 = .ok (.aload_n 0, 1) := by decide +kernel
theorem dX9_puff_13 : decode cX9_puff 13 = .ok (.aload_n 1, 1) := by decide +kernel
theorem dX9_puff_14 : decode cX9_puff 14 = .ok (.getfield 67, 3) := by decide +kernel
theorem dX9_puff_17 : decode cX9_puff 17 = .ok (.iload_n 2, 1) := by decide +kernel
theorem dX9_puff_18 : decode cX9_puff 18 = .ok (.iaload, 1) := by decide +kernel
theorem dX9_puff_19 : decode cX9_puff 19 = .ok (.invokevirtual 74, 3) := by decide +kernel
theorem dX9_puff_22 : decode cX9_puff 22 = .ok (.istore 5, 2) := by decide +kernel
theorem dX9_puff_24 : decode cX9_puff 24 = .ok (.aload_n 1, 1) := by decide +kernel
theorem dX9_puff_25 : decode cX9_puff 25 = .ok (.getfield 64, 3) := by decide +kernel
theorem dX9_puff_28 : decode cX9_puff 28 = .ok (.iload_n 2, 1) := by decide +kernel
theorem dX9_puff_29 : decode cX9_puff 29 = .ok (.iaload, 1) := by decide +kernel
theorem dX9_puff_30 : decode cX9_puff 30 = .ok (.iconst 3, 1) := by decide +kernel
theorem dX9_puff_31 : decode cX9_puff 31 = .ok (.iand, 1) := by decide +kernel
theorem dX9_puff_32 : decode cX9_puff 32 = .ok (.istore 6, 2) := by decide +kernel
theorem dX9_puff_34 : decode cX9_puff 34 = .ok (.aload_n 1, 1) := by decide +kernel
theorem dX9_puff_35 : decode cX9_puff 35 = .ok (.getfield 48, 3) := by decide +kernel
theorem dX9_puff_38 : decode cX9_puff 38 = .ok (.iload_n 2, 1) := by decide +kernel
theorem dX9_puff_39 : decode cX9_puff 39 = .ok (.iaload, 1) := by decide +kernel
theorem dX9_puff_40 : decode cX9_puff 40 = .ok (.istore 7, 2) := by decide +kernel
theorem dX9_puff_42 : decode cX9_puff 42 = .ok (.iload 7, 2) := by decide +kernel
theorem dX9_puff_44 : decode cX9_puff 44 = .ok (.ifCond .le 71, 3) := by decide +kernel
theorem dX9_puff_47 : decode cX9_puff 47 = .ok (.iload 4, 2) := by decide +kernel
theorem dX9_puff_49 : decode cX9_puff 49 = .ok (.getstatic 117, 3) := by decide +kernel
theorem dX9_puff_52 : decode cX9_puff 52 = .ok (.iload 6, 2) := by decide +kernel
theorem dX9_puff_54 : decode cX9_puff 54 = .ok (.iaload, 1) := by decide +kernel
theorem dX9_puff_55 : decode cX9_puff 55 = .ok (.iadd, 1) := by decide +kernel
theorem dX9_puff_56 : decode cX9_puff 56 = .ok (.istore 4, 2) := by decide +kernel
theorem dX9_puff_58 : decode cX9_puff 58 = .ok (.iload 5, 2) := by decide +kernel
theorem dX9_puff_60 : decode cX9_puff 60 = .ok (.getstatic 120, 3) := by decide +kernel
theorem dX9_puff_63 : decode cX9_puff 63 = .ok (.iload 6, 2) := by decide +kernel
theorem dX9_puff_65 : decode cX9_puff 65 = .ok (.iaload, 1) := by decide +kernel
theorem dX9_puff_66 : decode cX9_puff 66 = .ok (.iadd, 1) := by decide +kernel
theorem dX9_puff_67 : decode cX9_puff 67 = .ok (.istore 5, 2) := by decide +kernel
theorem dX9_puff_69 : decode cX9_puff 69 = .ok (.aload_n 0, 1) := by decide +kernel
theorem dX9_puff_70 : decode cX9_puff 70 = .ok (.iload 4, 2) := by decide +kernel
theorem dX9_puff_72 : decode cX9_puff 72 = .ok (.iload 5, 2) := by decide +kernel
theorem dX9_puff_74 : decode cX9_puff 74 = .ok (.invokevirtual 123, 3) := by decide +kernel
theorem dX9_puff_77 : decode cX9_puff 77 = .ok (.ifCond .ne 4, 3) := by decide +kernel
theorem dX9_puff_80 : decode cX9_puff 80 = .ok (.return_, 1) := by decide +kernel
theorem dX9_puff_81 : decode cX9_puff 81 = .ok (.iload 4, 2) := by decide +kernel
theorem dX9_puff_83 : decode cX9_puff 83 = .ok (.aload_n 0, 1) := by decide +kernel
theorem dX9_puff_84 : decode cX9_puff 84 = .ok (.getfield 127, 3) := by decide +kernel
theorem dX9_puff_87 : decode cX9_puff 87 = .ok (.imul, 1) := by decide +kernel
theorem dX9_puff_88 : decode cX9_puff 88 = .ok (.iload 5, 2) := by decide +kernel
theorem dX9_puff_90 : decode cX9_puff 90 = .ok (.iadd, 1) := by decide +kernel
theorem dX9_puff_91 : decode cX9_puff 91 = .ok (.istore 8, 2) := by decide +kernel
theorem dX9_puff_93 : decode cX9_puff 93 = .ok (.iload 8, 2) := by decide +kernel
theorem dX9_puff_95 : decode cX9_puff 95 = .ok (.aload_n 3, 1) := by decide +kernel
theorem dX9_puff_96 : decode cX9_puff 96 = .ok (.arraylength, 1) := by decide +kernel
theorem dX9_puff_97 : decode cX9_puff 97 = .ok (.if_icmp .ge 12, 3) := by decide +kernel
theorem dX9_puff_100 : decode cX9_puff 100 = .ok (.aload_n 3, 1) := by decide +kernel
theorem dX9_puff_101 : decode cX9_puff 101 = .ok (.iload 8, 2) := by decide +kernel
theorem dX9_puff_103 : decode cX9_puff 103 = .ok (.dup2, 1) := by decide +kernel
theorem dX9_puff_104 : decode cX9_puff 104 = .ok (.iaload, 1) := by decide +kernel
theorem dX9_puff_105 : decode cX9_puff 105 = .ok (.iload 7, 2) := by decide +kernel
theorem dX9_puff_107 : decode cX9_puff 107 = .ok (.iadd, 1) := by decide +kernel
theorem dX9_puff_108 : decode cX9_puff 108 = .ok (.iastore, 1) := by decide +kernel
theorem dX9_puff_109 : decode cX9_puff 109 = .ok (.iinc 7 (-1), 3) := by decide +kernel
theorem dX9_puff_112 : decode cX9_puff 112 = .ok (.goto (-70), 3) := by decide +kernel
theorem dX9_puff_115 : decode cX9_puff 115 = .ok (.return_, 1) := by decide +kernel
theorem dX9_grind_0 : decode cX9_grind 0 = .ok (.iconst 0, 1) := by decide +kernel
theorem dX9_grind_1 : decode cX9_grind 1 = .ok (.istore_n 2, 1) := by decide +kernel
theorem dX9_grind_2 : decode cX9_grind 2 = .ok (.iload_n 2, 1) := by decide +kernel
theorem dX9_grind_3 : decode cX9_grind 3 = .ok (.aload_n 0, 1) := by decide +kernel
theorem dX9_grind_4 : decode cX9_grind 4 = .ok (.getfield 130, 3) := by decide +kernel
theorem dX9_grind_7 : decode cX9_grind 7 = .ok (.if_icmp .ge 49, 3) := by decide +kernel
theorem dX9_grind_10 : decode cX9_grind 10 = .ok (.aload_n 0, 1) := by decide +kernel
theorem dX9_grind_11 : decode cX9_grind 11 = .ok (.getfield 133, 3) := by decide +kernel
theorem dX9_grind_14 : decode cX9_grind 14 = .ok (.iload_n 2, 1) := by decide +kernel
theorem dX9_grind_15 : decode cX9_grind 15 = .ok (.iaload, 1) := by decide +kernel
theorem dX9_grind_16 : decode cX9_grind 16 = .ok (.aload_n 1, 1) := by decide +kernel
theorem dX9_grind_17 : decode cX9_grind 17 = .ok (.aload_n 0, 1) := by decide +kernel
theorem dX9_grind_18 : decode cX9_grind 18 = .ok (.getfield 136, 3) := by decide +kernel
theorem dX9_grind_21 : decode cX9_grind 21 = .ok (.iload_n 2, 1) := by decide +kernel
theorem dX9_grind_22 : decode cX9_grind 22 = .ok (.iaload, 1) := by decide +kernel
theorem dX9_grind_23 : decode cX9_grind 23 = .ok (.invokevirtual 77, 3) := by decide +kernel
theorem dX9_grind_26 : decode cX9_grind 26 = .ok (.invokestatic 111, 3) := by decide +kernel
theorem dX9_grind_29 : decode cX9_grind 29 = .ok (.istore_n 3, 1) := by decide +kernel
theorem dX9_grind_30 : decode cX9_grind 30 = .ok (.aload_n 1, 1) := by decide +kernel
theorem dX9_grind_31 : decode cX9_grind 31 = .ok (.getfield 139, 3) := by decide +kernel
theorem dX9_grind_34 : decode cX9_grind 34 = .ok (.iload_n 2, 1) := by decide +kernel
theorem dX9_grind_35 : decode cX9_grind 35 = .ok (.sipush 9999, 3) := by decide +kernel
theorem dX9_grind_38 : decode cX9_grind 38 = .ok (.aload_n 1, 1) := by decide +kernel
theorem dX9_grind_39 : decode cX9_grind 39 = .ok (.getfield 139, 3) := by decide +kernel
theorem dX9_grind_42 : decode cX9_grind 42 = .ok (.iload_n 2, 1) := by decide +kernel
theorem dX9_grind_43 : decode cX9_grind 43 = .ok (.iaload, 1) := by decide +kernel
theorem dX9_grind_44 : decode cX9_grind 44 = .ok (.iload_n 3, 1) := by decide +kernel
theorem dX9_grind_45 : decode cX9_grind 45 = .ok (.iadd, 1) := by decide +kernel
theorem dX9_grind_46 : decode cX9_grind 46 = .ok (.invokestatic 111, 3) := by decide +kernel
theorem dX9_grind_49 : decode cX9_grind 49 = .ok (.iastore, 1) := by decide +kernel
theorem dX9_grind_50 : decode cX9_grind 50 = .ok (.iinc 2 1, 3) := by decide +kernel
theorem dX9_grind_53 : decode cX9_grind 53 = .ok (.goto (-51), 3) := by decide +kernel
theorem dX9_grind_56 : decode cX9_grind 56 = .ok (.return_, 1) := by decide +kernel
theorem dX9_unroof_0 : decode cX9_unroof 0 = .ok (.iconst 0, 1) := by decide +kernel
theorem dX9_unroof_1 : decode cX9_unroof 1 = .ok (.istore_n 2, 1) := by decide +kernel
theorem dX9_unroof_2 : decode cX9_unroof 2 = .ok (.iload_n 2, 1) := by decide +kernel
theorem dX9_unroof_3 : decode cX9_unroof 3 = .ok (.aload_n 0, 1) := by decide +kernel
theorem dX9_unroof_4 : decode cX9_unroof 4 = .ok (.getfield 142, 3) := by decide +kernel
theorem dX9_unroof_7 : decode cX9_unroof 7 = .ok (.if_icmp .ge 40, 3) := by decide +kernel
theorem dX9_unroof_10 : decode cX9_unroof 10 = .ok (.aload_n 1, 1) := by decide +kernel
theorem dX9_unroof_11 : decode cX9_unroof 11 = .ok (.aload_n 0, 1) := by decide +kernel
theorem dX9_unroof_12 : decode cX9_unroof 12 = .ok (.getfield 145, 3) := by decide +kernel
theorem dX9_unroof_15 : decode cX9_unroof 15 = .ok (.iload_n 2, 1) := by decide +kernel
theorem dX9_unroof_16 : decode cX9_unroof 16 = .ok (.iaload, 1) := by decide +kernel
theorem dX9_unroof_17 : decode cX9_unroof 17 = .ok (.invokevirtual 77, 3) := by decide +kernel
theorem dX9_unroof_20 : decode cX9_unroof 20 = .ok (.aload_n 0, 1) := by decide +kernel
theorem dX9_unroof_21 : decode cX9_unroof 21 = .ok (.getfield 148, 3) := by decide +kernel
theorem dX9_unroof_24 : decode cX9_unroof 24 = .ok (.iload_n 2, 1) := by decide +kernel
theorem dX9_unroof_25 : decode cX9_unroof 25 = .ok (.iaload, 1) := by decide +kernel
theorem dX9_unroof_26 : decode cX9_unroof 26 = .ok (.if_icmp .le 15, 3) := by decide +kernel
theorem dX9_unroof_29 : decode cX9_unroof 29 = .ok (.aload_n 1, 1) := by decide +kernel
theorem dX9_unroof_30 : decode cX9_unroof 30 = .ok (.dup, 1) := by decide +kernel
theorem dX9_unroof_31 : decode cX9_unroof 31 = .ok (.getfield 90, 3) := by decide +kernel
theorem dX9_unroof_34 : decode cX9_unroof 34 = .ok (.iconst 1, 1) := by decide +kernel
theorem dX9_unroof_35 : decode cX9_unroof 35 = .ok (.iload_n 2, 1) := by decide +kernel
theorem dX9_unroof_36 : decode cX9_unroof 36 = .ok (.ishl, 1) := by decide +kernel
theorem dX9_unroof_37 : decode cX9_unroof 37 = .ok (.ior, 1) := by decide +kernel
theorem dX9_unroof_38 : decode cX9_unroof 38 = .ok (.putfield 90, 3) := by decide +kernel
theorem dX9_unroof_41 : decode cX9_unroof 41 = .ok (.iinc 2 1, 3) := by decide +kernel
theorem dX9_unroof_44 : decode cX9_unroof 44 = .ok (.goto (-42), 3) := by decide +kernel
theorem dX9_unroof_47 : decode cX9_unroof 47 = .ok (.return_, 1) := by decide +kernel
theorem dX9_spread_0 : decode cX9_spread 0 = .ok (.aload_n 0, 1) := by decide +kernel
theorem dX9_spread_1 : decode cX9_spread 1 = .ok (.getfield 151, 3) := by decide +kernel
theorem dX9_spread_4 : decode cX9_spread 4 = .ok (.ifCond .gt 4, 3) := by decide +kernel
theorem dX9_spread_7 : decode cX9_spread 7 = .ok (.return_, 1) := by decide +kernel
theorem dX9_spread_8 : decode cX9_spread 8 = .ok (.iconst 0, 1) := by decide +kernel
theorem dX9_spread_9 : decode cX9_spread 9 = .ok (.istore_n 2, 1) := by decide +kernel
theorem dX9_spread_10 : decode cX9_spread 10 = .ok (.iload_n 2, 1) := by decide +kernel
theorem dX9_spread_11 : decode cX9_spread 11 = .ok (.aload_n 0, 1) := by decide +kernel
theorem dX9_spread_12 : decode cX9_spread 12 = .ok (.getfield 15, 3) := by decide +kernel
theorem dX9_spread_15 : decode cX9_spread 15 = .ok (.if_icmp .ge 29, 3) := by decide +kernel
theorem dX9_spread_18 : decode cX9_spread 18 = .ok (.aload_n 1, 1) := by decide +kernel
theorem dX9_spread_19 : decode cX9_spread 19 = .ok (.iload_n 2, 1) := by decide +kernel
theorem dX9_spread_20 : decode cX9_spread 20 = .ok (.aload_n 1, 1) := by decide +kernel
theorem dX9_spread_21 : decode cX9_spread 21 = .ok (.aload_n 1, 1) := by decide +kernel
theorem dX9_spread_22 : decode cX9_spread 22 = .ok (.getfield 67, 3) := by decide +kernel
theorem dX9_spread_25 : decode cX9_spread 25 = .ok (.iload_n 2, 1) := by decide +kernel
theorem dX9_spread_26 : decode cX9_spread 26 = .ok (.iaload, 1) := by decide +kernel
theorem dX9_spread_27 : decode cX9_spread 27 = .ok (.invokevirtual 77, 3) := by decide +kernel
theorem dX9_spread_30 : decode cX9_spread 30 = .ok (.aload_n 0, 1) := by decide +kernel
theorem dX9_spread_31 : decode cX9_spread 31 = .ok (.getfield 151, 3) := by decide +kernel
theorem dX9_spread_34 : decode cX9_spread 34 = .ok (.idiv, 1) := by decide +kernel
theorem dX9_spread_35 : decode cX9_spread 35 = .ok (.invokevirtual 21, 3) := by decide +kernel
theorem dX9_spread_38 : decode cX9_spread 38 = .ok (.iinc 2 1, 3) := by decide +kernel
theorem dX9_spread_41 : decode cX9_spread 41 = .ok (.goto (-31), 3) := by decide +kernel
theorem dX9_spread_44 : decode cX9_spread 44 = .ok (.return_, 1) := by decide +kernel
theorem dX10_init_0 : decode cX10_init 0 = .ok (.aload_n 0, 1) := by decide +kernel
theorem dX10_init_1 : decode cX10_init 1 = .ok (.invokespecial 3, 3) := by decide +kernel
theorem dX10_init_4 : decode cX10_init 4 = .ok (.aload_n 0, 1) := by decide +kernel
theorem dX10_init_5 : decode cX10_init 5 = .ok (.new 9, 3) := by decide +kernel
theorem dX10_init_8 : decode cX10_init 8 = .ok (.dup, 1) := by decide +kernel
theorem dX10_init_9 : decode cX10_init 9 = .ok (.invokespecial 11, 3) := by decide +kernel
theorem dX10_init_12 : decode cX10_init 12 = .ok (.putfield 12, 3) := by decide +kernel
theorem dX10_init_15 : decode cX10_init 15 = .ok (.aload_n 0, 1) := by decide +kernel
theorem dX10_init_16 : decode cX10_init 16 = .ok (.new 18, 3) := by decide +kernel
theorem dX10_init_19 : decode cX10_init 19 = .ok (.dup, 1) := by decide +kernel
theorem dX10_init_20 : decode cX10_init 20 = .ok (.invokespecial 20, 3) := by decide +kernel
theorem dX10_init_23 : decode cX10_init 23 = .ok (.putfield 21, 3) := by decide +kernel
theorem dX10_init_26 : decode cX10_init 26 = .ok (.aload_n 0, 1) := by decide +kernel
theorem dX10_init_27 : decode cX10_init 27 = .ok (.new 25, 3) := by decide +kernel
theorem dX10_init_30 : decode cX10_init 30 = .ok (.dup, 1) := by decide +kernel
theorem dX10_init_31 : decode cX10_init 31 = .ok (.invokespecial 27, 3) := by decide +kernel
theorem dX10_init_34 : decode cX10_init 34 = .ok (.putfield 28, 3) := by decide +kernel
theorem dX10_init_37 : decode cX10_init 37 = .ok (.aload_n 0, 1) := by decide +kernel
theorem dX10_init_38 : decode cX10_init 38 = .ok (.new 32, 3) := by decide +kernel
theorem dX10_init_41 : decode cX10_init 41 = .ok (.dup, 1) := by decide +kernel
theorem dX10_init_42 : decode cX10_init 42 = .ok (.invokespecial 34, 3) := by decide +kernel
theorem dX10_init_45 : decode cX10_init 45 = .ok (.putfield 35, 3) := by decide +kernel
theorem dX10_init_48 : decode cX10_init 48 = .ok (.aload_n 0, 1) := by decide +kernel
theorem dX10_init_49 : decode cX10_init 49 = .ok (.iconst (-1), 1) := by decide +kernel
theorem dX10_init_50 : decode cX10_init 50 = .ok (.putfield 39, 3) := by decide +kernel
theorem dX10_init_53 : decode cX10_init 53 = .ok (.aload_n 0, 1) := by decide +kernel
theorem dX10_init_54 : decode cX10_init 54 = .ok (.iconst 0, 1) := by decide +kernel
theorem dX10_init_55 : decode cX10_init 55 = .ok (.putfield 43, 3) := by decide +kernel
theorem dX10_init_58 : decode cX10_init 58 = .ok (.return_, 1) := by decide +kernel
theorem dX10_begin_0 : decode cX10_begin 0 = .ok (.aload_n 0, 1) := by decide +kernel
theorem dX10_begin_1 : decode cX10_begin 1 = .ok (.getfield 12, 3) := by decide +kernel
theorem dX10_begin_4 : decode cX10_begin 4 = .ok (.aload_n 1, 1) := by decide +kernel
theorem dX10_begin_5 : decode cX10_begin 5 = .ok (.invokevirtual 46, 3) := by decide +kernel
theorem dX10_begin_8 : decode cX10_begin 8 = .ok (.aload_n 0, 1) := by decide +kernel
theorem dX10_begin_9 : decode cX10_begin 9 = .ok (.getfield 21, 3) := by decide +kernel
theorem dX10_begin_12 : decode cX10_begin 12 = .ok (.aload_n 0, 1) := by decide +kernel
theorem dX10_begin_13 : decode cX10_begin 13 = .ok (.getfield 12, 3) := by decide +kernel
theorem dX10_begin_16 : decode cX10_begin 16 = .ok (.invokevirtual 50, 3) := by decide +kernel
theorem dX10_begin_19 : decode cX10_begin 19 = .ok (.aload_n 0, 1) := by decide +kernel
theorem dX10_begin_20 : decode cX10_begin 20 = .ok (.getfield 28, 3) := by decide +kernel
theorem dX10_begin_23 : decode cX10_begin 23 = .ok (.invokevirtual 53, 3) := by decide +kernel
theorem dX10_begin_26 : decode cX10_begin 26 = .ok (.aload_n 0, 1) := by decide +kernel
theorem dX10_begin_27 : decode cX10_begin 27 = .ok (.getfield 35, 3) := by decide +kernel
theorem dX10_begin_30 : decode cX10_begin 30 = .ok (.iconst 0, 1) := by decide +kernel
theorem dX10_begin_31 : decode cX10_begin 31 = .ok (.putfield 56, 3) := by decide +kernel
theorem dX10_begin_34 : decode cX10_begin 34 = .ok (.return_, 1) := by decide +kernel
theorem dX10_copyFrom_0 : decode cX10_copyFrom 0 = .ok (.aload_n 0, 1) := by decide +kernel
theorem dX10_copyFrom_1 : decode cX10_copyFrom 1 = .ok (.getfield 12, 3) := by decide +kernel
theorem dX10_copyFrom_4 : decode cX10_copyFrom 4 = .ok (.aload_n 1, 1) := by decide +kernel
theorem dX10_copyFrom_5 : decode cX10_copyFrom 5 = .ok (.getfield 12, 3) := by decide +kernel
theorem dX10_copyFrom_8 : decode cX10_copyFrom 8 = .ok (.invokevirtual 46, 3) := by decide +kernel
theorem dX10_copyFrom_11 : decode cX10_copyFrom 11 = .ok (.aload_n 0, 1) := by decide +kernel
theorem dX10_copyFrom_12 : decode cX10_copyFrom 12 = .ok (.getfield 21, 3) := by decide +kernel
theorem dX10_copyFrom_15 : decode cX10_copyFrom 15 = .ok (.aload_n 1, 1) := by decide +kernel
theorem dX10_copyFrom_16 : decode cX10_copyFrom 16 = .ok (.getfield 21, 3) := by decide +kernel
theorem dX10_copyFrom_19 : decode cX10_copyFrom 19 = .ok (.invokevirtual 59, 3) := by decide +kernel
theorem dX10_copyFrom_22 : decode cX10_copyFrom 22 = .ok (.aload_n 0, 1) := by decide +kernel
theorem dX10_copyFrom_23 : decode cX10_copyFrom 23 = .ok (.getfield 28, 3) := by decide +kernel
theorem dX10_copyFrom_26 : decode cX10_copyFrom 26 = .ok (.aload_n 1, 1) := by decide +kernel
theorem dX10_copyFrom_27 : decode cX10_copyFrom 27 = .ok (.getfield 28, 3) := by decide +kernel
theorem dX10_copyFrom_30 : decode cX10_copyFrom 30 = .ok (.invokevirtual 62, 3) := by decide +kernel
theorem dX10_copyFrom_33 : decode cX10_copyFrom 33 = .ok (.aload_n 0, 1) := by decide +kernel
theorem dX10_copyFrom_34 : decode cX10_copyFrom 34 = .ok (.getfield 35, 3) := by decide +kernel
theorem dX10_copyFrom_37 : decode cX10_copyFrom 37 = .ok (.aload_n 1, 1) := by decide +kernel
theorem dX10_copyFrom_38 : decode cX10_copyFrom 38 = .ok (.getfield 35, 3) := by decide +kernel
theorem dX10_copyFrom_41 : decode cX10_copyFrom 41 = .ok (.invokevirtual 65, 3) := by decide +kernel
theorem dX10_copyFrom_44 : decode cX10_copyFrom 44 = .ok (.aload_n 0, 1) := by decide +kernel
theorem dX10_copyFrom_45 : decode cX10_copyFrom 45 = .ok (.aload_n 1, 1) := by decide +kernel
theorem dX10_copyFrom_46 : decode cX10_copyFrom 46 = .ok (.getfield 39, 3) := by decide +kernel
theorem dX10_copyFrom_49 : decode cX10_copyFrom 49 = .ok (.putfield 39, 3) := by decide +kernel
theorem dX10_copyFrom_52 : decode cX10_copyFrom 52 = .ok (.aload_n 0, 1) := by decide +kernel
theorem dX10_copyFrom_53 : decode cX10_copyFrom 53 = .ok (.aload_n 1, 1) := by decide +kernel
theorem dX10_copyFrom_54 : decode cX10_copyFrom 54 = .ok (.getfield 43, 3) := by decide +kernel
theorem dX10_copyFrom_57 : decode cX10_copyFrom 57 = .ok (.putfield 43, 3) := by decide +kernel
theorem dX10_copyFrom_60 : decode cX10_copyFrom 60 = .ok (.return_, 1) := by decide +kernel
theorem dX11_init_0 : decode cX11_init 0 = .ok (.aload_n 0, 1) := by decide +kernel
theorem dX11_init_1 : decode cX11_init 1 = .ok (.invokespecial 3, 3) := by decide +kernel
theorem dX11_init_4 : decode cX11_init 4 = .ok (.aload_n 0, 1) := by decide +kernel
theorem dX11_init_5 : decode cX11_init 5 = .ok (.new 9, 3) := by decide +kernel
theorem dX11_init_8 : decode cX11_init 8 = .ok (.dup, 1) := by decide +kernel
theorem dX11_init_9 : decode cX11_init 9 = .ok (.invokespecial 11, 3) := by decide +kernel
theorem dX11_init_12 : decode cX11_init 12 = .ok (.putfield 12, 3) := by decide +kernel
theorem dX11_init_15 : decode cX11_init 15 = .ok (.aload_n 0, 1) := by decide +kernel
theorem dX11_init_16 : decode cX11_init 16 = .ok (.new 16, 3) := by decide +kernel
theorem dX11_init_19 : decode cX11_init 19 = .ok (.dup, 1) := by decide +kernel
theorem dX11_init_20 : decode cX11_init 20 = .ok (.invokespecial 18, 3) := by decide +kernel
theorem dX11_init_23 : decode cX11_init 23 = .ok (.putfield 19, 3) := by decide +kernel
theorem dX11_init_26 : decode cX11_init 26 = .ok (.aload_n 0, 1) := by decide +kernel
theorem dX11_init_27 : decode cX11_init 27 = .ok (.new 23, 3) := by decide +kernel
theorem dX11_init_30 : decode cX11_init 30 = .ok (.dup, 1) := by decide +kernel
theorem dX11_init_31 : decode cX11_init 31 = .ok (.invokespecial 25, 3) := by decide +kernel
theorem dX11_init_34 : decode cX11_init 34 = .ok (.putfield 26, 3) := by decide +kernel
theorem dX11_init_37 : decode cX11_init 37 = .ok (.aload_n 0, 1) := by decide +kernel
theorem dX11_init_38 : decode cX11_init 38 = .ok (.new 30, 3) := by decide +kernel
theorem dX11_init_41 : decode cX11_init 41 = .ok (.dup, 1) := by decide +kernel
theorem dX11_init_42 : decode cX11_init 42 = .ok (.invokespecial 32, 3) := by decide +kernel
theorem dX11_init_45 : decode cX11_init 45 = .ok (.putfield 33, 3) := by decide +kernel
theorem dX11_init_48 : decode cX11_init 48 = .ok (.aload_n 0, 1) := by decide +kernel
theorem dX11_init_49 : decode cX11_init 49 = .ok (.aload_n 0, 1) := by decide +kernel
theorem dX11_init_50 : decode cX11_init 50 = .ok (.getfield 33, 3) := by decide +kernel
theorem dX11_init_53 : decode cX11_init 53 = .ok (.getfield 37, 3) := by decide +kernel
theorem dX11_init_56 : decode cX11_init 56 = .ok (.putfield 41, 3) := by decide +kernel
theorem dX11_init_59 : decode cX11_init 59 = .ok (.aload_n 0, 1) := by decide +kernel
theorem dX11_init_60 : decode cX11_init 60 = .ok (.iconst 4, 1) := by decide +kernel
theorem dX11_init_61 : decode cX11_init 61 = .ok (.anewarray 42, 3) := by decide +kernel
theorem dX11_init_64 : decode cX11_init 64 = .ok (.putfield 44, 3) := by decide +kernel
theorem dX11_init_67 : decode cX11_init 67 = .ok (.aload_n 0, 1) := by decide +kernel
theorem dX11_init_68 : decode cX11_init 68 = .ok (.iconst 4, 1) := by decide +kernel
theorem dX11_init_69 : decode cX11_init 69 = .ok (.newarray .boolean, 2) := by decide +kernel
theorem dX11_init_71 : decode cX11_init 71 = .ok (.putfield 48, 3) := by decide +kernel
theorem dX11_init_74 : decode cX11_init 74 = .ok (.iconst 0, 1) := by decide +kernel
theorem dX11_init_75 : decode cX11_init 75 = .ok (.istore_n 1, 1) := by decide +kernel
theorem dX11_init_76 : decode cX11_init 76 = .ok (.iload_n 1, 1) := by decide +kernel
theorem dX11_init_77 : decode cX11_init 77 = .ok (.iconst 4, 1) := by decide +kernel
theorem dX11_init_78 : decode cX11_init 78 = .ok (.if_icmp .ge 22, 3) := by decide +kernel
theorem dX11_init_81 : decode cX11_init 81 = .ok (.aload_n 0, 1) := by decide +kernel
theorem dX11_init_82 : decode cX11_init 82 = .ok (.getfield 44, 3) := by decide +kernel
theorem dX11_init_85 : decode cX11_init 85 = .ok (.iload_n 1, 1) := by decide +kernel
theorem dX11_init_86 : decode cX11_init 86 = .ok (.new 42, 3) := by decide +kernel
theorem dX11_init_89 : decode cX11_init 89 = .ok (.dup, 1) := by decide +kernel
theorem dX11_init_90 : decode cX11_init 90 = .ok (.invokespecial 52, 3) := by decide +kernel
theorem dX11_init_93 : decode cX11_init 93 = .ok (.aastore, 1) := by decide +kernel
theorem dX11_init_94 : decode cX11_init 94 = .ok (.iinc 1 1, 3) := by decide +kernel
theorem dX11_init_97 : decode cX11_init 97 = .ok (.goto (-21), 3) := by decide +kernel
theorem dX11_init_100 : decode cX11_init 100 = .ok (.return_, 1) := by decide +kernel
theorem dX11_feed_0 : decode cX11_feed 0 = .ok (.aload_n 0, 1) := by decide +kernel
theorem dX11_feed_1 : decode cX11_feed 1 = .ok (.getfield 12, 3) := by decide +kernel
theorem dX11_feed_4 : decode cX11_feed 4 = .ok (.getfield 53, 3) := by decide +kernel
theorem dX11_feed_7 : decode cX11_feed 7 = .ok (.bipush 20, 2) := by decide +kernel
theorem dX11_feed_9 : decode cX11_feed 9 = .ok (.iadd, 1) := by decide +kernel
theorem dX11_feed_10 : decode cX11_feed 10 = .ok (.sipush 400, 3) := by decide +kernel
theorem dX11_feed_13 : decode cX11_feed 13 = .ok (.if_icmp .le 5, 3) := by decide +kernel
theorem dX11_feed_16 : decode cX11_feed 16 = .ok (.iconst (-1), 1) := by decide +kernel
theorem dX11_feed_17 : decode cX11_feed 17 = .ok (.ireturn, 1) := by decide +kernel
theorem dX11_feed_18 : decode cX11_feed 18 = .ok (.aload_n 0, 1) := by decide +kernel
theorem dX11_feed_19 : decode cX11_feed 19 = .ok (.getfield 12, 3) := by decide +kernel
theorem dX11_feed_22 : decode cX11_feed 22 = .ok (.iload_n 1, 1) := by decide +kernel
theorem dX11_feed_23 : decode cX11_feed 23 = .ok (.invokevirtual 57, 3) := by decide +kernel
theorem dX11_feed_26 : decode cX11_feed 26 = .ok (.aload_n 0, 1) := by decide +kernel
theorem dX11_feed_27 : decode cX11_feed 27 = .ok (.getfield 12, 3) := by decide +kernel
theorem dX11_feed_30 : decode cX11_feed 30 = .ok (.iload_n 2, 1) := by decide +kernel
theorem dX11_feed_31 : decode cX11_feed 31 = .ok (.invokevirtual 57, 3) := by decide +kernel
theorem dX11_feed_34 : decode cX11_feed 34 = .ok (.aload_n 0, 1) := by decide +kernel
theorem dX11_feed_35 : decode cX11_feed 35 = .ok (.getfield 12, 3) := by decide +kernel
theorem dX11_feed_38 : decode cX11_feed 38 = .ok (.iload_n 3, 1) := by decide +kernel
theorem dX11_feed_39 : decode cX11_feed 39 = .ok (.invokevirtual 57, 3) := by decide +kernel
theorem dX11_feed_42 : decode cX11_feed 42 = .ok (.aload_n 0, 1) := by decide +kernel
theorem dX11_feed_43 : decode cX11_feed 43 = .ok (.getfield 12, 3) := by decide +kernel
theorem dX11_feed_46 : decode cX11_feed 46 = .ok (.iload 4, 2) := by decide +kernel
theorem dX11_feed_48 : decode cX11_feed 48 = .ok (.invokevirtual 57, 3) := by decide +kernel
theorem dX11_feed_51 : decode cX11_feed 51 = .ok (.aload_n 0, 1) := by decide +kernel
theorem dX11_feed_52 : decode cX11_feed 52 = .ok (.getfield 12, 3) := by decide +kernel
theorem dX11_feed_55 : decode cX11_feed 55 = .ok (.iload 5, 2) := by decide +kernel
theorem dX11_feed_57 : decode cX11_feed 57 = .ok (.invokevirtual 57, 3) := by decide +kernel
theorem dX11_feed_60 : decode cX11_feed 60 = .ok (.aload_n 0, 1) := by decide +kernel
theorem dX11_feed_61 : decode cX11_feed 61 = .ok (.getfield 12, 3) := by decide +kernel
theorem dX11_feed_64 : decode cX11_feed 64 = .ok (.getfield 53, 3) := by decide +kernel
theorem dX11_feed_67 : decode cX11_feed 67 = .ok (.ireturn, 1) := by decide +kernel
theorem dX11_end_0 : decode cX11_end 0 = .ok (.iload_n 1, 1) := by decide +kernel
theorem dX11_end_1 : decode cX11_end 1 = .ok (.iconst 0, 1) := by decide +kernel
theorem dX11_end_2 : decode cX11_end 2 = .ok (.aload_n 0, 1) := by decide +kernel
theorem dX11_end_3 : decode cX11_end 3 = .ok (.getfield 12, 3) := by decide +kernel
theorem dX11_end_6 : decode cX11_end 6 = .ok (.getfield 53, 3) := by decide +kernel
theorem dX11_end_9 : decode cX11_end 9 = .ok (.invokestatic 61, 3) := by decide +kernel
theorem dX11_end_12 : decode cX11_end 12 = .ok (.ifCond .ne 5, 3) := by decide +kernel
theorem dX11_end_15 : decode cX11_end 15 = .ok (.iconst (-1), 1) := by decide +kernel
theorem dX11_end_16 : decode cX11_end 16 = .ok (.ireturn, 1) := by decide +kernel
theorem dX11_end_17 : decode cX11_end 17 = .ok (.aload_n 0, 1) := by decide +kernel
theorem dX11_end_18 : decode cX11_end 18 = .ok (.getfield 12, 3) := by decide +kernel
theorem dX11_end_21 : decode cX11_end 21 = .ok (.iload_n 1, 1) := by decide +kernel
theorem dX11_end_22 : decode cX11_end 22 = .ok (.putfield 53, 3) := by decide +kernel
theorem dX11_end_25 : decode cX11_end 25 = .ok (.iload_n 1, 1) := by decide +kernel
theorem dX11_end_26 : decode cX11_end 26 = .ok (.ireturn, 1) := by decide +kernel
theorem dX11_plateau_0 : decode cX11_plateau 0 = .ok (.aload_n 0, 1) := by decide +kernel
theorem dX11_plateau_1 : decode cX11_plateau 1 = .ok (.getfield 12, 3) := by decide +kernel
theorem dX11_plateau_4 : decode cX11_plateau 4 = .ok (.aload_n 0, 1) := by decide +kernel
theorem dX11_plateau_5 : decode cX11_plateau 5 = .ok (.getfield 26, 3) := by decide +kernel
theorem dX11_plateau_8 : decode cX11_plateau 8 = .ok (.invokestatic 65, 3) := by decide +kernel
theorem dX11_plateau_11 : decode cX11_plateau 11 = .ok (.istore_n 1, 1) := by decide +kernel
theorem dX11_plateau_12 : decode cX11_plateau 12 = .ok (.aload_n 0, 1) := by decide +kernel
theorem dX11_plateau_13 : decode cX11_plateau 13 = .ok (.getfield 12, 3) := by decide +kernel
theorem dX11_plateau_16 : decode cX11_plateau 16 = .ok (.invokevirtual 71, 3) := by decide +kernel
theorem dX11_plateau_19 : decode cX11_plateau 19 = .ok (.iload_n 1, 1) := by decide +kernel
theorem dX11_plateau_20 : decode cX11_plateau 20 = .ok (.ifCond .eq 8, 3) := by decide +kernel
theorem dX11_plateau_23 : decode cX11_plateau 23 = .ok (.bipush (-2), 2) := by decide +kernel
theorem dX11_plateau_25 : decode cX11_plateau 25 = .ok (.iload_n 1, 1) := by decide +kernel
theorem dX11_plateau_26 : decode cX11_plateau 26 = .ok (.isub, 1) := by decide +kernel
theorem dX11_plateau_27 : decode cX11_plateau 27 = .ok (.ireturn, 1) := by decide +kernel
theorem dX11_plateau_28 : decode cX11_plateau 28 = .ok (.aload_n 0, 1) := by decide +kernel
theorem dX11_plateau_29 : decode cX11_plateau 29 = .ok (.getfield 41, 3) := by decide +kernel
theorem dX11_plateau_32 : decode cX11_plateau 32 = .ok (.aload_n 0, 1) := by decide +kernel
theorem dX11_plateau_33 : decode cX11_plateau 33 = .ok (.getfield 26, 3) := by decide +kernel
theorem dX11_plateau_36 : decode cX11_plateau 36 = .ok (.invokevirtual 74, 3) := by decide +kernel
theorem dX11_plateau_39 : decode cX11_plateau 39 = .ok (.aload_n 0, 1) := by decide +kernel
theorem dX11_plateau_40 : decode cX11_plateau 40 = .ok (.getfield 41, 3) := by decide +kernel
theorem dX11_plateau_43 : decode cX11_plateau 43 = .ok (.getfield 78, 3) := by decide +kernel
theorem dX11_plateau_46 : decode cX11_plateau 46 = .ok (.getfield 81, 3) := by decide +kernel
theorem dX11_plateau_49 : decode cX11_plateau 49 = .ok (.ireturn, 1) := by decide +kernel
theorem dX11_rule_0 : decode cX11_rule 0 = .ok (.aload_n 0, 1) := by decide +kernel
theorem dX11_rule_1 : decode cX11_rule 1 = .ok (.getfield 33, 3) := by decide +kernel
theorem dX11_rule_4 : decode cX11_rule 4 = .ok (.getfield 84, 3) := by decide +kernel
theorem dX11_rule_7 : decode cX11_rule 7 = .ok (.istore_n 1, 1) := by decide +kernel
theorem dX11_rule_8 : decode cX11_rule 8 = .ok (.iload_n 1, 1) := by decide +kernel
theorem dX11_rule_9 : decode cX11_rule 9 = .ok (.iconst 0, 1) := by decide +kernel
theorem dX11_rule_10 : decode cX11_rule 10 = .ok (.iconst 5, 1) := by decide +kernel
theorem dX11_rule_11 : decode cX11_rule 11 = .ok (.invokestatic 61, 3) := by decide +kernel
theorem dX11_rule_14 : decode cX11_rule 14 = .ok (.ifCond .ne 5, 3) := by decide +kernel
theorem dX11_rule_17 : decode cX11_rule 17 = .ok (.iconst (-1), 1) := by decide +kernel
theorem dX11_rule_18 : decode cX11_rule 18 = .ok (.ireturn, 1) := by decide +kernel
theorem dX11_rule_19 : decode cX11_rule 19 = .ok (.aload_n 0, 1) := by decide +kernel
theorem dX11_rule_20 : decode cX11_rule 20 = .ok (.getfield 19, 3) := by decide +kernel
theorem dX11_rule_23 : decode cX11_rule 23 = .ok (.aload_n 0, 1) := by decide +kernel
theorem dX11_rule_24 : decode cX11_rule 24 = .ok (.getfield 12, 3) := by decide +kernel
theorem dX11_rule_27 : decode cX11_rule 27 = .ok (.aload_n 0, 1) := by decide +kernel
theorem dX11_rule_28 : decode cX11_rule 28 = .ok (.getfield 33, 3) := by decide +kernel
theorem dX11_rule_31 : decode cX11_rule 31 = .ok (.getfield 87, 3) := by decide +kernel
theorem dX11_rule_34 : decode cX11_rule 34 = .ok (.iload_n 1, 1) := by decide +kernel
theorem dX11_rule_35 : decode cX11_rule 35 = .ok (.aaload, 1) := by decide +kernel
theorem dX11_rule_36 : decode cX11_rule 36 = .ok (.invokevirtual 91, 3) := by decide +kernel
theorem dX11_rule_39 : decode cX11_rule 39 = .ok (.istore_n 2, 1) := by decide +kernel
theorem dX11_rule_40 : decode cX11_rule 40 = .ok (.aload_n 0, 1) := by decide +kernel
theorem dX11_rule_41 : decode cX11_rule 41 = .ok (.getfield 12, 3) := by decide +kernel
theorem dX11_rule_44 : decode cX11_rule 44 = .ok (.invokevirtual 71, 3) := by decide +kernel
theorem dX11_rule_47 : decode cX11_rule 47 = .ok (.iload_n 2, 1) := by decide +kernel
theorem dX11_rule_48 : decode cX11_rule 48 = .ok (.ifCond .eq 8, 3) := by decide +kernel
theorem dX11_rule_51 : decode cX11_rule 51 = .ok (.bipush (-2), 2) := by decide +kernel
theorem dX11_rule_53 : decode cX11_rule 53 = .ok (.iload_n 2, 1) := by decide +kernel
theorem dX11_rule_54 : decode cX11_rule 54 = .ok (.isub, 1) := by decide +kernel
theorem dX11_rule_55 : decode cX11_rule 55 = .ok (.ireturn, 1) := by decide +kernel
theorem dX11_rule_56 : decode cX11_rule 56 = .ok (.aload_n 0, 1) := by decide +kernel
theorem dX11_rule_57 : decode cX11_rule 57 = .ok (.getfield 33, 3) := by decide +kernel
theorem dX11_rule_60 : decode cX11_rule 60 = .ok (.iload_n 1, 1) := by decide +kernel
theorem dX11_rule_61 : decode cX11_rule 61 = .ok (.iconst 1, 1) := by decide +kernel
theorem dX11_rule_62 : decode cX11_rule 62 = .ok (.iadd, 1) := by decide +kernel
theorem dX11_rule_63 : decode cX11_rule 63 = .ok (.putfield 84, 3) := by decide +kernel
theorem dX11_rule_66 : decode cX11_rule 66 = .ok (.iload_n 1, 1) := by decide +kernel
theorem dX11_rule_67 : decode cX11_rule 67 = .ok (.ireturn, 1) := by decide +kernel
theorem dX11_force_0 : decode cX11_force 0 = .ok (.iload_n 1, 1) := by decide +kernel
theorem dX11_force_1 : decode cX11_force 1 = .ok (.iconst (-1), 1) := by decide +kernel
theorem dX11_force_2 : decode cX11_force 2 = .ok (.aload_n 0, 1) := by decide +kernel
theorem dX11_force_3 : decode cX11_force 3 = .ok (.getfield 33, 3) := by decide +kernel
theorem dX11_force_6 : decode cX11_force 6 = .ok (.getfield 84, 3) := by decide +kernel
theorem dX11_force_9 : decode cX11_force 9 = .ok (.iconst 1, 1) := by decide +kernel
theorem dX11_force_10 : decode cX11_force 10 = .ok (.isub, 1) := by decide +kernel
theorem dX11_force_11 : decode cX11_force 11 = .ok (.invokestatic 61, 3) := by decide +kernel
theorem dX11_force_14 : decode cX11_force 14 = .ok (.ifCond .ne 6, 3) := by decide +kernel
theorem dX11_force_17 : decode cX11_force 17 = .ok (.bipush (-2), 2) := by decide +kernel
theorem dX11_force_19 : decode cX11_force 19 = .ok (.ireturn, 1) := by decide +kernel
theorem dX11_force_20 : decode cX11_force 20 = .ok (.aload_n 0, 1) := by decide +kernel
theorem dX11_force_21 : decode cX11_force 21 = .ok (.getfield 41, 3) := by decide +kernel
theorem dX11_force_24 : decode cX11_force 24 = .ok (.getfield 94, 3) := by decide +kernel
theorem dX11_force_27 : decode cX11_force 27 = .ok (.istore_n 2, 1) := by decide +kernel
theorem dX11_force_28 : decode cX11_force 28 = .ok (.aload_n 0, 1) := by decide +kernel
theorem dX11_force_29 : decode cX11_force 29 = .ok (.getfield 41, 3) := by decide +kernel
theorem dX11_force_32 : decode cX11_force 32 = .ok (.iload_n 1, 1) := by decide +kernel
theorem dX11_force_33 : decode cX11_force 33 = .ok (.putfield 94, 3) := by decide +kernel
theorem dX11_force_36 : decode cX11_force 36 = .ok (.iload_n 2, 1) := by decide +kernel
theorem dX11_force_37 : decode cX11_force 37 = .ok (.ireturn, 1) := by decide +kernel
theorem dX11_person_0 : decode cX11_person 0 = .ok (.aload_n 0, 1) := by decide +kernel
theorem dX11_person_1 : decode cX11_person 1 = .ok (.iload_n 1, 1) := by decide +kernel
theorem dX11_person_2 : decode cX11_person 2 = .ok (.invokevirtual 97, 3) := by decide +kernel
theorem dX11_person_5 : decode cX11_person 5 = .ok (.ifCond .ne 5, 3) := by decide +kernel
theorem dX11_person_8 : decode cX11_person 8 = .ok (.iconst (-1), 1) := by decide +kernel
theorem dX11_person_9 : decode cX11_person 9 = .ok (.ireturn, 1) := by decide +kernel
theorem dX11_person_10 : decode cX11_person 10 = .ok (.iload_n 2, 1) := by decide +kernel
theorem dX11_person_11 : decode cX11_person 11 = .ok (.tableswitch 115 0 5 #[37, 50, 63, 76, 89, 102], 37) := by decide +kernel
theorem dX11_person_48 : decode cX11_person 48 = .ok (.aload_n 0, 1) := by decide +kernel
theorem dX11_person_49 : decode cX11_person 49 = .ok (.getfield 41, 3) := by decide +kernel
theorem dX11_person_52 : decode cX11_person 52 = .ok (.getfield 101, 3) := by decide +kernel
theorem dX11_person_55 : decode cX11_person 55 = .ok (.getfield 105, 3) := by decide +kernel
theorem dX11_person_58 : decode cX11_person 58 = .ok (.iload_n 1, 1) := by decide +kernel
theorem dX11_person_59 : decode cX11_person 59 = .ok (.iaload, 1) := by decide +kernel
theorem dX11_person_60 : decode cX11_person 60 = .ok (.ireturn, 1) := by decide +kernel
theorem dX11_person_61 : decode cX11_person 61 = .ok (.aload_n 0, 1) := by decide +kernel
theorem dX11_person_62 : decode cX11_person 62 = .ok (.getfield 41, 3) := by decide +kernel
theorem dX11_person_65 : decode cX11_person 65 = .ok (.getfield 78, 3) := by decide +kernel
theorem dX11_person_68 : decode cX11_person 68 = .ok (.getfield 111, 3) := by decide +kernel
theorem dX11_person_71 : decode cX11_person 71 = .ok (.iload_n 1, 1) := by decide +kernel
theorem dX11_person_72 : decode cX11_person 72 = .ok (.iaload, 1) := by decide +kernel
theorem dX11_person_73 : decode cX11_person 73 = .ok (.ireturn, 1) := by decide +kernel
theorem dX11_person_74 : decode cX11_person 74 = .ok (.aload_n 0, 1) := by decide +kernel
theorem dX11_person_75 : decode cX11_person 75 = .ok (.getfield 41, 3) := by decide +kernel
theorem dX11_person_78 : decode cX11_person 78 = .ok (.getfield 101, 3) := by decide +kernel
theorem dX11_person_81 : decode cX11_person 81 = .ok (.getfield 114, 3) := by decide +kernel
theorem dX11_person_84 : decode cX11_person 84 = .ok (.iload_n 1, 1) := by decide +kernel
theorem dX11_person_85 : decode cX11_person 85 = .ok (.iaload, 1) := by decide +kernel
theorem dX11_person_86 : decode cX11_person 86 = .ok (.ireturn, 1) := by decide +kernel
theorem dX11_person_87 : decode cX11_person 87 = .ok (.aload_n 0, 1) := by decide +kernel
theorem dX11_person_88 : decode cX11_person 88 = .ok (.getfield 41, 3) := by decide +kernel
theorem dX11_person_91 : decode cX11_person 91 = .ok (.getfield 101, 3) := by decide +kernel
theorem dX11_person_94 : decode cX11_person 94 = .ok (.getfield 117, 3) := by decide +kernel
theorem dX11_person_97 : decode cX11_person 97 = .ok (.iload_n 1, 1) := by decide +kernel
theorem dX11_person_98 : decode cX11_person 98 = .ok (.iaload, 1) := by decide +kernel
theorem dX11_person_99 : decode cX11_person 99 = .ok (.ireturn, 1) := by decide +kernel
theorem dX11_person_100 : decode cX11_person 100 = .ok (.aload_n 0, 1) := by decide +kernel
theorem dX11_person_101 : decode cX11_person 101 = .ok (.getfield 41, 3) := by decide +kernel
theorem dX11_person_104 : decode cX11_person 104 = .ok (.getfield 101, 3) := by decide +kernel
theorem dX11_person_107 : decode cX11_person 107 = .ok (.getfield 120, 3) := by decide +kernel
theorem dX11_person_110 : decode cX11_person 110 = .ok (.iload_n 1, 1) := by decide +kernel
theorem dX11_person_111 : decode cX11_person 111 = .ok (.iaload, 1) := by decide +kernel
theorem dX11_person_112 : decode cX11_person 112 = .ok (.ireturn, 1) := by decide +kernel
theorem dX11_person_113 : decode cX11_person 113 = .ok (.aload_n 0, 1) := by decide +kernel
theorem dX11_person_114 : decode cX11_person 114 = .ok (.getfield 41, 3) := by decide +kernel
theorem dX11_person_117 : decode cX11_person 117 = .ok (.getfield 101, 3) := by decide +kernel
theorem dX11_person_120 : decode cX11_person 120 = .ok (.getfield 123, 3) := by decide +kernel
theorem dX11_person_123 : decode cX11_person 123 = .ok (.iload_n 1, 1) := by decide +kernel
theorem dX11_person_124 : decode cX11_person 124 = .ok (.iaload, 1) := by decide +kernel
theorem dX11_person_125 : decode cX11_person 125 = .ok (.ireturn, 1) := by decide +kernel
theorem dX11_person_126 : decode cX11_person 126 = .ok (.iconst (-1), 1) := by decide +kernel
theorem dX11_person_127 : decode cX11_person 127 = .ok (.ireturn, 1) := by decide +kernel
theorem dX11_mill_0 : decode cX11_mill 0 = .ok (.aload_n 0, 1) := by decide +kernel
theorem dX11_mill_1 : decode cX11_mill 1 = .ok (.iload_n 1, 1) := by decide +kernel
theorem dX11_mill_2 : decode cX11_mill 2 = .ok (.invokevirtual 126, 3) := by decide +kernel
theorem dX11_mill_5 : decode cX11_mill 5 = .ok (.ifCond .ne 5, 3) := by decide +kernel
theorem dX11_mill_8 : decode cX11_mill 8 = .ok (.iconst (-1), 1) := by decide +kernel
theorem dX11_mill_9 : decode cX11_mill 9 = .ok (.ireturn, 1) := by decide +kernel
theorem dX11_mill_10 : decode cX11_mill 10 = .ok (.iload_n 2, 1) := by decide +kernel
theorem dX11_mill_11 : decode cX11_mill 11 = .ok (.tableswitch 64 0 2 #[25, 38, 51], 25) := by decide +kernel
theorem dX11_mill_36 : decode cX11_mill 36 = .ok (.aload_n 0, 1) := by decide +kernel
theorem dX11_mill_37 : decode cX11_mill 37 = .ok (.getfield 41, 3) := by decide +kernel
theorem dX11_mill_40 : decode cX11_mill 40 = .ok (.getfield 78, 3) := by decide +kernel
theorem dX11_mill_43 : decode cX11_mill 43 = .ok (.getfield 129, 3) := by decide +kernel
theorem dX11_mill_46 : decode cX11_mill 46 = .ok (.iload_n 1, 1) := by decide +kernel
theorem dX11_mill_47 : decode cX11_mill 47 = .ok (.iaload, 1) := by decide +kernel
theorem dX11_mill_48 : decode cX11_mill 48 = .ok (.ireturn, 1) := by decide +kernel
theorem dX11_mill_49 : decode cX11_mill 49 = .ok (.aload_n 0, 1) := by decide +kernel
theorem dX11_mill_50 : decode cX11_mill 50 = .ok (.getfield 41, 3) := by decide +kernel
theorem dX11_mill_53 : decode cX11_mill 53 = .ok (.getfield 78, 3) := by decide +kernel
theorem dX11_mill_56 : decode cX11_mill 56 = .ok (.getfield 132, 3) := by decide +kernel
theorem dX11_mill_59 : decode cX11_mill 59 = .ok (.iload_n 1, 1) := by decide +kernel
theorem dX11_mill_60 : decode cX11_mill 60 = .ok (.iaload, 1) := by decide +kernel
theorem dX11_mill_61 : decode cX11_mill 61 = .ok (.ireturn, 1) := by decide +kernel
theorem dX11_mill_62 : decode cX11_mill 62 = .ok (.aload_n 0, 1) := by decide +kernel
theorem dX11_mill_63 : decode cX11_mill 63 = .ok (.getfield 41, 3) := by decide +kernel
theorem dX11_mill_66 : decode cX11_mill 66 = .ok (.getfield 101, 3) := by decide +kernel
theorem dX11_mill_69 : decode cX11_mill 69 = .ok (.getfield 135, 3) := by decide +kernel
theorem dX11_mill_72 : decode cX11_mill 72 = .ok (.iload_n 1, 1) := by decide +kernel
theorem dX11_mill_73 : decode cX11_mill 73 = .ok (.iaload, 1) := by decide +kernel
theorem dX11_mill_74 : decode cX11_mill 74 = .ok (.ireturn, 1) := by decide +kernel
theorem dX11_mill_75 : decode cX11_mill 75 = .ok (.iconst (-1), 1) := by decide +kernel
theorem dX11_mill_76 : decode cX11_mill 76 = .ok (.ireturn, 1) := by decide +kernel
theorem dX11_roof_0 : decode cX11_roof 0 = .ok (.aload_n 0, 1) := by decide +kernel
theorem dX11_roof_1 : decode cX11_roof 1 = .ok (.iload_n 1, 1) := by decide +kernel
theorem dX11_roof_2 : decode cX11_roof 2 = .ok (.invokevirtual 138, 3) := by decide +kernel
theorem dX11_roof_5 : decode cX11_roof 5 = .ok (.ifCond .ne 5, 3) := by decide +kernel
theorem dX11_roof_8 : decode cX11_roof 8 = .ok (.iconst (-1), 1) := by decide +kernel
theorem dX11_roof_9 : decode cX11_roof 9 = .ok (.ireturn, 1) := by decide +kernel
theorem dX11_roof_10 : decode cX11_roof 10 = .ok (.iload_n 2, 1) := by decide +kernel
theorem dX11_roof_11 : decode cX11_roof 11 = .ok (.tableswitch 66 0 2 #[25, 38, 51], 25) := by decide +kernel
theorem dX11_roof_36 : decode cX11_roof 36 = .ok (.aload_n 0, 1) := by decide +kernel
theorem dX11_roof_37 : decode cX11_roof 37 = .ok (.getfield 41, 3) := by decide +kernel
theorem dX11_roof_40 : decode cX11_roof 40 = .ok (.getfield 78, 3) := by decide +kernel
theorem dX11_roof_43 : decode cX11_roof 43 = .ok (.getfield 141, 3) := by decide +kernel
theorem dX11_roof_46 : decode cX11_roof 46 = .ok (.iload_n 1, 1) := by decide +kernel
theorem dX11_roof_47 : decode cX11_roof 47 = .ok (.iaload, 1) := by decide +kernel
theorem dX11_roof_48 : decode cX11_roof 48 = .ok (.ireturn, 1) := by decide +kernel
theorem dX11_roof_49 : decode cX11_roof 49 = .ok (.aload_n 0, 1) := by decide +kernel
theorem dX11_roof_50 : decode cX11_roof 50 = .ok (.getfield 41, 3) := by decide +kernel
theorem dX11_roof_53 : decode cX11_roof 53 = .ok (.getfield 78, 3) := by decide +kernel
theorem dX11_roof_56 : decode cX11_roof 56 = .ok (.getfield 144, 3) := by decide +kernel
theorem dX11_roof_59 : decode cX11_roof 59 = .ok (.iload_n 1, 1) := by decide +kernel
theorem dX11_roof_60 : decode cX11_roof 60 = .ok (.iaload, 1) := by decide +kernel
theorem dX11_roof_61 : decode cX11_roof 61 = .ok (.ireturn, 1) := by decide +kernel
theorem dX11_roof_62 : decode cX11_roof 62 = .ok (.aload_n 0, 1) := by decide +kernel
theorem dX11_roof_63 : decode cX11_roof 63 = .ok (.getfield 41, 3) := by decide +kernel
theorem dX11_roof_66 : decode cX11_roof 66 = .ok (.getfield 101, 3) := by decide +kernel
theorem dX11_roof_69 : decode cX11_roof 69 = .ok (.getfield 147, 3) := by decide +kernel
theorem dX11_roof_72 : decode cX11_roof 72 = .ok (.iload_n 1, 1) := by decide +kernel
theorem dX11_roof_73 : decode cX11_roof 73 = .ok (.ishr, 1) := by decide +kernel
theorem dX11_roof_74 : decode cX11_roof 74 = .ok (.iconst 1, 1) := by decide +kernel
theorem dX11_roof_75 : decode cX11_roof 75 = .ok (.iand, 1) := by decide +kernel
theorem dX11_roof_76 : decode cX11_roof 76 = .ok (.ireturn, 1) := by decide +kernel
theorem dX11_roof_77 : decode cX11_roof 77 = .ok (.iconst (-1), 1) := by decide +kernel
theorem dX11_roof_78 : decode cX11_roof 78 = .ok (.ireturn, 1) := by decide +kernel
theorem dX11_wind_0 : decode cX11_wind 0 = .ok (.aload_n 0, 1) := by decide +kernel
theorem dX11_wind_1 : decode cX11_wind 1 = .ok (.iload_n 1, 1) := by decide +kernel
theorem dX11_wind_2 : decode cX11_wind 2 = .ok (.invokevirtual 150, 3) := by decide +kernel
theorem dX11_wind_5 : decode cX11_wind 5 = .ok (.ifCond .eq 17, 3) := by decide +kernel
theorem dX11_wind_8 : decode cX11_wind 8 = .ok (.aload_n 0, 1) := by decide +kernel
theorem dX11_wind_9 : decode cX11_wind 9 = .ok (.getfield 41, 3) := by decide +kernel
theorem dX11_wind_12 : decode cX11_wind 12 = .ok (.getfield 101, 3) := by decide +kernel
theorem dX11_wind_15 : decode cX11_wind 15 = .ok (.iload_n 1, 1) := by decide +kernel
theorem dX11_wind_16 : decode cX11_wind 16 = .ok (.invokevirtual 153, 3) := by decide +kernel
theorem dX11_wind_19 : decode cX11_wind 19 = .ok (.goto 4, 3) := by decide +kernel
theorem dX11_wind_22 : decode cX11_wind 22 = .ok (.iconst (-1), 1) := by decide +kernel
theorem dX11_wind_23 : decode cX11_wind 23 = .ok (.ireturn, 1) := by decide +kernel
theorem dX11_count_0 : decode cX11_count 0 = .ok (.iload_n 1, 1) := by decide +kernel
theorem dX11_count_1 : decode cX11_count 1 = .ok (.tableswitch 243 0 15 #[79, 90, 101, 112, 123, 134, 142, 150, 161, 172, 183, 194, 205, 216, 227, 235], 79) := by decide +kernel
theorem dX11_count_80 : decode cX11_count 80 = .ok (.aload_n 0, 1) := by decide +kernel
theorem dX11_count_81 : decode cX11_count 81 = .ok (.getfield 41, 3) := by decide +kernel
theorem dX11_count_84 : decode cX11_count 84 = .ok (.getfield 78, 3) := by decide +kernel
theorem dX11_count_87 : decode cX11_count 87 = .ok (.getfield 157, 3) := by decide +kernel
theorem dX11_count_90 : decode cX11_count 90 = .ok (.ireturn, 1) := by decide +kernel
theorem dX11_count_91 : decode cX11_count 91 = .ok (.aload_n 0, 1) := by decide +kernel
theorem dX11_count_92 : decode cX11_count 92 = .ok (.getfield 41, 3) := by decide +kernel
theorem dX11_count_95 : decode cX11_count 95 = .ok (.getfield 78, 3) := by decide +kernel
theorem dX11_count_98 : decode cX11_count 98 = .ok (.getfield 160, 3) := by decide +kernel
theorem dX11_count_101 : decode cX11_count 101 = .ok (.ireturn, 1) := by decide +kernel
theorem dX11_count_102 : decode cX11_count 102 = .ok (.aload_n 0, 1) := by decide +kernel
theorem dX11_count_103 : decode cX11_count 103 = .ok (.getfield 41, 3) := by decide +kernel
theorem dX11_count_106 : decode cX11_count 106 = .ok (.getfield 78, 3) := by decide +kernel
theorem dX11_count_109 : decode cX11_count 109 = .ok (.getfield 81, 3) := by decide +kernel
theorem dX11_count_112 : decode cX11_count 112 = .ok (.ireturn, 1) := by decide +kernel
theorem dX11_count_113 : decode cX11_count 113 = .ok (.aload_n 0, 1) := by decide +kernel
theorem dX11_count_114 : decode cX11_count 114 = .ok (.getfield 41, 3) := by decide +kernel
theorem dX11_count_117 : decode cX11_count 117 = .ok (.getfield 78, 3) := by decide +kernel
theorem dX11_count_120 : decode cX11_count 120 = .ok (.getfield 163, 3) := by decide +kernel
theorem dX11_count_123 : decode cX11_count 123 = .ok (.ireturn, 1) := by decide +kernel
theorem dX11_count_124 : decode cX11_count 124 = .ok (.aload_n 0, 1) := by decide +kernel
theorem dX11_count_125 : decode cX11_count 125 = .ok (.getfield 41, 3) := by decide +kernel
theorem dX11_count_128 : decode cX11_count 128 = .ok (.getfield 78, 3) := by decide +kernel
theorem dX11_count_131 : decode cX11_count 131 = .ok (.getfield 166, 3) := by decide +kernel
theorem dX11_count_134 : decode cX11_count 134 = .ok (.ireturn, 1) := by decide +kernel
theorem dX11_count_135 : decode cX11_count 135 = .ok (.aload_n 0, 1) := by decide +kernel
theorem dX11_count_136 : decode cX11_count 136 = .ok (.getfield 33, 3) := by decide +kernel
theorem dX11_count_139 : decode cX11_count 139 = .ok (.getfield 84, 3) := by decide +kernel
theorem dX11_count_142 : decode cX11_count 142 = .ok (.ireturn, 1) := by decide +kernel
theorem dX11_count_143 : decode cX11_count 143 = .ok (.aload_n 0, 1) := by decide +kernel
theorem dX11_count_144 : decode cX11_count 144 = .ok (.getfield 41, 3) := by decide +kernel
theorem dX11_count_147 : decode cX11_count 147 = .ok (.getfield 94, 3) := by decide +kernel
theorem dX11_count_150 : decode cX11_count 150 = .ok (.ireturn, 1) := by decide +kernel
theorem dX11_count_151 : decode cX11_count 151 = .ok (.aload_n 0, 1) := by decide +kernel
theorem dX11_count_152 : decode cX11_count 152 = .ok (.getfield 41, 3) := by decide +kernel
theorem dX11_count_155 : decode cX11_count 155 = .ok (.getfield 101, 3) := by decide +kernel
theorem dX11_count_158 : decode cX11_count 158 = .ok (.getfield 169, 3) := by decide +kernel
theorem dX11_count_161 : decode cX11_count 161 = .ok (.ireturn, 1) := by decide +kernel
theorem dX11_count_162 : decode cX11_count 162 = .ok (.aload_n 0, 1) := by decide +kernel
theorem dX11_count_163 : decode cX11_count 163 = .ok (.getfield 41, 3) := by decide +kernel
theorem dX11_count_166 : decode cX11_count 166 = .ok (.getfield 101, 3) := by decide +kernel
theorem dX11_count_169 : decode cX11_count 169 = .ok (.invokevirtual 172, 3) := by decide +kernel
theorem dX11_count_172 : decode cX11_count 172 = .ok (.ireturn, 1) := by decide +kernel
theorem dX11_count_173 : decode cX11_count 173 = .ok (.aload_n 0, 1) := by decide +kernel
theorem dX11_count_174 : decode cX11_count 174 = .ok (.getfield 41, 3) := by decide +kernel
theorem dX11_count_177 : decode cX11_count 177 = .ok (.getfield 101, 3) := by decide +kernel
theorem dX11_count_180 : decode cX11_count 180 = .ok (.getfield 147, 3) := by decide +kernel
theorem dX11_count_183 : decode cX11_count 183 = .ok (.ireturn, 1) := by decide +kernel
theorem dX11_count_184 : decode cX11_count 184 = .ok (.aload_n 0, 1) := by decide +kernel
theorem dX11_count_185 : decode cX11_count 185 = .ok (.getfield 41, 3) := by decide +kernel
theorem dX11_count_188 : decode cX11_count 188 = .ok (.getfield 101, 3) := by decide +kernel
theorem dX11_count_191 : decode cX11_count 191 = .ok (.invokevirtual 176, 3) := by decide +kernel
theorem dX11_count_194 : decode cX11_count 194 = .ok (.ireturn, 1) := by decide +kernel
theorem dX11_count_195 : decode cX11_count 195 = .ok (.aload_n 0, 1) := by decide +kernel
theorem dX11_count_196 : decode cX11_count 196 = .ok (.getfield 41, 3) := by decide +kernel
theorem dX11_count_199 : decode cX11_count 199 = .ok (.getfield 101, 3) := by decide +kernel
theorem dX11_count_202 : decode cX11_count 202 = .ok (.invokevirtual 179, 3) := by decide +kernel
theorem dX11_count_205 : decode cX11_count 205 = .ok (.ireturn, 1) := by decide +kernel
theorem dX11_count_206 : decode cX11_count 206 = .ok (.aload_n 0, 1) := by decide +kernel
theorem dX11_count_207 : decode cX11_count 207 = .ok (.getfield 41, 3) := by decide +kernel
theorem dX11_count_210 : decode cX11_count 210 = .ok (.getfield 182, 3) := by decide +kernel
theorem dX11_count_213 : decode cX11_count 213 = .ok (.getfield 186, 3) := by decide +kernel
theorem dX11_count_216 : decode cX11_count 216 = .ok (.ireturn, 1) := by decide +kernel
theorem dX11_count_217 : decode cX11_count 217 = .ok (.aload_n 0, 1) := by decide +kernel
theorem dX11_count_218 : decode cX11_count 218 = .ok (.getfield 41, 3) := by decide +kernel
theorem dX11_count_221 : decode cX11_count 221 = .ok (.getfield 191, 3) := by decide +kernel
theorem dX11_count_224 : decode cX11_count 224 = .ok (.getfield 195, 3) := by decide +kernel
theorem dX11_count_227 : decode cX11_count 227 = .ok (.ireturn, 1) := by decide +kernel
theorem dX11_count_228 : decode cX11_count 228 = .ok (.aload_n 0, 1) := by decide +kernel
theorem dX11_count_229 : decode cX11_count 229 = .ok (.getfield 41, 3) := by decide +kernel
theorem dX11_count_232 : decode cX11_count 232 = .ok (.getfield 198, 3) := by decide +kernel
theorem dX11_count_235 : decode cX11_count 235 = .ok (.ireturn, 1) := by decide +kernel
theorem dX11_count_236 : decode cX11_count 236 = .ok (.aload_n 0, 1) := by decide +kernel
theorem dX11_count_237 : decode cX11_count 237 = .ok (.getfield 12, 3) := by decide +kernel
theorem dX11_count_240 : decode cX11_count 240 = .ok (.getfield 53, 3) := by decide +kernel
theorem dX11_count_243 : decode cX11_count 243 = .ok (.ireturn, 1) := by decide +kernel
theorem dX11_count_244 : decode cX11_count 244 = .ok (.iconst (-1), 1) := by decide +kernel
theorem dX11_count_245 : decode cX11_count 245 = .ok (.ireturn, 1) := by decide +kernel
theorem dX11_hour_0 : decode cX11_hour 0 = .ok (.aload_n 0, 1) := by decide +kernel
theorem dX11_hour_1 : decode cX11_hour 1 = .ok (.getfield 41, 3) := by decide +kernel
theorem dX11_hour_4 : decode cX11_hour 4 = .ok (.getfield 78, 3) := by decide +kernel
theorem dX11_hour_7 : decode cX11_hour 7 = .ok (.invokevirtual 201, 3) := by decide +kernel
theorem dX11_hour_10 : decode cX11_hour 10 = .ok (.ifCond .eq 19, 3) := by decide +kernel
theorem dX11_hour_13 : decode cX11_hour 13 = .ok (.aload_n 0, 1) := by decide +kernel
theorem dX11_hour_14 : decode cX11_hour 14 = .ok (.getfield 41, 3) := by decide +kernel
theorem dX11_hour_17 : decode cX11_hour 17 = .ok (.getfield 101, 3) := by decide +kernel
theorem dX11_hour_20 : decode cX11_hour 20 = .ok (.getfield 169, 3) := by decide +kernel
theorem dX11_hour_23 : decode cX11_hour 23 = .ok (.sipush 999, 3) := by decide +kernel
theorem dX11_hour_26 : decode cX11_hour 26 = .ok (.if_icmp .lt 5, 3) := by decide +kernel
theorem dX11_hour_29 : decode cX11_hour 29 = .ok (.iconst (-1), 1) := by decide +kernel
theorem dX11_hour_30 : decode cX11_hour 30 = .ok (.ireturn, 1) := by decide +kernel
theorem dX11_hour_31 : decode cX11_hour 31 = .ok (.aload_n 0, 1) := by decide +kernel
theorem dX11_hour_32 : decode cX11_hour 32 = .ok (.getfield 41, 3) := by decide +kernel
theorem dX11_hour_35 : decode cX11_hour 35 = .ok (.getfield 191, 3) := by decide +kernel
theorem dX11_hour_38 : decode cX11_hour 38 = .ok (.aload_n 0, 1) := by decide +kernel
theorem dX11_hour_39 : decode cX11_hour 39 = .ok (.getfield 41, 3) := by decide +kernel
theorem dX11_hour_42 : decode cX11_hour 42 = .ok (.getfield 101, 3) := by decide +kernel
theorem dX11_hour_45 : decode cX11_hour 45 = .ok (.invokevirtual 205, 3) := by decide +kernel
theorem dX11_hour_48 : decode cX11_hour 48 = .ok (.aload_n 0, 1) := by decide +kernel
theorem dX11_hour_49 : decode cX11_hour 49 = .ok (.getfield 33, 3) := by decide +kernel
theorem dX11_hour_52 : decode cX11_hour 52 = .ok (.getfield 209, 3) := by decide +kernel
theorem dX11_hour_55 : decode cX11_hour 55 = .ok (.aload_n 0, 1) := by decide +kernel
theorem dX11_hour_56 : decode cX11_hour 56 = .ok (.getfield 41, 3) := by decide +kernel
theorem dX11_hour_59 : decode cX11_hour 59 = .ok (.getfield 78, 3) := by decide +kernel
theorem dX11_hour_62 : decode cX11_hour 62 = .ok (.aload_n 0, 1) := by decide +kernel
theorem dX11_hour_63 : decode cX11_hour 63 = .ok (.getfield 33, 3) := by decide +kernel
theorem dX11_hour_66 : decode cX11_hour 66 = .ok (.invokevirtual 213, 3) := by decide +kernel
theorem dX11_hour_69 : decode cX11_hour 69 = .ok (.aload_n 0, 1) := by decide +kernel
theorem dX11_hour_70 : decode cX11_hour 70 = .ok (.getfield 41, 3) := by decide +kernel
theorem dX11_hour_73 : decode cX11_hour 73 = .ok (.getfield 101, 3) := by decide +kernel
theorem dX11_hour_76 : decode cX11_hour 76 = .ok (.iconst (-1), 1) := by decide +kernel
theorem dX11_hour_77 : decode cX11_hour 77 = .ok (.invokevirtual 217, 3) := by decide +kernel
theorem dX11_hour_80 : decode cX11_hour 80 = .ok (.ireturn, 1) := by decide +kernel
theorem dX11_wine_0 : decode cX11_wine 0 = .ok (.aload_n 0, 1) := by decide +kernel
theorem dX11_wine_1 : decode cX11_wine 1 = .ok (.iload_n 1, 1) := by decide +kernel
theorem dX11_wine_2 : decode cX11_wine 2 = .ok (.invokevirtual 97, 3) := by decide +kernel
theorem dX11_wine_5 : decode cX11_wine 5 = .ok (.ifCond .eq 13, 3) := by decide +kernel
theorem dX11_wine_8 : decode cX11_wine 8 = .ok (.iload_n 2, 1) := by decide +kernel
theorem dX11_wine_9 : decode cX11_wine 9 = .ok (.iconst 1, 1) := by decide +kernel
theorem dX11_wine_10 : decode cX11_wine 10 = .ok (.bipush 9, 2) := by decide +kernel
theorem dX11_wine_12 : decode cX11_wine 12 = .ok (.invokestatic 61, 3) := by decide +kernel
theorem dX11_wine_15 : decode cX11_wine 15 = .ok (.ifCond .ne 5, 3) := by decide +kernel
theorem dX11_wine_18 : decode cX11_wine 18 = .ok (.iconst (-1), 1) := by decide +kernel
theorem dX11_wine_19 : decode cX11_wine 19 = .ok (.ireturn, 1) := by decide +kernel
theorem dX11_wine_20 : decode cX11_wine 20 = .ok (.aload_n 0, 1) := by decide +kernel
theorem dX11_wine_21 : decode cX11_wine 21 = .ok (.getfield 41, 3) := by decide +kernel
theorem dX11_wine_24 : decode cX11_wine 24 = .ok (.getfield 191, 3) := by decide +kernel
theorem dX11_wine_27 : decode cX11_wine 27 = .ok (.aload_n 0, 1) := by decide +kernel
theorem dX11_wine_28 : decode cX11_wine 28 = .ok (.getfield 41, 3) := by decide +kernel
theorem dX11_wine_31 : decode cX11_wine 31 = .ok (.getfield 101, 3) := by decide +kernel
theorem dX11_wine_34 : decode cX11_wine 34 = .ok (.invokevirtual 205, 3) := by decide +kernel
theorem dX11_wine_37 : decode cX11_wine 37 = .ok (.aload_n 0, 1) := by decide +kernel
theorem dX11_wine_38 : decode cX11_wine 38 = .ok (.getfield 41, 3) := by decide +kernel
theorem dX11_wine_41 : decode cX11_wine 41 = .ok (.getfield 101, 3) := by decide +kernel
theorem dX11_wine_44 : decode cX11_wine 44 = .ok (.iload_n 1, 1) := by decide +kernel
theorem dX11_wine_45 : decode cX11_wine 45 = .ok (.iload_n 2, 1) := by decide +kernel
theorem dX11_wine_46 : decode cX11_wine 46 = .ok (.invokevirtual 223, 3) := by decide +kernel
theorem dX11_wine_49 : decode cX11_wine 49 = .ok (.aload_n 0, 1) := by decide +kernel
theorem dX11_wine_50 : decode cX11_wine 50 = .ok (.getfield 41, 3) := by decide +kernel
theorem dX11_wine_53 : decode cX11_wine 53 = .ok (.getfield 101, 3) := by decide +kernel
theorem dX11_wine_56 : decode cX11_wine 56 = .ok (.getfield 117, 3) := by decide +kernel
theorem dX11_wine_59 : decode cX11_wine 59 = .ok (.iload_n 1, 1) := by decide +kernel
theorem dX11_wine_60 : decode cX11_wine 60 = .ok (.iaload, 1) := by decide +kernel
theorem dX11_wine_61 : decode cX11_wine 61 = .ok (.ireturn, 1) := by decide +kernel
theorem dX11_place_0 : decode cX11_place 0 = .ok (.aload_n 0, 1) := by decide +kernel
theorem dX11_place_1 : decode cX11_place 1 = .ok (.iload_n 1, 1) := by decide +kernel
theorem dX11_place_2 : decode cX11_place 2 = .ok (.invokevirtual 97, 3) := by decide +kernel
theorem dX11_place_5 : decode cX11_place 5 = .ok (.ifCond .eq 27, 3) := by decide +kernel
theorem dX11_place_8 : decode cX11_place 8 = .ok (.aload_n 0, 1) := by decide +kernel
theorem dX11_place_9 : decode cX11_place 9 = .ok (.iload_n 2, 1) := by decide +kernel
theorem dX11_place_10 : decode cX11_place 10 = .ok (.invokevirtual 150, 3) := by decide +kernel
theorem dX11_place_13 : decode cX11_place 13 = .ok (.ifCond .eq 19, 3) := by decide +kernel
theorem dX11_place_16 : decode cX11_place 16 = .ok (.aload_n 0, 1) := by decide +kernel
theorem dX11_place_17 : decode cX11_place 17 = .ok (.getfield 41, 3) := by decide +kernel
theorem dX11_place_20 : decode cX11_place 20 = .ok (.getfield 101, 3) := by decide +kernel
theorem dX11_place_23 : decode cX11_place 23 = .ok (.getfield 105, 3) := by decide +kernel
theorem dX11_place_26 : decode cX11_place 26 = .ok (.iload_n 1, 1) := by decide +kernel
theorem dX11_place_27 : decode cX11_place 27 = .ok (.iaload, 1) := by decide +kernel
theorem dX11_place_28 : decode cX11_place 28 = .ok (.iload_n 2, 1) := by decide +kernel
theorem dX11_place_29 : decode cX11_place 29 = .ok (.if_icmp .ne 5, 3) := by decide +kernel
theorem dX11_place_32 : decode cX11_place 32 = .ok (.iconst (-1), 1) := by decide +kernel
theorem dX11_place_33 : decode cX11_place 33 = .ok (.ireturn, 1) := by decide +kernel
theorem dX11_place_34 : decode cX11_place 34 = .ok (.aload_n 0, 1) := by decide +kernel
theorem dX11_place_35 : decode cX11_place 35 = .ok (.getfield 41, 3) := by decide +kernel
theorem dX11_place_38 : decode cX11_place 38 = .ok (.getfield 191, 3) := by decide +kernel
theorem dX11_place_41 : decode cX11_place 41 = .ok (.aload_n 0, 1) := by decide +kernel
theorem dX11_place_42 : decode cX11_place 42 = .ok (.getfield 41, 3) := by decide +kernel
theorem dX11_place_45 : decode cX11_place 45 = .ok (.getfield 101, 3) := by decide +kernel
theorem dX11_place_48 : decode cX11_place 48 = .ok (.invokevirtual 205, 3) := by decide +kernel
theorem dX11_place_51 : decode cX11_place 51 = .ok (.aload_n 0, 1) := by decide +kernel
theorem dX11_place_52 : decode cX11_place 52 = .ok (.getfield 41, 3) := by decide +kernel
theorem dX11_place_55 : decode cX11_place 55 = .ok (.getfield 101, 3) := by decide +kernel
theorem dX11_place_58 : decode cX11_place 58 = .ok (.getfield 105, 3) := by decide +kernel
theorem dX11_place_61 : decode cX11_place 61 = .ok (.iload_n 1, 1) := by decide +kernel
theorem dX11_place_62 : decode cX11_place 62 = .ok (.iaload, 1) := by decide +kernel
theorem dX11_place_63 : decode cX11_place 63 = .ok (.istore_n 3, 1) := by decide +kernel
theorem dX11_place_64 : decode cX11_place 64 = .ok (.aload_n 0, 1) := by decide +kernel
theorem dX11_place_65 : decode cX11_place 65 = .ok (.getfield 41, 3) := by decide +kernel
theorem dX11_place_68 : decode cX11_place 68 = .ok (.getfield 101, 3) := by decide +kernel
theorem dX11_place_71 : decode cX11_place 71 = .ok (.getfield 105, 3) := by decide +kernel
theorem dX11_place_74 : decode cX11_place 74 = .ok (.iload_n 1, 1) := by decide +kernel
theorem dX11_place_75 : decode cX11_place 75 = .ok (.iload_n 2, 1) := by decide +kernel
theorem dX11_place_76 : decode cX11_place 76 = .ok (.iastore, 1) := by decide +kernel
theorem dX11_place_77 : decode cX11_place 77 = .ok (.iload_n 3, 1) := by decide +kernel
theorem dX11_place_78 : decode cX11_place 78 = .ok (.ireturn, 1) := by decide +kernel
theorem dX11_face_0 : decode cX11_face 0 = .ok (.aload_n 0, 1) := by decide +kernel
theorem dX11_face_1 : decode cX11_face 1 = .ok (.iload_n 1, 1) := by decide +kernel
theorem dX11_face_2 : decode cX11_face 2 = .ok (.invokevirtual 97, 3) := by decide +kernel
theorem dX11_face_5 : decode cX11_face 5 = .ok (.ifCond .eq 28, 3) := by decide +kernel
theorem dX11_face_8 : decode cX11_face 8 = .ok (.iload_n 2, 1) := by decide +kernel
theorem dX11_face_9 : decode cX11_face 9 = .ok (.iconst 0, 1) := by decide +kernel
theorem dX11_face_10 : decode cX11_face 10 = .ok (.iconst 3, 1) := by decide +kernel
theorem dX11_face_11 : decode cX11_face 11 = .ok (.invokestatic 61, 3) := by decide +kernel
theorem dX11_face_14 : decode cX11_face 14 = .ok (.ifCond .eq 19, 3) := by decide +kernel
theorem dX11_face_17 : decode cX11_face 17 = .ok (.aload_n 0, 1) := by decide +kernel
theorem dX11_face_18 : decode cX11_face 18 = .ok (.getfield 41, 3) := by decide +kernel
theorem dX11_face_21 : decode cX11_face 21 = .ok (.getfield 101, 3) := by decide +kernel
theorem dX11_face_24 : decode cX11_face 24 = .ok (.getfield 114, 3) := by decide +kernel
theorem dX11_face_27 : decode cX11_face 27 = .ok (.iload_n 1, 1) := by decide +kernel
theorem dX11_face_28 : decode cX11_face 28 = .ok (.iaload, 1) := by decide +kernel
theorem dX11_face_29 : decode cX11_face 29 = .ok (.iload_n 2, 1) := by decide +kernel
theorem dX11_face_30 : decode cX11_face 30 = .ok (.if_icmp .ne 5, 3) := by decide +kernel
theorem dX11_face_33 : decode cX11_face 33 = .ok (.iconst (-1), 1) := by decide +kernel
theorem dX11_face_34 : decode cX11_face 34 = .ok (.ireturn, 1) := by decide +kernel
theorem dX11_face_35 : decode cX11_face 35 = .ok (.aload_n 0, 1) := by decide +kernel
theorem dX11_face_36 : decode cX11_face 36 = .ok (.getfield 41, 3) := by decide +kernel
theorem dX11_face_39 : decode cX11_face 39 = .ok (.getfield 191, 3) := by decide +kernel
theorem dX11_face_42 : decode cX11_face 42 = .ok (.aload_n 0, 1) := by decide +kernel
theorem dX11_face_43 : decode cX11_face 43 = .ok (.getfield 41, 3) := by decide +kernel
theorem dX11_face_46 : decode cX11_face 46 = .ok (.getfield 101, 3) := by decide +kernel
theorem dX11_face_49 : decode cX11_face 49 = .ok (.invokevirtual 205, 3) := by decide +kernel
theorem dX11_face_52 : decode cX11_face 52 = .ok (.aload_n 0, 1) := by decide +kernel
theorem dX11_face_53 : decode cX11_face 53 = .ok (.getfield 41, 3) := by decide +kernel
theorem dX11_face_56 : decode cX11_face 56 = .ok (.getfield 101, 3) := by decide +kernel
theorem dX11_face_59 : decode cX11_face 59 = .ok (.getfield 114, 3) := by decide +kernel
theorem dX11_face_62 : decode cX11_face 62 = .ok (.iload_n 1, 1) := by decide +kernel
theorem dX11_face_63 : decode cX11_face 63 = .ok (.iaload, 1) := by decide +kernel
theorem dX11_face_64 : decode cX11_face 64 = .ok (.istore_n 3, 1) := by decide +kernel
theorem dX11_face_65 : decode cX11_face 65 = .ok (.aload_n 0, 1) := by decide +kernel
theorem dX11_face_66 : decode cX11_face 66 = .ok (.getfield 41, 3) := by decide +kernel
theorem dX11_face_69 : decode cX11_face 69 = .ok (.getfield 101, 3) := by decide +kernel
theorem dX11_face_72 : decode cX11_face 72 = .ok (.getfield 114, 3) := by decide +kernel
theorem dX11_face_75 : decode cX11_face 75 = .ok (.iload_n 1, 1) := by decide +kernel
theorem dX11_face_76 : decode cX11_face 76 = .ok (.iload_n 2, 1) := by decide +kernel
theorem dX11_face_77 : decode cX11_face 77 = .ok (.iastore, 1) := by decide +kernel
theorem dX11_face_78 : decode cX11_face 78 = .ok (.iload_n 3, 1) := by decide +kernel
theorem dX11_face_79 : decode cX11_face 79 = .ok (.ireturn, 1) := by decide +kernel
theorem dX11_mend_0 : decode cX11_mend 0 = .ok (.aload_n 0, 1) := by decide +kernel
theorem dX11_mend_1 : decode cX11_mend 1 = .ok (.iload_n 1, 1) := by decide +kernel
theorem dX11_mend_2 : decode cX11_mend 2 = .ok (.invokevirtual 138, 3) := by decide +kernel
theorem dX11_mend_5 : decode cX11_mend 5 = .ok (.ifCond .eq 20, 3) := by decide +kernel
theorem dX11_mend_8 : decode cX11_mend 8 = .ok (.aload_n 0, 1) := by decide +kernel
theorem dX11_mend_9 : decode cX11_mend 9 = .ok (.getfield 41, 3) := by decide +kernel
theorem dX11_mend_12 : decode cX11_mend 12 = .ok (.getfield 101, 3) := by decide +kernel
theorem dX11_mend_15 : decode cX11_mend 15 = .ok (.getfield 147, 3) := by decide +kernel
theorem dX11_mend_18 : decode cX11_mend 18 = .ok (.iload_n 1, 1) := by decide +kernel
theorem dX11_mend_19 : decode cX11_mend 19 = .ok (.ishr, 1) := by decide +kernel
theorem dX11_mend_20 : decode cX11_mend 20 = .ok (.iconst 1, 1) := by decide +kernel
theorem dX11_mend_21 : decode cX11_mend 21 = .ok (.iand, 1) := by decide +kernel
theorem dX11_mend_22 : decode cX11_mend 22 = .ok (.ifCond .ne 5, 3) := by decide +kernel
theorem dX11_mend_25 : decode cX11_mend 25 = .ok (.iconst (-1), 1) := by decide +kernel
theorem dX11_mend_26 : decode cX11_mend 26 = .ok (.ireturn, 1) := by decide +kernel
theorem dX11_mend_27 : decode cX11_mend 27 = .ok (.aload_n 0, 1) := by decide +kernel
theorem dX11_mend_28 : decode cX11_mend 28 = .ok (.getfield 41, 3) := by decide +kernel
theorem dX11_mend_31 : decode cX11_mend 31 = .ok (.getfield 191, 3) := by decide +kernel
theorem dX11_mend_34 : decode cX11_mend 34 = .ok (.aload_n 0, 1) := by decide +kernel
theorem dX11_mend_35 : decode cX11_mend 35 = .ok (.getfield 41, 3) := by decide +kernel
theorem dX11_mend_38 : decode cX11_mend 38 = .ok (.getfield 101, 3) := by decide +kernel
theorem dX11_mend_41 : decode cX11_mend 41 = .ok (.invokevirtual 205, 3) := by decide +kernel
theorem dX11_mend_44 : decode cX11_mend 44 = .ok (.aload_n 0, 1) := by decide +kernel
theorem dX11_mend_45 : decode cX11_mend 45 = .ok (.getfield 41, 3) := by decide +kernel
theorem dX11_mend_48 : decode cX11_mend 48 = .ok (.getfield 101, 3) := by decide +kernel
theorem dX11_mend_51 : decode cX11_mend 51 = .ok (.dup, 1) := by decide +kernel
theorem dX11_mend_52 : decode cX11_mend 52 = .ok (.getfield 147, 3) := by decide +kernel
theorem dX11_mend_55 : decode cX11_mend 55 = .ok (.iconst 1, 1) := by decide +kernel
theorem dX11_mend_56 : decode cX11_mend 56 = .ok (.iload_n 1, 1) := by decide +kernel
theorem dX11_mend_57 : decode cX11_mend 57 = .ok (.ishl, 1) := by decide +kernel
theorem dX11_mend_58 : decode cX11_mend 58 = .ok (.iconst (-1), 1) := by decide +kernel
theorem dX11_mend_59 : decode cX11_mend 59 = .ok (.ixor, 1) := by decide +kernel
theorem dX11_mend_60 : decode cX11_mend 60 = .ok (.iand, 1) := by decide +kernel
theorem dX11_mend_61 : decode cX11_mend 61 = .ok (.putfield 147, 3) := by decide +kernel
theorem dX11_mend_64 : decode cX11_mend 64 = .ok (.aload_n 0, 1) := by decide +kernel
theorem dX11_mend_65 : decode cX11_mend 65 = .ok (.getfield 41, 3) := by decide +kernel
theorem dX11_mend_68 : decode cX11_mend 68 = .ok (.getfield 101, 3) := by decide +kernel
theorem dX11_mend_71 : decode cX11_mend 71 = .ok (.getfield 147, 3) := by decide +kernel
theorem dX11_mend_74 : decode cX11_mend 74 = .ok (.invokestatic 227, 3) := by decide +kernel
theorem dX11_mend_77 : decode cX11_mend 77 = .ok (.ireturn, 1) := by decide +kernel
theorem dX11_undo_0 : decode cX11_undo 0 = .ok (.aload_n 0, 1) := by decide +kernel
theorem dX11_undo_1 : decode cX11_undo 1 = .ok (.getfield 41, 3) := by decide +kernel
theorem dX11_undo_4 : decode cX11_undo 4 = .ok (.getfield 191, 3) := by decide +kernel
theorem dX11_undo_7 : decode cX11_undo 7 = .ok (.aload_n 0, 1) := by decide +kernel
theorem dX11_undo_8 : decode cX11_undo 8 = .ok (.getfield 41, 3) := by decide +kernel
theorem dX11_undo_11 : decode cX11_undo 11 = .ok (.getfield 101, 3) := by decide +kernel
theorem dX11_undo_14 : decode cX11_undo 14 = .ok (.invokevirtual 232, 3) := by decide +kernel
theorem dX11_undo_17 : decode cX11_undo 17 = .ok (.ifCond .eq 16, 3) := by decide +kernel
theorem dX11_undo_20 : decode cX11_undo 20 = .ok (.aload_n 0, 1) := by decide +kernel
theorem dX11_undo_21 : decode cX11_undo 21 = .ok (.getfield 41, 3) := by decide +kernel
theorem dX11_undo_24 : decode cX11_undo 24 = .ok (.getfield 191, 3) := by decide +kernel
theorem dX11_undo_27 : decode cX11_undo 27 = .ok (.getfield 195, 3) := by decide +kernel
theorem dX11_undo_30 : decode cX11_undo 30 = .ok (.goto 5, 3) := by decide +kernel
theorem dX11_undo_33 : decode cX11_undo 33 = .ok (.bipush (-2), 2) := by decide +kernel
theorem dX11_undo_35 : decode cX11_undo 35 = .ok (.ireturn, 1) := by decide +kernel
theorem dX11_ahead_0 : decode cX11_ahead 0 = .ok (.aload_n 0, 1) := by decide +kernel
theorem dX11_ahead_1 : decode cX11_ahead 1 = .ok (.getfield 41, 3) := by decide +kernel
theorem dX11_ahead_4 : decode cX11_ahead 4 = .ok (.getfield 78, 3) := by decide +kernel
theorem dX11_ahead_7 : decode cX11_ahead 7 = .ok (.invokevirtual 201, 3) := by decide +kernel
theorem dX11_ahead_10 : decode cX11_ahead 10 = .ok (.ifCond .eq 22, 3) := by decide +kernel
theorem dX11_ahead_13 : decode cX11_ahead 13 = .ok (.iload_n 2, 1) := by decide +kernel
theorem dX11_ahead_14 : decode cX11_ahead 14 = .ok (.iconst 0, 1) := by decide +kernel
theorem dX11_ahead_15 : decode cX11_ahead 15 = .ok (.bipush 100, 2) := by decide +kernel
theorem dX11_ahead_17 : decode cX11_ahead 17 = .ok (.invokestatic 61, 3) := by decide +kernel
theorem dX11_ahead_20 : decode cX11_ahead 20 = .ok (.ifCond .eq 12, 3) := by decide +kernel
theorem dX11_ahead_23 : decode cX11_ahead 23 = .ok (.aload_n 0, 1) := by decide +kernel
theorem dX11_ahead_24 : decode cX11_ahead 24 = .ok (.iload_n 1, 1) := by decide +kernel
theorem dX11_ahead_25 : decode cX11_ahead 25 = .ok (.iload_n 3, 1) := by decide +kernel
theorem dX11_ahead_26 : decode cX11_ahead 26 = .ok (.invokevirtual 236, 3) := by decide +kernel
theorem dX11_ahead_29 : decode cX11_ahead 29 = .ok (.ifCond .ne 5, 3) := by decide +kernel
theorem dX11_ahead_32 : decode cX11_ahead 32 = .ok (.iconst (-1), 1) := by decide +kernel
theorem dX11_ahead_33 : decode cX11_ahead 33 = .ok (.ireturn, 1) := by decide +kernel
theorem dX11_ahead_34 : decode cX11_ahead 34 = .ok (.aload_n 0, 1) := by decide +kernel
theorem dX11_ahead_35 : decode cX11_ahead 35 = .ok (.getfield 33, 3) := by decide +kernel
theorem dX11_ahead_38 : decode cX11_ahead 38 = .ok (.iload_n 1, 1) := by decide +kernel
theorem dX11_ahead_39 : decode cX11_ahead 39 = .ok (.iload_n 2, 1) := by decide +kernel
theorem dX11_ahead_40 : decode cX11_ahead 40 = .ok (.iload_n 3, 1) := by decide +kernel
theorem dX11_ahead_41 : decode cX11_ahead 41 = .ok (.invokevirtual 240, 3) := by decide +kernel
theorem dX11_ahead_44 : decode cX11_ahead 44 = .ok (.ireturn, 1) := by decide +kernel
theorem dX11_whim_0 : decode cX11_whim 0 = .ok (.aload_n 0, 1) := by decide +kernel
theorem dX11_whim_1 : decode cX11_whim 1 = .ok (.iload_n 1, 1) := by decide +kernel
theorem dX11_whim_2 : decode cX11_whim 2 = .ok (.invokevirtual 97, 3) := by decide +kernel
theorem dX11_whim_5 : decode cX11_whim 5 = .ok (.ifCond .eq 17, 3) := by decide +kernel
theorem dX11_whim_8 : decode cX11_whim 8 = .ok (.aload_n 0, 1) := by decide +kernel
theorem dX11_whim_9 : decode cX11_whim 9 = .ok (.getfield 33, 3) := by decide +kernel
theorem dX11_whim_12 : decode cX11_whim 12 = .ok (.iconst 1, 1) := by decide +kernel
theorem dX11_whim_13 : decode cX11_whim 13 = .ok (.iload_n 1, 1) := by decide +kernel
theorem dX11_whim_14 : decode cX11_whim 14 = .ok (.ishl, 1) := by decide +kernel
theorem dX11_whim_15 : decode cX11_whim 15 = .ok (.iconst 1, 1) := by decide +kernel
theorem dX11_whim_16 : decode cX11_whim 16 = .ok (.invokevirtual 244, 3) := by decide +kernel
theorem dX11_whim_19 : decode cX11_whim 19 = .ok (.goto 4, 3) := by decide +kernel
theorem dX11_whim_22 : decode cX11_whim 22 = .ok (.iconst (-1), 1) := by decide +kernel
theorem dX11_whim_23 : decode cX11_whim 23 = .ok (.ireturn, 1) := by decide +kernel
theorem dX11_storm_0 : decode cX11_storm 0 = .ok (.aload_n 0, 1) := by decide +kernel
theorem dX11_storm_1 : decode cX11_storm 1 = .ok (.getfield 41, 3) := by decide +kernel
theorem dX11_storm_4 : decode cX11_storm 4 = .ok (.getfield 78, 3) := by decide +kernel
theorem dX11_storm_7 : decode cX11_storm 7 = .ok (.invokevirtual 201, 3) := by decide +kernel
theorem dX11_storm_10 : decode cX11_storm 10 = .ok (.ifCond .eq 13, 3) := by decide +kernel
theorem dX11_storm_13 : decode cX11_storm 13 = .ok (.iload_n 1, 1) := by decide +kernel
theorem dX11_storm_14 : decode cX11_storm 14 = .ok (.iconst 1, 1) := by decide +kernel
theorem dX11_storm_15 : decode cX11_storm 15 = .ok (.bipush 6, 2) := by decide +kernel
theorem dX11_storm_17 : decode cX11_storm 17 = .ok (.invokestatic 61, 3) := by decide +kernel
theorem dX11_storm_20 : decode cX11_storm 20 = .ok (.ifCond .ne 5, 3) := by decide +kernel
theorem dX11_storm_23 : decode cX11_storm 23 = .ok (.iconst (-1), 1) := by decide +kernel
theorem dX11_storm_24 : decode cX11_storm 24 = .ok (.ireturn, 1) := by decide +kernel
theorem dX11_storm_25 : decode cX11_storm 25 = .ok (.aload_n 0, 1) := by decide +kernel
theorem dX11_storm_26 : decode cX11_storm 26 = .ok (.getfield 33, 3) := by decide +kernel
theorem dX11_storm_29 : decode cX11_storm 29 = .ok (.bipush 63, 2) := by decide +kernel
theorem dX11_storm_31 : decode cX11_storm 31 = .ok (.iload_n 1, 1) := by decide +kernel
theorem dX11_storm_32 : decode cX11_storm 32 = .ok (.invokevirtual 244, 3) := by decide +kernel
theorem dX11_storm_35 : decode cX11_storm 35 = .ok (.ireturn, 1) := by decide +kernel
theorem dX11_stand_0 : decode cX11_stand 0 = .ok (.aload_n 0, 1) := by decide +kernel
theorem dX11_stand_1 : decode cX11_stand 1 = .ok (.iload_n 1, 1) := by decide +kernel
theorem dX11_stand_2 : decode cX11_stand 2 = .ok (.invokevirtual 97, 3) := by decide +kernel
theorem dX11_stand_5 : decode cX11_stand 5 = .ok (.ifCond .eq 11, 3) := by decide +kernel
theorem dX11_stand_8 : decode cX11_stand 8 = .ok (.iload_n 2, 1) := by decide +kernel
theorem dX11_stand_9 : decode cX11_stand 9 = .ok (.iload_n 3, 1) := by decide +kernel
theorem dX11_stand_10 : decode cX11_stand 10 = .ok (.invokestatic 248, 3) := by decide +kernel
theorem dX11_stand_13 : decode cX11_stand 13 = .ok (.ifCond .ne 5, 3) := by decide +kernel
theorem dX11_stand_16 : decode cX11_stand 16 = .ok (.iconst (-1), 1) := by decide +kernel
theorem dX11_stand_17 : decode cX11_stand 17 = .ok (.ireturn, 1) := by decide +kernel
theorem dX11_stand_18 : decode cX11_stand 18 = .ok (.aload_n 0, 1) := by decide +kernel
theorem dX11_stand_19 : decode cX11_stand 19 = .ok (.getfield 33, 3) := by decide +kernel
theorem dX11_stand_22 : decode cX11_stand 22 = .ok (.iload_n 1, 1) := by decide +kernel
theorem dX11_stand_23 : decode cX11_stand 23 = .ok (.iload_n 2, 1) := by decide +kernel
theorem dX11_stand_24 : decode cX11_stand 24 = .ok (.iload_n 3, 1) := by decide +kernel
theorem dX11_stand_25 : decode cX11_stand 25 = .ok (.invokevirtual 251, 3) := by decide +kernel
theorem dX11_stand_28 : decode cX11_stand 28 = .ok (.ireturn, 1) := by decide +kernel
theorem dX11_turn_0 : decode cX11_turn 0 = .ok (.aload_n 0, 1) := by decide +kernel
theorem dX11_turn_1 : decode cX11_turn 1 = .ok (.iload_n 1, 1) := by decide +kernel
theorem dX11_turn_2 : decode cX11_turn 2 = .ok (.invokevirtual 97, 3) := by decide +kernel
theorem dX11_turn_5 : decode cX11_turn 5 = .ok (.ifCond .eq 11, 3) := by decide +kernel
theorem dX11_turn_8 : decode cX11_turn 8 = .ok (.iload_n 2, 1) := by decide +kernel
theorem dX11_turn_9 : decode cX11_turn 9 = .ok (.iload_n 3, 1) := by decide +kernel
theorem dX11_turn_10 : decode cX11_turn 10 = .ok (.invokestatic 248, 3) := by decide +kernel
theorem dX11_turn_13 : decode cX11_turn 13 = .ok (.ifCond .ne 5, 3) := by decide +kernel
theorem dX11_turn_16 : decode cX11_turn 16 = .ok (.iconst (-1), 1) := by decide +kernel
theorem dX11_turn_17 : decode cX11_turn 17 = .ok (.ireturn, 1) := by decide +kernel
theorem dX11_turn_18 : decode cX11_turn 18 = .ok (.aload_n 0, 1) := by decide +kernel
theorem dX11_turn_19 : decode cX11_turn 19 = .ok (.getfield 33, 3) := by decide +kernel
theorem dX11_turn_22 : decode cX11_turn 22 = .ok (.iload_n 1, 1) := by decide +kernel
theorem dX11_turn_23 : decode cX11_turn 23 = .ok (.iload_n 2, 1) := by decide +kernel
theorem dX11_turn_24 : decode cX11_turn 24 = .ok (.iload_n 3, 1) := by decide +kernel
theorem dX11_turn_25 : decode cX11_turn 25 = .ok (.invokevirtual 254, 3) := by decide +kernel
theorem dX11_turn_28 : decode cX11_turn 28 = .ok (.ireturn, 1) := by decide +kernel
theorem dX11_takes_0 : decode cX11_takes 0 = .ok (.aload_n 0, 1) := by decide +kernel
theorem dX11_takes_1 : decode cX11_takes 1 = .ok (.iload_n 1, 1) := by decide +kernel
theorem dX11_takes_2 : decode cX11_takes 2 = .ok (.invokevirtual 97, 3) := by decide +kernel
theorem dX11_takes_5 : decode cX11_takes 5 = .ok (.ifCond .eq 33, 3) := by decide +kernel
theorem dX11_takes_8 : decode cX11_takes 8 = .ok (.aload_n 0, 1) := by decide +kernel
theorem dX11_takes_9 : decode cX11_takes 9 = .ok (.iload_n 2, 1) := by decide +kernel
theorem dX11_takes_10 : decode cX11_takes 10 = .ok (.invokevirtual 126, 3) := by decide +kernel
theorem dX11_takes_13 : decode cX11_takes 13 = .ok (.ifCond .eq 25, 3) := by decide +kernel
theorem dX11_takes_16 : decode cX11_takes 16 = .ok (.iload_n 3, 1) := by decide +kernel
theorem dX11_takes_17 : decode cX11_takes 17 = .ok (.iconst 1, 1) := by decide +kernel
theorem dX11_takes_18 : decode cX11_takes 18 = .ok (.sipush 9999, 3) := by decide +kernel
theorem dX11_takes_21 : decode cX11_takes 21 = .ok (.invokestatic 61, 3) := by decide +kernel
theorem dX11_takes_24 : decode cX11_takes 24 = .ok (.ifCond .eq 14, 3) := by decide +kernel
theorem dX11_takes_27 : decode cX11_takes 27 = .ok (.iload 4, 2) := by decide +kernel
theorem dX11_takes_29 : decode cX11_takes 29 = .ok (.iconst 1, 1) := by decide +kernel
theorem dX11_takes_30 : decode cX11_takes 30 = .ok (.bipush 60, 2) := by decide +kernel
theorem dX11_takes_32 : decode cX11_takes 32 = .ok (.invokestatic 61, 3) := by decide +kernel
theorem dX11_takes_35 : decode cX11_takes 35 = .ok (.ifCond .ne 5, 3) := by decide +kernel
theorem dX11_takes_38 : decode cX11_takes 38 = .ok (.iconst (-1), 1) := by decide +kernel
theorem dX11_takes_39 : decode cX11_takes 39 = .ok (.ireturn, 1) := by decide +kernel
theorem dX11_takes_40 : decode cX11_takes 40 = .ok (.aload_n 0, 1) := by decide +kernel
theorem dX11_takes_41 : decode cX11_takes 41 = .ok (.getfield 33, 3) := by decide +kernel
theorem dX11_takes_44 : decode cX11_takes 44 = .ok (.iload_n 1, 1) := by decide +kernel
theorem dX11_takes_45 : decode cX11_takes 45 = .ok (.iload_n 2, 1) := by decide +kernel
theorem dX11_takes_46 : decode cX11_takes 46 = .ok (.iload_n 3, 1) := by decide +kernel
theorem dX11_takes_47 : decode cX11_takes 47 = .ok (.iload 4, 2) := by decide +kernel
theorem dX11_takes_49 : decode cX11_takes 49 = .ok (.invokevirtual 257, 3) := by decide +kernel
theorem dX11_takes_52 : decode cX11_takes 52 = .ok (.ireturn, 1) := by decide +kernel
theorem dX11_blown_0 : decode cX11_blown 0 = .ok (.aload_n 0, 1) := by decide +kernel
theorem dX11_blown_1 : decode cX11_blown 1 = .ok (.iload_n 1, 1) := by decide +kernel
theorem dX11_blown_2 : decode cX11_blown 2 = .ok (.invokevirtual 150, 3) := by decide +kernel
theorem dX11_blown_5 : decode cX11_blown 5 = .ok (.ifCond .eq 23, 3) := by decide +kernel
theorem dX11_blown_8 : decode cX11_blown 8 = .ok (.iload_n 2, 1) := by decide +kernel
theorem dX11_blown_9 : decode cX11_blown 9 = .ok (.iconst 0, 1) := by decide +kernel
theorem dX11_blown_10 : decode cX11_blown 10 = .ok (.sipush 999, 3) := by decide +kernel
theorem dX11_blown_13 : decode cX11_blown 13 = .ok (.invokestatic 61, 3) := by decide +kernel
theorem dX11_blown_16 : decode cX11_blown 16 = .ok (.ifCond .eq 12, 3) := by decide +kernel
theorem dX11_blown_19 : decode cX11_blown 19 = .ok (.iload_n 3, 1) := by decide +kernel
theorem dX11_blown_20 : decode cX11_blown 20 = .ok (.iconst 0, 1) := by decide +kernel
theorem dX11_blown_21 : decode cX11_blown 21 = .ok (.iconst 2, 1) := by decide +kernel
theorem dX11_blown_22 : decode cX11_blown 22 = .ok (.invokestatic 61, 3) := by decide +kernel
theorem dX11_blown_25 : decode cX11_blown 25 = .ok (.ifCond .ne 6, 3) := by decide +kernel
theorem dX11_blown_28 : decode cX11_blown 28 = .ok (.bipush (-3), 2) := by decide +kernel
theorem dX11_blown_30 : decode cX11_blown 30 = .ok (.ireturn, 1) := by decide +kernel
theorem dX11_blown_31 : decode cX11_blown 31 = .ok (.aload_n 0, 1) := by decide +kernel
theorem dX11_blown_32 : decode cX11_blown 32 = .ok (.getfield 33, 3) := by decide +kernel
theorem dX11_blown_35 : decode cX11_blown 35 = .ok (.iload_n 1, 1) := by decide +kernel
theorem dX11_blown_36 : decode cX11_blown 36 = .ok (.iload_n 2, 1) := by decide +kernel
theorem dX11_blown_37 : decode cX11_blown 37 = .ok (.iload_n 3, 1) := by decide +kernel
theorem dX11_blown_38 : decode cX11_blown 38 = .ok (.invokevirtual 261, 3) := by decide +kernel
theorem dX11_blown_41 : decode cX11_blown 41 = .ok (.ireturn, 1) := by decide +kernel
theorem dX11_still_0 : decode cX11_still 0 = .ok (.aload_n 0, 1) := by decide +kernel
theorem dX11_still_1 : decode cX11_still 1 = .ok (.getfield 41, 3) := by decide +kernel
theorem dX11_still_4 : decode cX11_still 4 = .ok (.getfield 78, 3) := by decide +kernel
theorem dX11_still_7 : decode cX11_still 7 = .ok (.invokevirtual 201, 3) := by decide +kernel
theorem dX11_still_10 : decode cX11_still 10 = .ok (.ifCond .eq 11, 3) := by decide +kernel
theorem dX11_still_13 : decode cX11_still 13 = .ok (.iload_n 1, 1) := by decide +kernel
theorem dX11_still_14 : decode cX11_still 14 = .ok (.iload_n 2, 1) := by decide +kernel
theorem dX11_still_15 : decode cX11_still 15 = .ok (.invokestatic 248, 3) := by decide +kernel
theorem dX11_still_18 : decode cX11_still 18 = .ok (.ifCond .ne 6, 3) := by decide +kernel
theorem dX11_still_21 : decode cX11_still 21 = .ok (.bipush (-2), 2) := by decide +kernel
theorem dX11_still_23 : decode cX11_still 23 = .ok (.ireturn, 1) := by decide +kernel
theorem dX11_still_24 : decode cX11_still 24 = .ok (.aload_n 0, 1) := by decide +kernel
theorem dX11_still_25 : decode cX11_still 25 = .ok (.getfield 33, 3) := by decide +kernel
theorem dX11_still_28 : decode cX11_still 28 = .ok (.iload_n 1, 1) := by decide +kernel
theorem dX11_still_29 : decode cX11_still 29 = .ok (.iload_n 2, 1) := by decide +kernel
theorem dX11_still_30 : decode cX11_still 30 = .ok (.invokevirtual 264, 3) := by decide +kernel
theorem dX11_still_33 : decode cX11_still 33 = .ok (.ireturn, 1) := by decide +kernel
theorem dX11_lull_0 : decode cX11_lull 0 = .ok (.aload_n 0, 1) := by decide +kernel
theorem dX11_lull_1 : decode cX11_lull 1 = .ok (.getfield 41, 3) := by decide +kernel
theorem dX11_lull_4 : decode cX11_lull 4 = .ok (.getfield 78, 3) := by decide +kernel
theorem dX11_lull_7 : decode cX11_lull 7 = .ok (.invokevirtual 201, 3) := by decide +kernel
theorem dX11_lull_10 : decode cX11_lull 10 = .ok (.ifCond .eq 22, 3) := by decide +kernel
theorem dX11_lull_13 : decode cX11_lull 13 = .ok (.iload_n 1, 1) := by decide +kernel
theorem dX11_lull_14 : decode cX11_lull 14 = .ok (.iconst 1, 1) := by decide +kernel
theorem dX11_lull_15 : decode cX11_lull 15 = .ok (.bipush 100, 2) := by decide +kernel
theorem dX11_lull_17 : decode cX11_lull 17 = .ok (.invokestatic 61, 3) := by decide +kernel
theorem dX11_lull_20 : decode cX11_lull 20 = .ok (.ifCond .eq 12, 3) := by decide +kernel
theorem dX11_lull_23 : decode cX11_lull 23 = .ok (.iload_n 2, 1) := by decide +kernel
theorem dX11_lull_24 : decode cX11_lull 24 = .ok (.iconst 0, 1) := by decide +kernel
theorem dX11_lull_25 : decode cX11_lull 25 = .ok (.iconst 1, 1) := by decide +kernel
theorem dX11_lull_26 : decode cX11_lull 26 = .ok (.invokestatic 61, 3) := by decide +kernel
theorem dX11_lull_29 : decode cX11_lull 29 = .ok (.ifCond .ne 5, 3) := by decide +kernel
theorem dX11_lull_32 : decode cX11_lull 32 = .ok (.iconst (-1), 1) := by decide +kernel
theorem dX11_lull_33 : decode cX11_lull 33 = .ok (.ireturn, 1) := by decide +kernel
theorem dX11_lull_34 : decode cX11_lull 34 = .ok (.aload_n 0, 1) := by decide +kernel
theorem dX11_lull_35 : decode cX11_lull 35 = .ok (.getfield 33, 3) := by decide +kernel
theorem dX11_lull_38 : decode cX11_lull 38 = .ok (.iload_n 1, 1) := by decide +kernel
theorem dX11_lull_39 : decode cX11_lull 39 = .ok (.iload_n 2, 1) := by decide +kernel
theorem dX11_lull_40 : decode cX11_lull 40 = .ok (.invokevirtual 267, 3) := by decide +kernel
theorem dX11_lull_43 : decode cX11_lull 43 = .ok (.ireturn, 1) := by decide +kernel
theorem dX11_harvest_0 : decode cX11_harvest 0 = .ok (.aload_n 0, 1) := by decide +kernel
theorem dX11_harvest_1 : decode cX11_harvest 1 = .ok (.getfield 41, 3) := by decide +kernel
theorem dX11_harvest_4 : decode cX11_harvest 4 = .ok (.getfield 78, 3) := by decide +kernel
theorem dX11_harvest_7 : decode cX11_harvest 7 = .ok (.invokevirtual 201, 3) := by decide +kernel
theorem dX11_harvest_10 : decode cX11_harvest 10 = .ok (.ifCond .eq 22, 3) := by decide +kernel
theorem dX11_harvest_13 : decode cX11_harvest 13 = .ok (.iload_n 1, 1) := by decide +kernel
theorem dX11_harvest_14 : decode cX11_harvest 14 = .ok (.iconst 1, 1) := by decide +kernel
theorem dX11_harvest_15 : decode cX11_harvest 15 = .ok (.bipush 100, 2) := by decide +kernel
theorem dX11_harvest_17 : decode cX11_harvest 17 = .ok (.invokestatic 61, 3) := by decide +kernel
theorem dX11_harvest_20 : decode cX11_harvest 20 = .ok (.ifCond .eq 12, 3) := by decide +kernel
theorem dX11_harvest_23 : decode cX11_harvest 23 = .ok (.iload_n 2, 1) := by decide +kernel
theorem dX11_harvest_24 : decode cX11_harvest 24 = .ok (.iconst 0, 1) := by decide +kernel
theorem dX11_harvest_25 : decode cX11_harvest 25 = .ok (.iconst 1, 1) := by decide +kernel
theorem dX11_harvest_26 : decode cX11_harvest 26 = .ok (.invokestatic 61, 3) := by decide +kernel
theorem dX11_harvest_29 : decode cX11_harvest 29 = .ok (.ifCond .ne 5, 3) := by decide +kernel
theorem dX11_harvest_32 : decode cX11_harvest 32 = .ok (.iconst (-1), 1) := by decide +kernel
theorem dX11_harvest_33 : decode cX11_harvest 33 = .ok (.ireturn, 1) := by decide +kernel
theorem dX11_harvest_34 : decode cX11_harvest 34 = .ok (.aload_n 0, 1) := by decide +kernel
theorem dX11_harvest_35 : decode cX11_harvest 35 = .ok (.getfield 33, 3) := by decide +kernel
theorem dX11_harvest_38 : decode cX11_harvest 38 = .ok (.iload_n 1, 1) := by decide +kernel
theorem dX11_harvest_39 : decode cX11_harvest 39 = .ok (.iload_n 2, 1) := by decide +kernel
theorem dX11_harvest_40 : decode cX11_harvest 40 = .ok (.invokevirtual 270, 3) := by decide +kernel
theorem dX11_harvest_43 : decode cX11_harvest 43 = .ok (.ireturn, 1) := by decide +kernel
theorem dX11_rests_0 : decode cX11_rests 0 = .ok (.aload_n 0, 1) := by decide +kernel
theorem dX11_rests_1 : decode cX11_rests 1 = .ok (.iload_n 1, 1) := by decide +kernel
theorem dX11_rests_2 : decode cX11_rests 2 = .ok (.invokevirtual 97, 3) := by decide +kernel
theorem dX11_rests_5 : decode cX11_rests 5 = .ok (.ifCond .eq 16, 3) := by decide +kernel
theorem dX11_rests_8 : decode cX11_rests 8 = .ok (.aload_n 0, 1) := by decide +kernel
theorem dX11_rests_9 : decode cX11_rests 9 = .ok (.iload_n 2, 1) := by decide +kernel
theorem dX11_rests_10 : decode cX11_rests 10 = .ok (.invokevirtual 97, 3) := by decide +kernel
theorem dX11_rests_13 : decode cX11_rests 13 = .ok (.ifCond .eq 8, 3) := by decide +kernel
theorem dX11_rests_16 : decode cX11_rests 16 = .ok (.iload_n 1, 1) := by decide +kernel
theorem dX11_rests_17 : decode cX11_rests 17 = .ok (.iload_n 2, 1) := by decide +kernel
theorem dX11_rests_18 : decode cX11_rests 18 = .ok (.if_icmp .ne 5, 3) := by decide +kernel
theorem dX11_rests_21 : decode cX11_rests 21 = .ok (.iconst (-1), 1) := by decide +kernel
theorem dX11_rests_22 : decode cX11_rests 22 = .ok (.ireturn, 1) := by decide +kernel
theorem dX11_rests_23 : decode cX11_rests 23 = .ok (.iload_n 3, 1) := by decide +kernel
theorem dX11_rests_24 : decode cX11_rests 24 = .ok (.iconst 1, 1) := by decide +kernel
theorem dX11_rests_25 : decode cX11_rests 25 = .ok (.bipush 20, 2) := by decide +kernel
theorem dX11_rests_27 : decode cX11_rests 27 = .ok (.invokestatic 61, 3) := by decide +kernel
theorem dX11_rests_30 : decode cX11_rests 30 = .ok (.ifCond .eq 13, 3) := by decide +kernel
theorem dX11_rests_33 : decode cX11_rests 33 = .ok (.iload 4, 2) := by decide +kernel
theorem dX11_rests_35 : decode cX11_rests 35 = .ok (.iconst 0, 1) := by decide +kernel
theorem dX11_rests_36 : decode cX11_rests 36 = .ok (.iconst 2, 1) := by decide +kernel
theorem dX11_rests_37 : decode cX11_rests 37 = .ok (.invokestatic 61, 3) := by decide +kernel
theorem dX11_rests_40 : decode cX11_rests 40 = .ok (.ifCond .ne 5, 3) := by decide +kernel
theorem dX11_rests_43 : decode cX11_rests 43 = .ok (.iconst (-1), 1) := by decide +kernel
theorem dX11_rests_44 : decode cX11_rests 44 = .ok (.ireturn, 1) := by decide +kernel
theorem dX11_rests_45 : decode cX11_rests 45 = .ok (.aload_n 0, 1) := by decide +kernel
theorem dX11_rests_46 : decode cX11_rests 46 = .ok (.getfield 33, 3) := by decide +kernel
theorem dX11_rests_49 : decode cX11_rests 49 = .ok (.iload_n 1, 1) := by decide +kernel
theorem dX11_rests_50 : decode cX11_rests 50 = .ok (.iload_n 2, 1) := by decide +kernel
theorem dX11_rests_51 : decode cX11_rests 51 = .ok (.iload_n 3, 1) := by decide +kernel
theorem dX11_rests_52 : decode cX11_rests 52 = .ok (.iload 4, 2) := by decide +kernel
theorem dX11_rests_54 : decode cX11_rests 54 = .ok (.invokevirtual 273, 3) := by decide +kernel
theorem dX11_rests_57 : decode cX11_rests 57 = .ok (.ireturn, 1) := by decide +kernel
theorem dX11_pence_0 : decode cX11_pence 0 = .ok (.aload_n 0, 1) := by decide +kernel
theorem dX11_pence_1 : decode cX11_pence 1 = .ok (.iload_n 2, 1) := by decide +kernel
theorem dX11_pence_2 : decode cX11_pence 2 = .ok (.invokevirtual 97, 3) := by decide +kernel
theorem dX11_pence_5 : decode cX11_pence 5 = .ok (.ifCond .eq 14, 3) := by decide +kernel
theorem dX11_pence_8 : decode cX11_pence 8 = .ok (.iload_n 1, 1) := by decide +kernel
theorem dX11_pence_9 : decode cX11_pence 9 = .ok (.iconst 0, 1) := by decide +kernel
theorem dX11_pence_10 : decode cX11_pence 10 = .ok (.sipush 9999, 3) := by decide +kernel
theorem dX11_pence_13 : decode cX11_pence 13 = .ok (.invokestatic 61, 3) := by decide +kernel
theorem dX11_pence_16 : decode cX11_pence 16 = .ok (.ifCond .ne 5, 3) := by decide +kernel
theorem dX11_pence_19 : decode cX11_pence 19 = .ok (.iconst (-1), 1) := by decide +kernel
theorem dX11_pence_20 : decode cX11_pence 20 = .ok (.ireturn, 1) := by decide +kernel
theorem dX11_pence_21 : decode cX11_pence 21 = .ok (.aload_n 0, 1) := by decide +kernel
theorem dX11_pence_22 : decode cX11_pence 22 = .ok (.getfield 41, 3) := by decide +kernel
theorem dX11_pence_25 : decode cX11_pence 25 = .ok (.getfield 101, 3) := by decide +kernel
theorem dX11_pence_28 : decode cX11_pence 28 = .ok (.iload_n 1, 1) := by decide +kernel
theorem dX11_pence_29 : decode cX11_pence 29 = .ok (.iload_n 2, 1) := by decide +kernel
theorem dX11_pence_30 : decode cX11_pence 30 = .ok (.invokevirtual 276, 3) := by decide +kernel
theorem dX11_pence_33 : decode cX11_pence 33 = .ok (.ireturn, 1) := by decide +kernel
theorem dX11_note_0 : decode cX11_note 0 = .ok (.iload_n 1, 1) := by decide +kernel
theorem dX11_note_1 : decode cX11_note 1 = .ok (.iconst (-1), 1) := by decide +kernel
theorem dX11_note_2 : decode cX11_note 2 = .ok (.if_icmp .ne 16, 3) := by decide +kernel
theorem dX11_note_5 : decode cX11_note 5 = .ok (.aload_n 0, 1) := by decide +kernel
theorem dX11_note_6 : decode cX11_note 6 = .ok (.getfield 41, 3) := by decide +kernel
theorem dX11_note_9 : decode cX11_note 9 = .ok (.getfield 182, 3) := by decide +kernel
theorem dX11_note_12 : decode cX11_note 12 = .ok (.iconst 0, 1) := by decide +kernel
theorem dX11_note_13 : decode cX11_note 13 = .ok (.putfield 186, 3) := by decide +kernel
theorem dX11_note_16 : decode cX11_note 16 = .ok (.iconst 0, 1) := by decide +kernel
theorem dX11_note_17 : decode cX11_note 17 = .ok (.ireturn, 1) := by decide +kernel
theorem dX11_note_18 : decode cX11_note 18 = .ok (.iload_n 1, 1) := by decide +kernel
theorem dX11_note_19 : decode cX11_note 19 = .ok (.iconst 0, 1) := by decide +kernel
theorem dX11_note_20 : decode cX11_note 20 = .ok (.bipush 60, 2) := by decide +kernel
theorem dX11_note_22 : decode cX11_note 22 = .ok (.invokestatic 61, 3) := by decide +kernel
theorem dX11_note_25 : decode cX11_note 25 = .ok (.ifCond .eq 22, 3) := by decide +kernel
theorem dX11_note_28 : decode cX11_note 28 = .ok (.aload_n 0, 1) := by decide +kernel
theorem dX11_note_29 : decode cX11_note 29 = .ok (.iload_n 2, 1) := by decide +kernel
theorem dX11_note_30 : decode cX11_note 30 = .ok (.invokevirtual 150, 3) := by decide +kernel
theorem dX11_note_33 : decode cX11_note 33 = .ok (.ifCond .eq 14, 3) := by decide +kernel
theorem dX11_note_36 : decode cX11_note 36 = .ok (.iload_n 3, 1) := by decide +kernel
theorem dX11_note_37 : decode cX11_note 37 = .ok (.iconst 0, 1) := by decide +kernel
theorem dX11_note_38 : decode cX11_note 38 = .ok (.sipush 999, 3) := by decide +kernel
theorem dX11_note_41 : decode cX11_note 41 = .ok (.invokestatic 61, 3) := by decide +kernel
theorem dX11_note_44 : decode cX11_note 44 = .ok (.ifCond .ne 6, 3) := by decide +kernel
theorem dX11_note_47 : decode cX11_note 47 = .ok (.bipush (-2), 2) := by decide +kernel
theorem dX11_note_49 : decode cX11_note 49 = .ok (.ireturn, 1) := by decide +kernel
theorem dX11_note_50 : decode cX11_note 50 = .ok (.aload_n 0, 1) := by decide +kernel
theorem dX11_note_51 : decode cX11_note 51 = .ok (.getfield 41, 3) := by decide +kernel
theorem dX11_note_54 : decode cX11_note 54 = .ok (.getfield 182, 3) := by decide +kernel
theorem dX11_note_57 : decode cX11_note 57 = .ok (.iload_n 1, 1) := by decide +kernel
theorem dX11_note_58 : decode cX11_note 58 = .ok (.iload_n 2, 1) := by decide +kernel
theorem dX11_note_59 : decode cX11_note 59 = .ok (.iload_n 3, 1) := by decide +kernel
theorem dX11_note_60 : decode cX11_note 60 = .ok (.invokevirtual 279, 3) := by decide +kernel
theorem dX11_note_63 : decode cX11_note 63 = .ok (.ifCond .eq 16, 3) := by decide +kernel
theorem dX11_note_66 : decode cX11_note 66 = .ok (.aload_n 0, 1) := by decide +kernel
theorem dX11_note_67 : decode cX11_note 67 = .ok (.getfield 41, 3) := by decide +kernel
theorem dX11_note_70 : decode cX11_note 70 = .ok (.getfield 182, 3) := by decide +kernel
theorem dX11_note_73 : decode cX11_note 73 = .ok (.getfield 186, 3) := by decide +kernel
theorem dX11_note_76 : decode cX11_note 76 = .ok (.goto 5, 3) := by decide +kernel
theorem dX11_note_79 : decode cX11_note 79 = .ok (.bipush (-2), 2) := by decide +kernel
theorem dX11_note_81 : decode cX11_note 81 = .ok (.ireturn, 1) := by decide +kernel
theorem dX11_ruled_0 : decode cX11_ruled 0 = .ok (.aload_n 0, 1) := by decide +kernel
theorem dX11_ruled_1 : decode cX11_ruled 1 = .ok (.getfield 41, 3) := by decide +kernel
theorem dX11_ruled_4 : decode cX11_ruled 4 = .ok (.getfield 78, 3) := by decide +kernel
theorem dX11_ruled_7 : decode cX11_ruled 7 = .ok (.invokevirtual 201, 3) := by decide +kernel
theorem dX11_ruled_10 : decode cX11_ruled 10 = .ok (.ifCond .eq 12, 3) := by decide +kernel
theorem dX11_ruled_13 : decode cX11_ruled 13 = .ok (.iload_n 1, 1) := by decide +kernel
theorem dX11_ruled_14 : decode cX11_ruled 14 = .ok (.iconst 0, 1) := by decide +kernel
theorem dX11_ruled_15 : decode cX11_ruled 15 = .ok (.iconst 1, 1) := by decide +kernel
theorem dX11_ruled_16 : decode cX11_ruled 16 = .ok (.invokestatic 61, 3) := by decide +kernel
theorem dX11_ruled_19 : decode cX11_ruled 19 = .ok (.ifCond .ne 6, 3) := by decide +kernel
theorem dX11_ruled_22 : decode cX11_ruled 22 = .ok (.bipush (-3), 2) := by decide +kernel
theorem dX11_ruled_24 : decode cX11_ruled 24 = .ok (.ireturn, 1) := by decide +kernel
theorem dX11_ruled_25 : decode cX11_ruled 25 = .ok (.aload_n 0, 1) := by decide +kernel
theorem dX11_ruled_26 : decode cX11_ruled 26 = .ok (.getfield 33, 3) := by decide +kernel
theorem dX11_ruled_29 : decode cX11_ruled 29 = .ok (.invokevirtual 281, 3) := by decide +kernel
theorem dX11_ruled_32 : decode cX11_ruled 32 = .ok (.istore_n 2, 1) := by decide +kernel
theorem dX11_ruled_33 : decode cX11_ruled 33 = .ok (.iload_n 1, 1) := by decide +kernel
theorem dX11_ruled_34 : decode cX11_ruled 34 = .ok (.ifCond .ne 8, 3) := by decide +kernel
theorem dX11_ruled_37 : decode cX11_ruled 37 = .ok (.iload_n 2, 1) := by decide +kernel
theorem dX11_ruled_38 : decode cX11_ruled 38 = .ok (.invokestatic 227, 3) := by decide +kernel
theorem dX11_ruled_41 : decode cX11_ruled 41 = .ok (.ireturn, 1) := by decide +kernel
theorem dX11_ruled_42 : decode cX11_ruled 42 = .ok (.iconst (-1), 1) := by decide +kernel
theorem dX11_ruled_43 : decode cX11_ruled 43 = .ok (.istore_n 3, 1) := by decide +kernel
theorem dX11_ruled_44 : decode cX11_ruled 44 = .ok (.iload_n 3, 1) := by decide +kernel
theorem dX11_ruled_45 : decode cX11_ruled 45 = .ok (.bipush 6, 2) := by decide +kernel
theorem dX11_ruled_47 : decode cX11_ruled 47 = .ok (.if_icmp .ge 21, 3) := by decide +kernel
theorem dX11_ruled_50 : decode cX11_ruled 50 = .ok (.iload_n 2, 1) := by decide +kernel
theorem dX11_ruled_51 : decode cX11_ruled 51 = .ok (.iload_n 3, 1) := by decide +kernel
theorem dX11_ruled_52 : decode cX11_ruled 52 = .ok (.iconst 1, 1) := by decide +kernel
theorem dX11_ruled_53 : decode cX11_ruled 53 = .ok (.iadd, 1) := by decide +kernel
theorem dX11_ruled_54 : decode cX11_ruled 54 = .ok (.ishr, 1) := by decide +kernel
theorem dX11_ruled_55 : decode cX11_ruled 55 = .ok (.iconst 1, 1) := by decide +kernel
theorem dX11_ruled_56 : decode cX11_ruled 56 = .ok (.iand, 1) := by decide +kernel
theorem dX11_ruled_57 : decode cX11_ruled 57 = .ok (.ifCond .eq 5, 3) := by decide +kernel
theorem dX11_ruled_60 : decode cX11_ruled 60 = .ok (.iload_n 3, 1) := by decide +kernel
theorem dX11_ruled_61 : decode cX11_ruled 61 = .ok (.ireturn, 1) := by decide +kernel
theorem dX11_ruled_62 : decode cX11_ruled 62 = .ok (.iinc 3 1, 3) := by decide +kernel
theorem dX11_ruled_65 : decode cX11_ruled 65 = .ok (.goto (-21), 3) := by decide +kernel
theorem dX11_ruled_68 : decode cX11_ruled 68 = .ok (.bipush (-2), 2) := by decide +kernel
theorem dX11_ruled_70 : decode cX11_ruled 70 = .ok (.ireturn, 1) := by decide +kernel
theorem dX11_look_0 : decode cX11_look 0 = .ok (.aload_n 0, 1) := by decide +kernel
theorem dX11_look_1 : decode cX11_look 1 = .ok (.getfield 41, 3) := by decide +kernel
theorem dX11_look_4 : decode cX11_look 4 = .ok (.getfield 78, 3) := by decide +kernel
theorem dX11_look_7 : decode cX11_look 7 = .ok (.invokevirtual 201, 3) := by decide +kernel
theorem dX11_look_10 : decode cX11_look 10 = .ok (.ifCond .eq 22, 3) := by decide +kernel
theorem dX11_look_13 : decode cX11_look 13 = .ok (.iload_n 1, 1) := by decide +kernel
theorem dX11_look_14 : decode cX11_look 14 = .ok (.iconst 0, 1) := by decide +kernel
theorem dX11_look_15 : decode cX11_look 15 = .ok (.bipush 60, 2) := by decide +kernel
theorem dX11_look_17 : decode cX11_look 17 = .ok (.invokestatic 61, 3) := by decide +kernel
theorem dX11_look_20 : decode cX11_look 20 = .ok (.ifCond .eq 12, 3) := by decide +kernel
theorem dX11_look_23 : decode cX11_look 23 = .ok (.iload_n 2, 1) := by decide +kernel
theorem dX11_look_24 : decode cX11_look 24 = .ok (.iconst 0, 1) := by decide +kernel
theorem dX11_look_25 : decode cX11_look 25 = .ok (.iconst 1, 1) := by decide +kernel
theorem dX11_look_26 : decode cX11_look 26 = .ok (.invokestatic 61, 3) := by decide +kernel
theorem dX11_look_29 : decode cX11_look 29 = .ok (.ifCond .ne 5, 3) := by decide +kernel
theorem dX11_look_32 : decode cX11_look 32 = .ok (.iconst (-1), 1) := by decide +kernel
theorem dX11_look_33 : decode cX11_look 33 = .ok (.ireturn, 1) := by decide +kernel
theorem dX11_look_34 : decode cX11_look 34 = .ok (.aload_n 0, 1) := by decide +kernel
theorem dX11_look_35 : decode cX11_look 35 = .ok (.getfield 33, 3) := by decide +kernel
theorem dX11_look_38 : decode cX11_look 38 = .ok (.invokevirtual 281, 3) := by decide +kernel
theorem dX11_look_41 : decode cX11_look 41 = .ok (.istore_n 3, 1) := by decide +kernel
theorem dX11_look_42 : decode cX11_look 42 = .ok (.iload_n 3, 1) := by decide +kernel
theorem dX11_look_43 : decode cX11_look 43 = .ok (.ifCond .ne 8, 3) := by decide +kernel
theorem dX11_look_46 : decode cX11_look 46 = .ok (.bipush (-2), 2) := by decide +kernel
theorem dX11_look_48 : decode cX11_look 48 = .ok (.goto 13, 3) := by decide +kernel
theorem dX11_look_51 : decode cX11_look 51 = .ok (.aload_n 0, 1) := by decide +kernel
theorem dX11_look_52 : decode cX11_look 52 = .ok (.getfield 33, 3) := by decide +kernel
theorem dX11_look_55 : decode cX11_look 55 = .ok (.iload_n 3, 1) := by decide +kernel
theorem dX11_look_56 : decode cX11_look 56 = .ok (.iload_n 1, 1) := by decide +kernel
theorem dX11_look_57 : decode cX11_look 57 = .ok (.iload_n 2, 1) := by decide +kernel
theorem dX11_look_58 : decode cX11_look 58 = .ok (.invokevirtual 284, 3) := by decide +kernel
theorem dX11_look_61 : decode cX11_look 61 = .ok (.ireturn, 1) := by decide +kernel
theorem dX11_seed_0 : decode cX11_seed 0 = .ok (.iload_n 1, 1) := by decide +kernel
theorem dX11_seed_1 : decode cX11_seed 1 = .ok (.ifCond .ge 5, 3) := by decide +kernel
theorem dX11_seed_4 : decode cX11_seed 4 = .ok (.iconst (-1), 1) := by decide +kernel
theorem dX11_seed_5 : decode cX11_seed 5 = .ok (.ireturn, 1) := by decide +kernel
theorem dX11_seed_6 : decode cX11_seed 6 = .ok (.aload_n 0, 1) := by decide +kernel
theorem dX11_seed_7 : decode cX11_seed 7 = .ok (.getfield 41, 3) := by decide +kernel
theorem dX11_seed_10 : decode cX11_seed 10 = .ok (.getfield 198, 3) := by decide +kernel
theorem dX11_seed_13 : decode cX11_seed 13 = .ok (.istore_n 2, 1) := by decide +kernel
theorem dX11_seed_14 : decode cX11_seed 14 = .ok (.aload_n 0, 1) := by decide +kernel
theorem dX11_seed_15 : decode cX11_seed 15 = .ok (.getfield 41, 3) := by decide +kernel
theorem dX11_seed_18 : decode cX11_seed 18 = .ok (.iload_n 1, 1) := by decide +kernel
theorem dX11_seed_19 : decode cX11_seed 19 = .ok (.putfield 198, 3) := by decide +kernel
theorem dX11_seed_22 : decode cX11_seed 22 = .ok (.iload_n 2, 1) := by decide +kernel
theorem dX11_seed_23 : decode cX11_seed 23 = .ok (.ireturn, 1) := by decide +kernel
theorem dX11_notions_0 : decode cX11_notions 0 = .ok (.aload_n 0, 1) := by decide +kernel
theorem dX11_notions_1 : decode cX11_notions 1 = .ok (.getfield 41, 3) := by decide +kernel
theorem dX11_notions_4 : decode cX11_notions 4 = .ok (.getfield 78, 3) := by decide +kernel
theorem dX11_notions_7 : decode cX11_notions 7 = .ok (.invokevirtual 201, 3) := by decide +kernel
theorem dX11_notions_10 : decode cX11_notions 10 = .ok (.ifCond .eq 23, 3) := by decide +kernel
theorem dX11_notions_13 : decode cX11_notions 13 = .ok (.iload_n 1, 1) := by decide +kernel
theorem dX11_notions_14 : decode cX11_notions 14 = .ok (.iconst 1, 1) := by decide +kernel
theorem dX11_notions_15 : decode cX11_notions 15 = .ok (.bipush 10, 2) := by decide +kernel
theorem dX11_notions_17 : decode cX11_notions 17 = .ok (.invokestatic 61, 3) := by decide +kernel
theorem dX11_notions_20 : decode cX11_notions 20 = .ok (.ifCond .eq 13, 3) := by decide +kernel
theorem dX11_notions_23 : decode cX11_notions 23 = .ok (.iload_n 2, 1) := by decide +kernel
theorem dX11_notions_24 : decode cX11_notions 24 = .ok (.iconst 1, 1) := by decide +kernel
theorem dX11_notions_25 : decode cX11_notions 25 = .ok (.bipush 60, 2) := by decide +kernel
theorem dX11_notions_27 : decode cX11_notions 27 = .ok (.invokestatic 61, 3) := by decide +kernel
theorem dX11_notions_30 : decode cX11_notions 30 = .ok (.ifCond .ne 5, 3) := by decide +kernel
theorem dX11_notions_33 : decode cX11_notions 33 = .ok (.iconst (-1), 1) := by decide +kernel
theorem dX11_notions_34 : decode cX11_notions 34 = .ok (.ireturn, 1) := by decide +kernel
theorem dX11_notions_35 : decode cX11_notions 35 = .ok (.iload_n 3, 1) := by decide +kernel
theorem dX11_notions_36 : decode cX11_notions 36 = .ok (.iconst 0, 1) := by decide +kernel
theorem dX11_notions_37 : decode cX11_notions 37 = .ok (.bipush 100, 2) := by decide +kernel
theorem dX11_notions_39 : decode cX11_notions 39 = .ok (.invokestatic 61, 3) := by decide +kernel
theorem dX11_notions_42 : decode cX11_notions 42 = .ok (.ifCond .eq 13, 3) := by decide +kernel
theorem dX11_notions_45 : decode cX11_notions 45 = .ok (.iload 4, 2) := by decide +kernel
theorem dX11_notions_47 : decode cX11_notions 47 = .ok (.iconst 0, 1) := by decide +kernel
theorem dX11_notions_48 : decode cX11_notions 48 = .ok (.iconst 1, 1) := by decide +kernel
theorem dX11_notions_49 : decode cX11_notions 49 = .ok (.invokestatic 61, 3) := by decide +kernel
theorem dX11_notions_52 : decode cX11_notions 52 = .ok (.ifCond .ne 5, 3) := by decide +kernel
theorem dX11_notions_55 : decode cX11_notions 55 = .ok (.iconst (-1), 1) := by decide +kernel
theorem dX11_notions_56 : decode cX11_notions 56 = .ok (.ireturn, 1) := by decide +kernel
theorem dX11_notions_57 : decode cX11_notions 57 = .ok (.aload_n 0, 1) := by decide +kernel
theorem dX11_notions_58 : decode cX11_notions 58 = .ok (.getfield 33, 3) := by decide +kernel
theorem dX11_notions_61 : decode cX11_notions 61 = .ok (.iload_n 1, 1) := by decide +kernel
theorem dX11_notions_62 : decode cX11_notions 62 = .ok (.iload_n 2, 1) := by decide +kernel
theorem dX11_notions_63 : decode cX11_notions 63 = .ok (.iload_n 3, 1) := by decide +kernel
theorem dX11_notions_64 : decode cX11_notions 64 = .ok (.iload 4, 2) := by decide +kernel
theorem dX11_notions_66 : decode cX11_notions 66 = .ok (.invokevirtual 287, 3) := by decide +kernel
theorem dX11_notions_69 : decode cX11_notions 69 = .ok (.ireturn, 1) := by decide +kernel
theorem dX11_image_0 : decode cX11_image 0 = .ok (.iload_n 1, 1) := by decide +kernel
theorem dX11_image_1 : decode cX11_image 1 = .ok (.iconst 0, 1) := by decide +kernel
theorem dX11_image_2 : decode cX11_image 2 = .ok (.iconst 3, 1) := by decide +kernel
theorem dX11_image_3 : decode cX11_image 3 = .ok (.invokestatic 61, 3) := by decide +kernel
theorem dX11_image_6 : decode cX11_image 6 = .ok (.ifCond .ne 5, 3) := by decide +kernel
theorem dX11_image_9 : decode cX11_image 9 = .ok (.iconst (-1), 1) := by decide +kernel
theorem dX11_image_10 : decode cX11_image 10 = .ok (.ireturn, 1) := by decide +kernel
theorem dX11_image_11 : decode cX11_image 11 = .ok (.aload_n 0, 1) := by decide +kernel
theorem dX11_image_12 : decode cX11_image 12 = .ok (.getfield 44, 3) := by decide +kernel
theorem dX11_image_15 : decode cX11_image 15 = .ok (.iload_n 1, 1) := by decide +kernel
theorem dX11_image_16 : decode cX11_image 16 = .ok (.aaload, 1) := by decide +kernel
theorem dX11_image_17 : decode cX11_image 17 = .ok (.aload_n 0, 1) := by decide +kernel
theorem dX11_image_18 : decode cX11_image 18 = .ok (.getfield 41, 3) := by decide +kernel
theorem dX11_image_21 : decode cX11_image 21 = .ok (.invokevirtual 290, 3) := by decide +kernel
theorem dX11_image_24 : decode cX11_image 24 = .ok (.aload_n 0, 1) := by decide +kernel
theorem dX11_image_25 : decode cX11_image 25 = .ok (.getfield 48, 3) := by decide +kernel
theorem dX11_image_28 : decode cX11_image 28 = .ok (.iload_n 1, 1) := by decide +kernel
theorem dX11_image_29 : decode cX11_image 29 = .ok (.iconst 1, 1) := by decide +kernel
theorem dX11_image_30 : decode cX11_image 30 = .ok (.bastore, 1) := by decide +kernel
theorem dX11_image_31 : decode cX11_image 31 = .ok (.aload_n 0, 1) := by decide +kernel
theorem dX11_image_32 : decode cX11_image 32 = .ok (.getfield 41, 3) := by decide +kernel
theorem dX11_image_35 : decode cX11_image 35 = .ok (.getfield 101, 3) := by decide +kernel
theorem dX11_image_38 : decode cX11_image 38 = .ok (.getfield 169, 3) := by decide +kernel
theorem dX11_image_41 : decode cX11_image 41 = .ok (.ireturn, 1) := by decide +kernel
theorem dX11_back_0 : decode cX11_back 0 = .ok (.iload_n 1, 1) := by decide +kernel
theorem dX11_back_1 : decode cX11_back 1 = .ok (.iconst 0, 1) := by decide +kernel
theorem dX11_back_2 : decode cX11_back 2 = .ok (.iconst 3, 1) := by decide +kernel
theorem dX11_back_3 : decode cX11_back 3 = .ok (.invokestatic 61, 3) := by decide +kernel
theorem dX11_back_6 : decode cX11_back 6 = .ok (.ifCond .eq 12, 3) := by decide +kernel
theorem dX11_back_9 : decode cX11_back 9 = .ok (.aload_n 0, 1) := by decide +kernel
theorem dX11_back_10 : decode cX11_back 10 = .ok (.getfield 48, 3) := by decide +kernel
theorem dX11_back_13 : decode cX11_back 13 = .ok (.iload_n 1, 1) := by decide +kernel
theorem dX11_back_14 : decode cX11_back 14 = .ok (.baload, 1) := by decide +kernel
theorem dX11_back_15 : decode cX11_back 15 = .ok (.ifCond .ne 5, 3) := by decide +kernel
theorem dX11_back_18 : decode cX11_back 18 = .ok (.iconst (-1), 1) := by decide +kernel
theorem dX11_back_19 : decode cX11_back 19 = .ok (.ireturn, 1) := by decide +kernel
theorem dX11_back_20 : decode cX11_back 20 = .ok (.aload_n 0, 1) := by decide +kernel
theorem dX11_back_21 : decode cX11_back 21 = .ok (.getfield 41, 3) := by decide +kernel
theorem dX11_back_24 : decode cX11_back 24 = .ok (.aload_n 0, 1) := by decide +kernel
theorem dX11_back_25 : decode cX11_back 25 = .ok (.getfield 44, 3) := by decide +kernel
theorem dX11_back_28 : decode cX11_back 28 = .ok (.iload_n 1, 1) := by decide +kernel
theorem dX11_back_29 : decode cX11_back 29 = .ok (.aaload, 1) := by decide +kernel
theorem dX11_back_30 : decode cX11_back 30 = .ok (.invokevirtual 290, 3) := by decide +kernel
theorem dX11_back_33 : decode cX11_back 33 = .ok (.aload_n 0, 1) := by decide +kernel
theorem dX11_back_34 : decode cX11_back 34 = .ok (.getfield 41, 3) := by decide +kernel
theorem dX11_back_37 : decode cX11_back 37 = .ok (.getfield 101, 3) := by decide +kernel
theorem dX11_back_40 : decode cX11_back 40 = .ok (.getfield 169, 3) := by decide +kernel
theorem dX11_back_43 : decode cX11_back 43 = .ok (.ireturn, 1) := by decide +kernel
theorem dX11_within_0 : decode cX11_within 0 = .ok (.iload_n 0, 1) := by decide +kernel
theorem dX11_within_1 : decode cX11_within 1 = .ok (.iload_n 1, 1) := by decide +kernel
theorem dX11_within_2 : decode cX11_within 2 = .ok (.if_icmp .lt 12, 3) := by decide +kernel
theorem dX11_within_5 : decode cX11_within 5 = .ok (.iload_n 0, 1) := by decide +kernel
theorem dX11_within_6 : decode cX11_within 6 = .ok (.iload_n 2, 1) := by decide +kernel
theorem dX11_within_7 : decode cX11_within 7 = .ok (.if_icmp .gt 7, 3) := by decide +kernel
theorem dX11_within_10 : decode cX11_within 10 = .ok (.iconst 1, 1) := by decide +kernel
theorem dX11_within_11 : decode cX11_within 11 = .ok (.goto 4, 3) := by decide +kernel
theorem dX11_within_14 : decode cX11_within 14 = .ok (.iconst 0, 1) := by decide +kernel
theorem dX11_within_15 : decode cX11_within 15 = .ok (.ireturn, 1) := by decide +kernel
theorem dX11_isPerson_0 : decode cX11_isPerson 0 = .ok (.iload_n 1, 1) := by decide +kernel
theorem dX11_isPerson_1 : decode cX11_isPerson 1 = .ok (.iconst 0, 1) := by decide +kernel
theorem dX11_isPerson_2 : decode cX11_isPerson 2 = .ok (.aload_n 0, 1) := by decide +kernel
theorem dX11_isPerson_3 : decode cX11_isPerson 3 = .ok (.getfield 41, 3) := by decide +kernel
theorem dX11_isPerson_6 : decode cX11_isPerson 6 = .ok (.getfield 78, 3) := by decide +kernel
theorem dX11_isPerson_9 : decode cX11_isPerson 9 = .ok (.getfield 81, 3) := by decide +kernel
theorem dX11_isPerson_12 : decode cX11_isPerson 12 = .ok (.iconst 1, 1) := by decide +kernel
theorem dX11_isPerson_13 : decode cX11_isPerson 13 = .ok (.isub, 1) := by decide +kernel
theorem dX11_isPerson_14 : decode cX11_isPerson 14 = .ok (.invokestatic 61, 3) := by decide +kernel
theorem dX11_isPerson_17 : decode cX11_isPerson 17 = .ok (.ireturn, 1) := by decide +kernel
theorem dX11_isMill_0 : decode cX11_isMill 0 = .ok (.iload_n 1, 1) := by decide +kernel
theorem dX11_isMill_1 : decode cX11_isMill 1 = .ok (.iconst 0, 1) := by decide +kernel
theorem dX11_isMill_2 : decode cX11_isMill 2 = .ok (.aload_n 0, 1) := by decide +kernel
theorem dX11_isMill_3 : decode cX11_isMill 3 = .ok (.getfield 41, 3) := by decide +kernel
theorem dX11_isMill_6 : decode cX11_isMill 6 = .ok (.getfield 78, 3) := by decide +kernel
theorem dX11_isMill_9 : decode cX11_isMill 9 = .ok (.getfield 163, 3) := by decide +kernel
theorem dX11_isMill_12 : decode cX11_isMill 12 = .ok (.iconst 1, 1) := by decide +kernel
theorem dX11_isMill_13 : decode cX11_isMill 13 = .ok (.isub, 1) := by decide +kernel
theorem dX11_isMill_14 : decode cX11_isMill 14 = .ok (.invokestatic 61, 3) := by decide +kernel
theorem dX11_isMill_17 : decode cX11_isMill 17 = .ok (.ireturn, 1) := by decide +kernel
theorem dX11_isRoof_0 : decode cX11_isRoof 0 = .ok (.iload_n 1, 1) := by decide +kernel
theorem dX11_isRoof_1 : decode cX11_isRoof 1 = .ok (.iconst 0, 1) := by decide +kernel
theorem dX11_isRoof_2 : decode cX11_isRoof 2 = .ok (.aload_n 0, 1) := by decide +kernel
theorem dX11_isRoof_3 : decode cX11_isRoof 3 = .ok (.getfield 41, 3) := by decide +kernel
theorem dX11_isRoof_6 : decode cX11_isRoof 6 = .ok (.getfield 78, 3) := by decide +kernel
theorem dX11_isRoof_9 : decode cX11_isRoof 9 = .ok (.getfield 166, 3) := by decide +kernel
theorem dX11_isRoof_12 : decode cX11_isRoof 12 = .ok (.iconst 1, 1) := by decide +kernel
theorem dX11_isRoof_13 : decode cX11_isRoof 13 = .ok (.isub, 1) := by decide +kernel
theorem dX11_isRoof_14 : decode cX11_isRoof 14 = .ok (.invokestatic 61, 3) := by decide +kernel
theorem dX11_isRoof_17 : decode cX11_isRoof 17 = .ok (.ireturn, 1) := by decide +kernel
theorem dX11_isCell_0 : decode cX11_isCell 0 = .ok (.iload_n 1, 1) := by decide +kernel
theorem dX11_isCell_1 : decode cX11_isCell 1 = .ok (.iconst 0, 1) := by decide +kernel
theorem dX11_isCell_2 : decode cX11_isCell 2 = .ok (.aload_n 0, 1) := by decide +kernel
theorem dX11_isCell_3 : decode cX11_isCell 3 = .ok (.getfield 41, 3) := by decide +kernel
theorem dX11_isCell_6 : decode cX11_isCell 6 = .ok (.getfield 78, 3) := by decide +kernel
theorem dX11_isCell_9 : decode cX11_isCell 9 = .ok (.invokevirtual 294, 3) := by decide +kernel
theorem dX11_isCell_12 : decode cX11_isCell 12 = .ok (.iconst 1, 1) := by decide +kernel
theorem dX11_isCell_13 : decode cX11_isCell 13 = .ok (.isub, 1) := by decide +kernel
theorem dX11_isCell_14 : decode cX11_isCell 14 = .ok (.invokestatic 61, 3) := by decide +kernel
theorem dX11_isCell_17 : decode cX11_isCell 17 = .ok (.ireturn, 1) := by decide +kernel
theorem dX11_isAhead_0 : decode cX11_isAhead 0 = .ok (.iload_n 2, 1) := by decide +kernel
theorem dX11_isAhead_1 : decode cX11_isAhead 1 = .ok (.tableswitch 45 0 2 #[27, 33, 39], 27) := by decide +kernel
theorem dX11_isAhead_28 : decode cX11_isAhead 28 = .ok (.aload_n 0, 1) := by decide +kernel
theorem dX11_isAhead_29 : decode cX11_isAhead 29 = .ok (.iload_n 1, 1) := by decide +kernel
theorem dX11_isAhead_30 : decode cX11_isAhead 30 = .ok (.invokevirtual 97, 3) := by decide +kernel
theorem dX11_isAhead_33 : decode cX11_isAhead 33 = .ok (.ireturn, 1) := by decide +kernel
theorem dX11_isAhead_34 : decode cX11_isAhead 34 = .ok (.aload_n 0, 1) := by decide +kernel
theorem dX11_isAhead_35 : decode cX11_isAhead 35 = .ok (.iload_n 1, 1) := by decide +kernel
theorem dX11_isAhead_36 : decode cX11_isAhead 36 = .ok (.invokevirtual 126, 3) := by decide +kernel
theorem dX11_isAhead_39 : decode cX11_isAhead 39 = .ok (.ireturn, 1) := by decide +kernel
theorem dX11_isAhead_40 : decode cX11_isAhead 40 = .ok (.aload_n 0, 1) := by decide +kernel
theorem dX11_isAhead_41 : decode cX11_isAhead 41 = .ok (.iload_n 1, 1) := by decide +kernel
theorem dX11_isAhead_42 : decode cX11_isAhead 42 = .ok (.invokevirtual 150, 3) := by decide +kernel
theorem dX11_isAhead_45 : decode cX11_isAhead 45 = .ok (.ireturn, 1) := by decide +kernel
theorem dX11_isAhead_46 : decode cX11_isAhead 46 = .ok (.iload_n 2, 1) := by decide +kernel
theorem dX11_isAhead_47 : decode cX11_isAhead 47 = .ok (.iconst 3, 1) := by decide +kernel
theorem dX11_isAhead_48 : decode cX11_isAhead 48 = .ok (.if_icmp .ne 7, 3) := by decide +kernel
theorem dX11_isAhead_51 : decode cX11_isAhead 51 = .ok (.iconst 1, 1) := by decide +kernel
theorem dX11_isAhead_52 : decode cX11_isAhead 52 = .ok (.goto 4, 3) := by decide +kernel
theorem dX11_isAhead_55 : decode cX11_isAhead 55 = .ok (.iconst 0, 1) := by decide +kernel
theorem dX11_isAhead_56 : decode cX11_isAhead 56 = .ok (.ireturn, 1) := by decide +kernel
theorem dX11_isWayAsked_0 : decode cX11_isWayAsked 0 = .ok (.iload_n 0, 1) := by decide +kernel
theorem dX11_isWayAsked_1 : decode cX11_isWayAsked 1 = .ok (.iconst 1, 1) := by decide +kernel
theorem dX11_isWayAsked_2 : decode cX11_isWayAsked 2 = .ok (.bipush 60, 2) := by decide +kernel
theorem dX11_isWayAsked_4 : decode cX11_isWayAsked 4 = .ok (.invokestatic 61, 3) := by decide +kernel
theorem dX11_isWayAsked_7 : decode cX11_isWayAsked 7 = .ok (.ifCond .eq 16, 3) := by decide +kernel
theorem dX11_isWayAsked_10 : decode cX11_isWayAsked 10 = .ok (.iload_n 1, 1) := by decide +kernel
theorem dX11_isWayAsked_11 : decode cX11_isWayAsked 11 = .ok (.iconst 0, 1) := by decide +kernel
theorem dX11_isWayAsked_12 : decode cX11_isWayAsked 12 = .ok (.iconst 2, 1) := by decide +kernel
theorem dX11_isWayAsked_13 : decode cX11_isWayAsked 13 = .ok (.invokestatic 61, 3) := by decide +kernel
theorem dX11_isWayAsked_16 : decode cX11_isWayAsked 16 = .ok (.ifCond .eq 7, 3) := by decide +kernel
theorem dX11_isWayAsked_19 : decode cX11_isWayAsked 19 = .ok (.iconst 1, 1) := by decide +kernel
theorem dX11_isWayAsked_20 : decode cX11_isWayAsked 20 = .ok (.goto 4, 3) := by decide +kernel
theorem dX11_isWayAsked_23 : decode cX11_isWayAsked 23 = .ok (.iconst 0, 1) := by decide +kernel
theorem dX11_isWayAsked_24 : decode cX11_isWayAsked 24 = .ok (.ireturn, 1) := by decide +kernel
theorem dX12_init_0 : decode cX12_init 0 = .ok (.aload_n 0, 1) := by decide +kernel
theorem dX12_init_1 : decode cX12_init 1 = .ok (.invokespecial 3, 3) := by decide +kernel
theorem dX12_init_4 : decode cX12_init 4 = .ok (.aload_n 0, 1) := by decide +kernel
theorem dX12_init_5 : decode cX12_init 5 = .ok (.bipush 10, 2) := by decide +kernel
theorem dX12_init_7 : decode cX12_init 7 = .ok (.newarray .int, 2) := by decide +kernel
theorem dX12_init_9 : decode cX12_init 9 = .ok (.dup, 1) := by decide +kernel
theorem dX12_init_10 : decode cX12_init 10 = .ok (.iconst 0, 1) := by decide +kernel
theorem dX12_init_11 : decode cX12_init 11 = .ok (.iconst 0, 1) := by decide +kernel
theorem dX12_init_12 : decode cX12_init 12 = .ok (.iastore, 1) := by decide +kernel
theorem dX12_init_13 : decode cX12_init 13 = .ok (.dup, 1) := by decide +kernel
theorem dX12_init_14 : decode cX12_init 14 = .ok (.iconst 1, 1) := by decide +kernel
theorem dX12_init_15 : decode cX12_init 15 = .ok (.iconst 0, 1) := by decide +kernel
theorem dX12_init_16 : decode cX12_init 16 = .ok (.iastore, 1) := by decide +kernel
theorem dX12_init_17 : decode cX12_init 17 = .ok (.dup, 1) := by decide +kernel
theorem dX12_init_18 : decode cX12_init 18 = .ok (.iconst 2, 1) := by decide +kernel
theorem dX12_init_19 : decode cX12_init 19 = .ok (.iconst 0, 1) := by decide +kernel
theorem dX12_init_20 : decode cX12_init 20 = .ok (.iastore, 1) := by decide +kernel
theorem dX12_init_21 : decode cX12_init 21 = .ok (.dup, 1) := by decide +kernel
theorem dX12_init_22 : decode cX12_init 22 = .ok (.iconst 3, 1) := by decide +kernel
theorem dX12_init_23 : decode cX12_init 23 = .ok (.iconst 0, 1) := by decide +kernel
theorem dX12_init_24 : decode cX12_init 24 = .ok (.iastore, 1) := by decide +kernel
theorem dX12_init_25 : decode cX12_init 25 = .ok (.dup, 1) := by decide +kernel
theorem dX12_init_26 : decode cX12_init 26 = .ok (.iconst 4, 1) := by decide +kernel
theorem dX12_init_27 : decode cX12_init 27 = .ok (.iconst 0, 1) := by decide +kernel
theorem dX12_init_28 : decode cX12_init 28 = .ok (.iastore, 1) := by decide +kernel
theorem dX12_init_29 : decode cX12_init 29 = .ok (.dup, 1) := by decide +kernel
theorem dX12_init_30 : decode cX12_init 30 = .ok (.iconst 5, 1) := by decide +kernel
theorem dX12_init_31 : decode cX12_init 31 = .ok (.iconst 0, 1) := by decide +kernel
theorem dX12_init_32 : decode cX12_init 32 = .ok (.iastore, 1) := by decide +kernel
theorem dX12_init_33 : decode cX12_init 33 = .ok (.dup, 1) := by decide +kernel
theorem dX12_init_34 : decode cX12_init 34 = .ok (.bipush 6, 2) := by decide +kernel
theorem dX12_init_36 : decode cX12_init 36 = .ok (.iconst 0, 1) := by decide +kernel
theorem dX12_init_37 : decode cX12_init 37 = .ok (.iastore, 1) := by decide +kernel
theorem dX12_init_38 : decode cX12_init 38 = .ok (.dup, 1) := by decide +kernel
theorem dX12_init_39 : decode cX12_init 39 = .ok (.bipush 7, 2) := by decide +kernel
theorem dX12_init_41 : decode cX12_init 41 = .ok (.iconst 0, 1) := by decide +kernel
theorem dX12_init_42 : decode cX12_init 42 = .ok (.iastore, 1) := by decide +kernel
theorem dX12_init_43 : decode cX12_init 43 = .ok (.dup, 1) := by decide +kernel
theorem dX12_init_44 : decode cX12_init 44 = .ok (.bipush 8, 2) := by decide +kernel
theorem dX12_init_46 : decode cX12_init 46 = .ok (.iconst 0, 1) := by decide +kernel
theorem dX12_init_47 : decode cX12_init 47 = .ok (.iastore, 1) := by decide +kernel
theorem dX12_init_48 : decode cX12_init 48 = .ok (.dup, 1) := by decide +kernel
theorem dX12_init_49 : decode cX12_init 49 = .ok (.bipush 9, 2) := by decide +kernel
theorem dX12_init_51 : decode cX12_init 51 = .ok (.iconst (-1), 1) := by decide +kernel
theorem dX12_init_52 : decode cX12_init 52 = .ok (.iastore, 1) := by decide +kernel
theorem dX12_init_53 : decode cX12_init 53 = .ok (.putfield 9, 3) := by decide +kernel
theorem dX12_init_56 : decode cX12_init 56 = .ok (.aload_n 0, 1) := by decide +kernel
theorem dX12_init_57 : decode cX12_init 57 = .ok (.bipush 6, 2) := by decide +kernel
theorem dX12_init_59 : decode cX12_init 59 = .ok (.newarray .int, 2) := by decide +kernel
theorem dX12_init_61 : decode cX12_init 61 = .ok (.putfield 13, 3) := by decide +kernel
theorem dX12_init_64 : decode cX12_init 64 = .ok (.aload_n 0, 1) := by decide +kernel
theorem dX12_init_65 : decode cX12_init 65 = .ok (.bipush 6, 2) := by decide +kernel
theorem dX12_init_67 : decode cX12_init 67 = .ok (.newarray .int, 2) := by decide +kernel
theorem dX12_init_69 : decode cX12_init 69 = .ok (.putfield 16, 3) := by decide +kernel
theorem dX12_init_72 : decode cX12_init 72 = .ok (.aload_n 0, 1) := by decide +kernel
theorem dX12_init_73 : decode cX12_init 73 = .ok (.bipush 6, 2) := by decide +kernel
theorem dX12_init_75 : decode cX12_init 75 = .ok (.newarray .int, 2) := by decide +kernel
theorem dX12_init_77 : decode cX12_init 77 = .ok (.putfield 19, 3) := by decide +kernel
theorem dX12_init_80 : decode cX12_init 80 = .ok (.aload_n 0, 1) := by decide +kernel
theorem dX12_init_81 : decode cX12_init 81 = .ok (.bipush 6, 2) := by decide +kernel
theorem dX12_init_83 : decode cX12_init 83 = .ok (.newarray .int, 2) := by decide +kernel
theorem dX12_init_85 : decode cX12_init 85 = .ok (.putfield 22, 3) := by decide +kernel
theorem dX12_init_88 : decode cX12_init 88 = .ok (.aload_n 0, 1) := by decide +kernel
theorem dX12_init_89 : decode cX12_init 89 = .ok (.bipush 6, 2) := by decide +kernel
theorem dX12_init_91 : decode cX12_init 91 = .ok (.newarray .int, 2) := by decide +kernel
theorem dX12_init_93 : decode cX12_init 93 = .ok (.putfield 25, 3) := by decide +kernel
theorem dX12_init_96 : decode cX12_init 96 = .ok (.aload_n 0, 1) := by decide +kernel
theorem dX12_init_97 : decode cX12_init 97 = .ok (.iconst 4, 1) := by decide +kernel
theorem dX12_init_98 : decode cX12_init 98 = .ok (.newarray .int, 2) := by decide +kernel
theorem dX12_init_100 : decode cX12_init 100 = .ok (.putfield 28, 3) := by decide +kernel
theorem dX12_init_103 : decode cX12_init 103 = .ok (.aload_n 0, 1) := by decide +kernel
theorem dX12_init_104 : decode cX12_init 104 = .ok (.bipush 36, 2) := by decide +kernel
theorem dX12_init_106 : decode cX12_init 106 = .ok (.newarray .int, 2) := by decide +kernel
theorem dX12_init_108 : decode cX12_init 108 = .ok (.putfield 31, 3) := by decide +kernel
theorem dX12_init_111 : decode cX12_init 111 = .ok (.aload_n 0, 1) := by decide +kernel
theorem dX12_init_112 : decode cX12_init 112 = .ok (.bipush 6, 2) := by decide +kernel
theorem dX12_init_114 : decode cX12_init 114 = .ok (.newarray .int, 2) := by decide +kernel
theorem dX12_init_116 : decode cX12_init 116 = .ok (.putfield 34, 3) := by decide +kernel
theorem dX12_init_119 : decode cX12_init 119 = .ok (.aload_n 0, 1) := by decide +kernel
theorem dX12_init_120 : decode cX12_init 120 = .ok (.iconst 4, 1) := by decide +kernel
theorem dX12_init_121 : decode cX12_init 121 = .ok (.newarray .int, 2) := by decide +kernel
theorem dX12_init_123 : decode cX12_init 123 = .ok (.putfield 37, 3) := by decide +kernel
theorem dX12_init_126 : decode cX12_init 126 = .ok (.aload_n 0, 1) := by decide +kernel
theorem dX12_init_127 : decode cX12_init 127 = .ok (.iconst 4, 1) := by decide +kernel
theorem dX12_init_128 : decode cX12_init 128 = .ok (.newarray .int, 2) := by decide +kernel
theorem dX12_init_130 : decode cX12_init 130 = .ok (.putfield 40, 3) := by decide +kernel
theorem dX12_init_133 : decode cX12_init 133 = .ok (.aload_n 0, 1) := by decide +kernel
theorem dX12_init_134 : decode cX12_init 134 = .ok (.iconst 4, 1) := by decide +kernel
theorem dX12_init_135 : decode cX12_init 135 = .ok (.newarray .int, 2) := by decide +kernel
theorem dX12_init_137 : decode cX12_init 137 = .ok (.putfield 43, 3) := by decide +kernel
theorem dX12_init_140 : decode cX12_init 140 = .ok (.aload_n 0, 1) := by decide +kernel
theorem dX12_init_141 : decode cX12_init 141 = .ok (.iconst 4, 1) := by decide +kernel
theorem dX12_init_142 : decode cX12_init 142 = .ok (.newarray .int, 2) := by decide +kernel
theorem dX12_init_144 : decode cX12_init 144 = .ok (.putfield 46, 3) := by decide +kernel
theorem dX12_init_147 : decode cX12_init 147 = .ok (.aload_n 0, 1) := by decide +kernel
theorem dX12_init_148 : decode cX12_init 148 = .ok (.bipush 10, 2) := by decide +kernel
theorem dX12_init_150 : decode cX12_init 150 = .ok (.newarray .int, 2) := by decide +kernel
theorem dX12_init_152 : decode cX12_init 152 = .ok (.putfield 49, 3) := by decide +kernel
theorem dX12_init_155 : decode cX12_init 155 = .ok (.aload_n 0, 1) := by decide +kernel
theorem dX12_init_156 : decode cX12_init 156 = .ok (.bipush 10, 2) := by decide +kernel
theorem dX12_init_158 : decode cX12_init 158 = .ok (.newarray .int, 2) := by decide +kernel
theorem dX12_init_160 : decode cX12_init 160 = .ok (.putfield 52, 3) := by decide +kernel
theorem dX12_init_163 : decode cX12_init 163 = .ok (.aload_n 0, 1) := by decide +kernel
theorem dX12_init_164 : decode cX12_init 164 = .ok (.bipush 10, 2) := by decide +kernel
theorem dX12_init_166 : decode cX12_init 166 = .ok (.newarray .int, 2) := by decide +kernel
theorem dX12_init_168 : decode cX12_init 168 = .ok (.putfield 55, 3) := by decide +kernel
theorem dX12_init_171 : decode cX12_init 171 = .ok (.aload_n 0, 1) := by decide +kernel
theorem dX12_init_172 : decode cX12_init 172 = .ok (.bipush 6, 2) := by decide +kernel
theorem dX12_init_174 : decode cX12_init 174 = .ok (.newarray .int, 2) := by decide +kernel
theorem dX12_init_176 : decode cX12_init 176 = .ok (.putfield 58, 3) := by decide +kernel
theorem dX12_init_179 : decode cX12_init 179 = .ok (.aload_n 0, 1) := by decide +kernel
theorem dX12_init_180 : decode cX12_init 180 = .ok (.bipush 6, 2) := by decide +kernel
theorem dX12_init_182 : decode cX12_init 182 = .ok (.newarray .int, 2) := by decide +kernel
theorem dX12_init_184 : decode cX12_init 184 = .ok (.putfield 61, 3) := by decide +kernel
theorem dX12_init_187 : decode cX12_init 187 = .ok (.aload_n 0, 1) := by decide +kernel
theorem dX12_init_188 : decode cX12_init 188 = .ok (.iconst 5, 1) := by decide +kernel
theorem dX12_init_189 : decode cX12_init 189 = .ok (.newarray .int, 2) := by decide +kernel
theorem dX12_init_191 : decode cX12_init 191 = .ok (.putfield 64, 3) := by decide +kernel
theorem dX12_init_194 : decode cX12_init 194 = .ok (.aload_n 0, 1) := by decide +kernel
theorem dX12_init_195 : decode cX12_init 195 = .ok (.bipush 6, 2) := by decide +kernel
theorem dX12_init_197 : decode cX12_init 197 = .ok (.newarray .int, 2) := by decide +kernel
theorem dX12_init_199 : decode cX12_init 199 = .ok (.putfield 67, 3) := by decide +kernel
theorem dX12_init_202 : decode cX12_init 202 = .ok (.aload_n 0, 1) := by decide +kernel
theorem dX12_init_203 : decode cX12_init 203 = .ok (.bipush 6, 2) := by decide +kernel
theorem dX12_init_205 : decode cX12_init 205 = .ok (.newarray .int, 2) := by decide +kernel
theorem dX12_init_207 : decode cX12_init 207 = .ok (.putfield 70, 3) := by decide +kernel
theorem dX12_init_210 : decode cX12_init 210 = .ok (.aload_n 0, 1) := by decide +kernel
theorem dX12_init_211 : decode cX12_init 211 = .ok (.bipush 6, 2) := by decide +kernel
theorem dX12_init_213 : decode cX12_init 213 = .ok (.newarray .int, 2) := by decide +kernel
theorem dX12_init_215 : decode cX12_init 215 = .ok (.putfield 73, 3) := by decide +kernel
theorem dX12_init_218 : decode cX12_init 218 = .ok (.aload_n 0, 1) := by decide +kernel
theorem dX12_init_219 : decode cX12_init 219 = .ok (.iconst 4, 1) := by decide +kernel
theorem dX12_init_220 : decode cX12_init 220 = .ok (.newarray .int, 2) := by decide +kernel
theorem dX12_init_222 : decode cX12_init 222 = .ok (.putfield 76, 3) := by decide +kernel
theorem dX12_init_225 : decode cX12_init 225 = .ok (.aload_n 0, 1) := by decide +kernel
theorem dX12_init_226 : decode cX12_init 226 = .ok (.iconst 4, 1) := by decide +kernel
theorem dX12_init_227 : decode cX12_init 227 = .ok (.newarray .int, 2) := by decide +kernel
theorem dX12_init_229 : decode cX12_init 229 = .ok (.putfield 79, 3) := by decide +kernel
theorem dX12_init_232 : decode cX12_init 232 = .ok (.aload_n 0, 1) := by decide +kernel
theorem dX12_init_233 : decode cX12_init 233 = .ok (.iconst 4, 1) := by decide +kernel
theorem dX12_init_234 : decode cX12_init 234 = .ok (.newarray .int, 2) := by decide +kernel
theorem dX12_init_236 : decode cX12_init 236 = .ok (.putfield 82, 3) := by decide +kernel
theorem dX12_init_239 : decode cX12_init 239 = .ok (.aload_n 0, 1) := by decide +kernel
theorem dX12_init_240 : decode cX12_init 240 = .ok (.iconst 4, 1) := by decide +kernel
theorem dX12_init_241 : decode cX12_init 241 = .ok (.newarray .int, 2) := by decide +kernel
theorem dX12_init_243 : decode cX12_init 243 = .ok (.putfield 85, 3) := by decide +kernel
theorem dX12_init_246 : decode cX12_init 246 = .ok (.aload_n 0, 1) := by decide +kernel
theorem dX12_init_247 : decode cX12_init 247 = .ok (.bipush 12, 2) := by decide +kernel
theorem dX12_init_249 : decode cX12_init 249 = .ok (.putfield 88, 3) := by decide +kernel
theorem dX12_init_252 : decode cX12_init 252 = .ok (.aload_n 0, 1) := by decide +kernel
theorem dX12_init_253 : decode cX12_init 253 = .ok (.sipush 400, 3) := by decide +kernel
theorem dX12_init_256 : decode cX12_init 256 = .ok (.newarray .byte, 2) := by decide +kernel
theorem dX12_init_258 : decode cX12_init 258 = .ok (.putfield 92, 3) := by decide +kernel
theorem dX12_init_261 : decode cX12_init 261 = .ok (.aload_n 0, 1) := by decide +kernel
theorem dX12_init_262 : decode cX12_init 262 = .ok (.sipush 1800, 3) := by decide +kernel
theorem dX12_init_265 : decode cX12_init 265 = .ok (.newarray .int, 2) := by decide +kernel
theorem dX12_init_267 : decode cX12_init 267 = .ok (.putfield 96, 3) := by decide +kernel
theorem dX12_init_270 : decode cX12_init 270 = .ok (.aload_n 0, 1) := by decide +kernel
theorem dX12_init_271 : decode cX12_init 271 = .ok (.sipush 1800, 3) := by decide +kernel
theorem dX12_init_274 : decode cX12_init 274 = .ok (.newarray .int, 2) := by decide +kernel
theorem dX12_init_276 : decode cX12_init 276 = .ok (.putfield 99, 3) := by decide +kernel
theorem dX12_init_279 : decode cX12_init 279 = .ok (.aload_n 0, 1) := by decide +kernel
theorem dX12_init_280 : decode cX12_init 280 = .ok (.bipush 6, 2) := by decide +kernel
theorem dX12_init_282 : decode cX12_init 282 = .ok (.newarray .int, 2) := by decide +kernel
theorem dX12_init_284 : decode cX12_init 284 = .ok (.putfield 102, 3) := by decide +kernel
theorem dX12_init_287 : decode cX12_init 287 = .ok (.aload_n 0, 1) := by decide +kernel
theorem dX12_init_288 : decode cX12_init 288 = .ok (.bipush 72, 2) := by decide +kernel
theorem dX12_init_290 : decode cX12_init 290 = .ok (.newarray .int, 2) := by decide +kernel
theorem dX12_init_292 : decode cX12_init 292 = .ok (.putfield 105, 3) := by decide +kernel
theorem dX12_init_295 : decode cX12_init 295 = .ok (.aload_n 0, 1) := by decide +kernel
theorem dX12_init_296 : decode cX12_init 296 = .ok (.bipush 72, 2) := by decide +kernel
theorem dX12_init_298 : decode cX12_init 298 = .ok (.newarray .int, 2) := by decide +kernel
theorem dX12_init_300 : decode cX12_init 300 = .ok (.putfield 108, 3) := by decide +kernel
theorem dX12_init_303 : decode cX12_init 303 = .ok (.aload_n 0, 1) := by decide +kernel
theorem dX12_init_304 : decode cX12_init 304 = .ok (.bipush 72, 2) := by decide +kernel
theorem dX12_init_306 : decode cX12_init 306 = .ok (.newarray .int, 2) := by decide +kernel
theorem dX12_init_308 : decode cX12_init 308 = .ok (.putfield 111, 3) := by decide +kernel
theorem dX12_init_311 : decode cX12_init 311 = .ok (.aload_n 0, 1) := by decide +kernel
theorem dX12_init_312 : decode cX12_init 312 = .ok (.sipush 402, 3) := by decide +kernel
theorem dX12_init_315 : decode cX12_init 315 = .ok (.newarray .int, 2) := by decide +kernel
theorem dX12_init_317 : decode cX12_init 317 = .ok (.putfield 114, 3) := by decide +kernel
theorem dX12_init_320 : decode cX12_init 320 = .ok (.aload_n 0, 1) := by decide +kernel
theorem dX12_init_321 : decode cX12_init 321 = .ok (.bipush 12, 2) := by decide +kernel
theorem dX12_init_323 : decode cX12_init 323 = .ok (.newarray .long, 2) := by decide +kernel
theorem dX12_init_325 : decode cX12_init 325 = .ok (.putfield 117, 3) := by decide +kernel
theorem dX12_init_328 : decode cX12_init 328 = .ok (.aload_n 0, 1) := by decide +kernel
theorem dX12_init_329 : decode cX12_init 329 = .ok (.sipush 300, 3) := by decide +kernel
theorem dX12_init_332 : decode cX12_init 332 = .ok (.newarray .long, 2) := by decide +kernel
theorem dX12_init_334 : decode cX12_init 334 = .ok (.putfield 121, 3) := by decide +kernel
theorem dX12_init_337 : decode cX12_init 337 = .ok (.aload_n 0, 1) := by decide +kernel
theorem dX12_init_338 : decode cX12_init 338 = .ok (.iconst (-1), 1) := by decide +kernel
theorem dX12_init_339 : decode cX12_init 339 = .ok (.putfield 124, 3) := by decide +kernel
theorem dX12_init_342 : decode cX12_init 342 = .ok (.aload_n 0, 1) := by decide +kernel
theorem dX12_init_343 : decode cX12_init 343 = .ok (.sipush 1440, 3) := by decide +kernel
theorem dX12_init_346 : decode cX12_init 346 = .ok (.newarray .int, 2) := by decide +kernel
theorem dX12_init_348 : decode cX12_init 348 = .ok (.putfield 127, 3) := by decide +kernel
theorem dX12_init_351 : decode cX12_init 351 = .ok (.aload_n 0, 1) := by decide +kernel
theorem dX12_init_352 : decode cX12_init 352 = .ok (.iconst 1, 1) := by decide +kernel
theorem dX12_init_353 : decode cX12_init 353 = .ok (.newarray .int, 2) := by decide +kernel
theorem dX12_init_355 : decode cX12_init 355 = .ok (.putfield 130, 3) := by decide +kernel
theorem dX12_init_358 : decode cX12_init 358 = .ok (.aload_n 0, 1) := by decide +kernel
theorem dX12_init_359 : decode cX12_init 359 = .ok (.bipush 16, 2) := by decide +kernel
theorem dX12_init_361 : decode cX12_init 361 = .ok (.newarray .int, 2) := by decide +kernel
theorem dX12_init_363 : decode cX12_init 363 = .ok (.putfield 133, 3) := by decide +kernel
theorem dX12_init_366 : decode cX12_init 366 = .ok (.aload_n 0, 1) := by decide +kernel
theorem dX12_init_367 : decode cX12_init 367 = .ok (.bipush 16, 2) := by decide +kernel
theorem dX12_init_369 : decode cX12_init 369 = .ok (.newarray .int, 2) := by decide +kernel
theorem dX12_init_371 : decode cX12_init 371 = .ok (.putfield 136, 3) := by decide +kernel
theorem dX12_init_374 : decode cX12_init 374 = .ok (.aload_n 0, 1) := by decide +kernel
theorem dX12_init_375 : decode cX12_init 375 = .ok (.sipush 2196, 3) := by decide +kernel
theorem dX12_init_378 : decode cX12_init 378 = .ok (.newarray .int, 2) := by decide +kernel
theorem dX12_init_380 : decode cX12_init 380 = .ok (.putfield 139, 3) := by decide +kernel
theorem dX12_init_383 : decode cX12_init 383 = .ok (.aload_n 0, 1) := by decide +kernel
theorem dX12_init_384 : decode cX12_init 384 = .ok (.sipush 252, 3) := by decide +kernel
theorem dX12_init_387 : decode cX12_init 387 = .ok (.newarray .int, 2) := by decide +kernel
theorem dX12_init_389 : decode cX12_init 389 = .ok (.putfield 142, 3) := by decide +kernel
theorem dX12_init_392 : decode cX12_init 392 = .ok (.aload_n 0, 1) := by decide +kernel
theorem dX12_init_393 : decode cX12_init 393 = .ok (.sipush 8500, 3) := by decide +kernel
theorem dX12_init_396 : decode cX12_init 396 = .ok (.newarray .int, 2) := by decide +kernel
theorem dX12_init_398 : decode cX12_init 398 = .ok (.putfield 145, 3) := by decide +kernel
theorem dX12_init_401 : decode cX12_init 401 = .ok (.aload_n 0, 1) := by decide +kernel
theorem dX12_init_402 : decode cX12_init 402 = .ok (.iconst 4, 1) := by decide +kernel
theorem dX12_init_403 : decode cX12_init 403 = .ok (.newarray .boolean, 2) := by decide +kernel
theorem dX12_init_405 : decode cX12_init 405 = .ok (.putfield 148, 3) := by decide +kernel
theorem dX12_init_408 : decode cX12_init 408 = .ok (.return_, 1) := by decide +kernel
theorem dX12_in_0 : decode cX12_in 0 = .ok (.lload_n 0, 1) := by decide +kernel
theorem dX12_in_1 : decode cX12_in 1 = .ok (.lload_n 2, 1) := by decide +kernel
theorem dX12_in_2 : decode cX12_in 2 = .ok (.lcmp, 1) := by decide +kernel
theorem dX12_in_3 : decode cX12_in 3 = .ok (.ifCond .lt 14, 3) := by decide +kernel
theorem dX12_in_6 : decode cX12_in 6 = .ok (.lload_n 0, 1) := by decide +kernel
theorem dX12_in_7 : decode cX12_in 7 = .ok (.lload 4, 2) := by decide +kernel
theorem dX12_in_9 : decode cX12_in 9 = .ok (.lcmp, 1) := by decide +kernel
theorem dX12_in_10 : decode cX12_in 10 = .ok (.ifCond .gt 7, 3) := by decide +kernel
theorem dX12_in_13 : decode cX12_in 13 = .ok (.iconst 1, 1) := by decide +kernel
theorem dX12_in_14 : decode cX12_in 14 = .ok (.goto 4, 3) := by decide +kernel
theorem dX12_in_17 : decode cX12_in 17 = .ok (.iconst 0, 1) := by decide +kernel
theorem dX12_in_18 : decode cX12_in 18 = .ok (.ireturn, 1) := by decide +kernel
theorem dX12_bits_0 : decode cX12_bits 0 = .ok (.iconst 0, 1) := by decide +kernel
theorem dX12_bits_1 : decode cX12_bits 1 = .ok (.istore_n 1, 1) := by decide +kernel
theorem dX12_bits_2 : decode cX12_bits 2 = .ok (.iconst 0, 1) := by decide +kernel
theorem dX12_bits_3 : decode cX12_bits 3 = .ok (.istore_n 2, 1) := by decide +kernel
theorem dX12_bits_4 : decode cX12_bits 4 = .ok (.iload_n 2, 1) := by decide +kernel
theorem dX12_bits_5 : decode cX12_bits 5 = .ok (.bipush 16, 2) := by decide +kernel
theorem dX12_bits_7 : decode cX12_bits 7 = .ok (.if_icmp .ge 17, 3) := by decide +kernel
theorem dX12_bits_10 : decode cX12_bits 10 = .ok (.iload_n 1, 1) := by decide +kernel
theorem dX12_bits_11 : decode cX12_bits 11 = .ok (.iload_n 0, 1) := by decide +kernel
theorem dX12_bits_12 : decode cX12_bits 12 = .ok (.iload_n 2, 1) := by decide +kernel
theorem dX12_bits_13 : decode cX12_bits 13 = .ok (.ishr, 1) := by decide +kernel
theorem dX12_bits_14 : decode cX12_bits 14 = .ok (.iconst 1, 1) := by decide +kernel
theorem dX12_bits_15 : decode cX12_bits 15 = .ok (.iand, 1) := by decide +kernel
theorem dX12_bits_16 : decode cX12_bits 16 = .ok (.iadd, 1) := by decide +kernel
theorem dX12_bits_17 : decode cX12_bits 17 = .ok (.istore_n 1, 1) := by decide +kernel
theorem dX12_bits_18 : decode cX12_bits 18 = .ok (.iinc 2 1, 3) := by decide +kernel
theorem dX12_bits_21 : decode cX12_bits 21 = .ok (.goto (-17), 3) := by decide +kernel
theorem dX12_bits_24 : decode cX12_bits 24 = .ok (.iload_n 1, 1) := by decide +kernel
theorem dX12_bits_25 : decode cX12_bits 25 = .ok (.ireturn, 1) := by decide +kernel
theorem dX12_has_0 : decode cX12_has 0 = .ok (.iload_n 0, 1) := by decide +kernel
theorem dX12_has_1 : decode cX12_has 1 = .ok (.iload_n 1, 1) := by decide +kernel
theorem dX12_has_2 : decode cX12_has 2 = .ok (.ishr, 1) := by decide +kernel
theorem dX12_has_3 : decode cX12_has 3 = .ok (.iconst 1, 1) := by decide +kernel
theorem dX12_has_4 : decode cX12_has 4 = .ok (.iand, 1) := by decide +kernel
theorem dX12_has_5 : decode cX12_has 5 = .ok (.iconst 1, 1) := by decide +kernel
theorem dX12_has_6 : decode cX12_has 6 = .ok (.if_icmp .ne 7, 3) := by decide +kernel
theorem dX12_has_9 : decode cX12_has 9 = .ok (.iconst 1, 1) := by decide +kernel
theorem dX12_has_10 : decode cX12_has 10 = .ok (.goto 4, 3) := by decide +kernel
theorem dX12_has_13 : decode cX12_has 13 = .ok (.iconst 0, 1) := by decide +kernel
theorem dX12_has_14 : decode cX12_has 14 = .ok (.ireturn, 1) := by decide +kernel
theorem dX12_isPlateau_0 : decode cX12_isPlateau 0 = .ok (.aload_n 0, 1) := by decide +kernel
theorem dX12_isPlateau_1 : decode cX12_isPlateau 1 = .ok (.getfield 9, 3) := by decide +kernel
theorem dX12_isPlateau_4 : decode cX12_isPlateau 4 = .ok (.iconst 0, 1) := by decide +kernel
theorem dX12_isPlateau_5 : decode cX12_isPlateau 5 = .ok (.iaload, 1) := by decide +kernel
theorem dX12_isPlateau_6 : decode cX12_isPlateau 6 = .ok (.ifCond .le 7, 3) := by decide +kernel
theorem dX12_isPlateau_9 : decode cX12_isPlateau 9 = .ok (.iconst 1, 1) := by decide +kernel
theorem dX12_isPlateau_10 : decode cX12_isPlateau 10 = .ok (.goto 4, 3) := by decide +kernel
theorem dX12_isPlateau_13 : decode cX12_isPlateau 13 = .ok (.iconst 0, 1) := by decide +kernel
theorem dX12_isPlateau_14 : decode cX12_isPlateau 14 = .ok (.ireturn, 1) := by decide +kernel
theorem dX12_cells_0 : decode cX12_cells 0 = .ok (.aload_n 0, 1) := by decide +kernel
theorem dX12_cells_1 : decode cX12_cells 1 = .ok (.getfield 9, 3) := by decide +kernel
theorem dX12_cells_4 : decode cX12_cells 4 = .ok (.iconst 0, 1) := by decide +kernel
theorem dX12_cells_5 : decode cX12_cells 5 = .ok (.iaload, 1) := by decide +kernel
theorem dX12_cells_6 : decode cX12_cells 6 = .ok (.aload_n 0, 1) := by decide +kernel
theorem dX12_cells_7 : decode cX12_cells 7 = .ok (.getfield 9, 3) := by decide +kernel
theorem dX12_cells_10 : decode cX12_cells 10 = .ok (.iconst 0, 1) := by decide +kernel
theorem dX12_cells_11 : decode cX12_cells 11 = .ok (.iaload, 1) := by decide +kernel
theorem dX12_cells_12 : decode cX12_cells 12 = .ok (.imul, 1) := by decide +kernel
theorem dX12_cells_13 : decode cX12_cells 13 = .ok (.ireturn, 1) := by decide +kernel
theorem dX12_isCell_0 : decode cX12_isCell 0 = .ok (.iload_n 1, 1) := by decide +kernel
theorem dX12_isCell_1 : decode cX12_isCell 1 = .ok (.i2l, 1) := by decide +kernel
theorem dX12_isCell_2 : decode cX12_isCell 2 = .ok (.lconst 0, 1) := by decide +kernel
theorem dX12_isCell_3 : decode cX12_isCell 3 = .ok (.aload_n 0, 1) := by decide +kernel
theorem dX12_isCell_4 : decode cX12_isCell 4 = .ok (.invokevirtual 155, 3) := by decide +kernel
theorem dX12_isCell_7 : decode cX12_isCell 7 = .ok (.iconst 1, 1) := by decide +kernel
theorem dX12_isCell_8 : decode cX12_isCell 8 = .ok (.isub, 1) := by decide +kernel
theorem dX12_isCell_9 : decode cX12_isCell 9 = .ok (.i2l, 1) := by decide +kernel
theorem dX12_isCell_10 : decode cX12_isCell 10 = .ok (.invokestatic 159, 3) := by decide +kernel
theorem dX12_isCell_13 : decode cX12_isCell 13 = .ok (.ireturn, 1) := by decide +kernel
theorem dX12_isPerson_0 : decode cX12_isPerson 0 = .ok (.iload_n 1, 1) := by decide +kernel
theorem dX12_isPerson_1 : decode cX12_isPerson 1 = .ok (.i2l, 1) := by decide +kernel
theorem dX12_isPerson_2 : decode cX12_isPerson 2 = .ok (.lconst 0, 1) := by decide +kernel
theorem dX12_isPerson_3 : decode cX12_isPerson 3 = .ok (.aload_n 0, 1) := by decide +kernel
theorem dX12_isPerson_4 : decode cX12_isPerson 4 = .ok (.getfield 9, 3) := by decide +kernel
theorem dX12_isPerson_7 : decode cX12_isPerson 7 = .ok (.iconst 2, 1) := by decide +kernel
theorem dX12_isPerson_8 : decode cX12_isPerson 8 = .ok (.iaload, 1) := by decide +kernel
theorem dX12_isPerson_9 : decode cX12_isPerson 9 = .ok (.iconst 1, 1) := by decide +kernel
theorem dX12_isPerson_10 : decode cX12_isPerson 10 = .ok (.isub, 1) := by decide +kernel
theorem dX12_isPerson_11 : decode cX12_isPerson 11 = .ok (.i2l, 1) := by decide +kernel
theorem dX12_isPerson_12 : decode cX12_isPerson 12 = .ok (.invokestatic 159, 3) := by decide +kernel
theorem dX12_isPerson_15 : decode cX12_isPerson 15 = .ok (.ireturn, 1) := by decide +kernel
theorem dX12_isMill_0 : decode cX12_isMill 0 = .ok (.iload_n 1, 1) := by decide +kernel
theorem dX12_isMill_1 : decode cX12_isMill 1 = .ok (.i2l, 1) := by decide +kernel
theorem dX12_isMill_2 : decode cX12_isMill 2 = .ok (.lconst 0, 1) := by decide +kernel
theorem dX12_isMill_3 : decode cX12_isMill 3 = .ok (.aload_n 0, 1) := by decide +kernel
theorem dX12_isMill_4 : decode cX12_isMill 4 = .ok (.getfield 9, 3) := by decide +kernel
theorem dX12_isMill_7 : decode cX12_isMill 7 = .ok (.iconst 3, 1) := by decide +kernel
theorem dX12_isMill_8 : decode cX12_isMill 8 = .ok (.iaload, 1) := by decide +kernel
theorem dX12_isMill_9 : decode cX12_isMill 9 = .ok (.iconst 1, 1) := by decide +kernel
theorem dX12_isMill_10 : decode cX12_isMill 10 = .ok (.isub, 1) := by decide +kernel
theorem dX12_isMill_11 : decode cX12_isMill 11 = .ok (.i2l, 1) := by decide +kernel
theorem dX12_isMill_12 : decode cX12_isMill 12 = .ok (.invokestatic 159, 3) := by decide +kernel
theorem dX12_isMill_15 : decode cX12_isMill 15 = .ok (.ireturn, 1) := by decide +kernel
theorem dX12_isRoof_0 : decode cX12_isRoof 0 = .ok (.iload_n 1, 1) := by decide +kernel
theorem dX12_isRoof_1 : decode cX12_isRoof 1 = .ok (.i2l, 1) := by decide +kernel
theorem dX12_isRoof_2 : decode cX12_isRoof 2 = .ok (.lconst 0, 1) := by decide +kernel
theorem dX12_isRoof_3 : decode cX12_isRoof 3 = .ok (.aload_n 0, 1) := by decide +kernel
theorem dX12_isRoof_4 : decode cX12_isRoof 4 = .ok (.getfield 9, 3) := by decide +kernel
theorem dX12_isRoof_7 : decode cX12_isRoof 7 = .ok (.iconst 4, 1) := by decide +kernel
theorem dX12_isRoof_8 : decode cX12_isRoof 8 = .ok (.iaload, 1) := by decide +kernel
theorem dX12_isRoof_9 : decode cX12_isRoof 9 = .ok (.iconst 1, 1) := by decide +kernel
theorem dX12_isRoof_10 : decode cX12_isRoof 10 = .ok (.isub, 1) := by decide +kernel
theorem dX12_isRoof_11 : decode cX12_isRoof 11 = .ok (.i2l, 1) := by decide +kernel
theorem dX12_isRoof_12 : decode cX12_isRoof 12 = .ok (.invokestatic 159, 3) := by decide +kernel
theorem dX12_isRoof_15 : decode cX12_isRoof 15 = .ok (.ireturn, 1) := by decide +kernel
theorem dX12_feed_0 : decode cX12_feed 0 = .ok (.aload_n 0, 1) := by decide +kernel
theorem dX12_feed_1 : decode cX12_feed 1 = .ok (.getfield 163, 3) := by decide +kernel
theorem dX12_feed_4 : decode cX12_feed 4 = .ok (.bipush 20, 2) := by decide +kernel
theorem dX12_feed_6 : decode cX12_feed 6 = .ok (.iadd, 1) := by decide +kernel
theorem dX12_feed_7 : decode cX12_feed 7 = .ok (.sipush 400, 3) := by decide +kernel
theorem dX12_feed_10 : decode cX12_feed 10 = .ok (.if_icmp .le 5, 3) := by decide +kernel
theorem dX12_feed_13 : decode cX12_feed 13 = .ok (.iconst (-1), 1) := by decide +kernel
theorem dX12_feed_14 : decode cX12_feed 14 = .ok (.ireturn, 1) := by decide +kernel
theorem dX12_feed_15 : decode cX12_feed 15 = .ok (.aload_n 0, 1) := by decide +kernel
theorem dX12_feed_16 : decode cX12_feed 16 = .ok (.iload_n 1, 1) := by decide +kernel
theorem dX12_feed_17 : decode cX12_feed 17 = .ok (.invokevirtual 166, 3) := by decide +kernel
theorem dX12_feed_20 : decode cX12_feed 20 = .ok (.aload_n 0, 1) := by decide +kernel
theorem dX12_feed_21 : decode cX12_feed 21 = .ok (.iload_n 2, 1) := by decide +kernel
theorem dX12_feed_22 : decode cX12_feed 22 = .ok (.invokevirtual 166, 3) := by decide +kernel
theorem dX12_feed_25 : decode cX12_feed 25 = .ok (.aload_n 0, 1) := by decide +kernel
theorem dX12_feed_26 : decode cX12_feed 26 = .ok (.iload_n 3, 1) := by decide +kernel
theorem dX12_feed_27 : decode cX12_feed 27 = .ok (.invokevirtual 166, 3) := by decide +kernel
theorem dX12_feed_30 : decode cX12_feed 30 = .ok (.aload_n 0, 1) := by decide +kernel
theorem dX12_feed_31 : decode cX12_feed 31 = .ok (.iload 4, 2) := by decide +kernel
theorem dX12_feed_33 : decode cX12_feed 33 = .ok (.invokevirtual 166, 3) := by decide +kernel
theorem dX12_feed_36 : decode cX12_feed 36 = .ok (.aload_n 0, 1) := by decide +kernel
theorem dX12_feed_37 : decode cX12_feed 37 = .ok (.iload 5, 2) := by decide +kernel
theorem dX12_feed_39 : decode cX12_feed 39 = .ok (.invokevirtual 166, 3) := by decide +kernel
theorem dX12_feed_42 : decode cX12_feed 42 = .ok (.aload_n 0, 1) := by decide +kernel
theorem dX12_feed_43 : decode cX12_feed 43 = .ok (.getfield 163, 3) := by decide +kernel
theorem dX12_feed_46 : decode cX12_feed 46 = .ok (.ireturn, 1) := by decide +kernel
theorem dX12_put_0 : decode cX12_put 0 = .ok (.bipush 24, 2) := by decide +kernel
theorem dX12_put_2 : decode cX12_put 2 = .ok (.istore_n 2, 1) := by decide +kernel
theorem dX12_put_3 : decode cX12_put 3 = .ok (.iload_n 2, 1) := by decide +kernel
theorem dX12_put_4 : decode cX12_put 4 = .ok (.ifCond .lt 32, 3) := by decide +kernel
theorem dX12_put_7 : decode cX12_put 7 = .ok (.aload_n 0, 1) := by decide +kernel
theorem dX12_put_8 : decode cX12_put 8 = .ok (.getfield 92, 3) := by decide +kernel
theorem dX12_put_11 : decode cX12_put 11 = .ok (.aload_n 0, 1) := by decide +kernel
theorem dX12_put_12 : decode cX12_put 12 = .ok (.getfield 163, 3) := by decide +kernel
theorem dX12_put_15 : decode cX12_put 15 = .ok (.iload_n 1, 1) := by decide +kernel
theorem dX12_put_16 : decode cX12_put 16 = .ok (.iload_n 2, 1) := by decide +kernel
theorem dX12_put_17 : decode cX12_put 17 = .ok (.ishr, 1) := by decide +kernel
theorem dX12_put_18 : decode cX12_put 18 = .ok (.i2b, 1) := by decide +kernel
theorem dX12_put_19 : decode cX12_put 19 = .ok (.bastore, 1) := by decide +kernel
theorem dX12_put_20 : decode cX12_put 20 = .ok (.aload_n 0, 1) := by decide +kernel
theorem dX12_put_21 : decode cX12_put 21 = .ok (.dup, 1) := by decide +kernel
theorem dX12_put_22 : decode cX12_put 22 = .ok (.getfield 163, 3) := by decide +kernel
theorem dX12_put_25 : decode cX12_put 25 = .ok (.iconst 1, 1) := by decide +kernel
theorem dX12_put_26 : decode cX12_put 26 = .ok (.iadd, 1) := by decide +kernel
theorem dX12_put_27 : decode cX12_put 27 = .ok (.putfield 163, 3) := by decide +kernel
theorem dX12_put_30 : decode cX12_put 30 = .ok (.iinc 2 (-8), 3) := by decide +kernel
theorem dX12_put_33 : decode cX12_put 33 = .ok (.goto (-30), 3) := by decide +kernel
theorem dX12_put_36 : decode cX12_put 36 = .ok (.return_, 1) := by decide +kernel
theorem dX12_end_0 : decode cX12_end 0 = .ok (.iload_n 1, 1) := by decide +kernel
theorem dX12_end_1 : decode cX12_end 1 = .ok (.ifCond .lt 11, 3) := by decide +kernel
theorem dX12_end_4 : decode cX12_end 4 = .ok (.iload_n 1, 1) := by decide +kernel
theorem dX12_end_5 : decode cX12_end 5 = .ok (.aload_n 0, 1) := by decide +kernel
theorem dX12_end_6 : decode cX12_end 6 = .ok (.getfield 163, 3) := by decide +kernel
theorem dX12_end_9 : decode cX12_end 9 = .ok (.if_icmp .le 5, 3) := by decide +kernel
theorem dX12_end_12 : decode cX12_end 12 = .ok (.iconst (-1), 1) := by decide +kernel
theorem dX12_end_13 : decode cX12_end 13 = .ok (.ireturn, 1) := by decide +kernel
theorem dX12_end_14 : decode cX12_end 14 = .ok (.aload_n 0, 1) := by decide +kernel
theorem dX12_end_15 : decode cX12_end 15 = .ok (.iload_n 1, 1) := by decide +kernel
theorem dX12_end_16 : decode cX12_end 16 = .ok (.putfield 163, 3) := by decide +kernel
theorem dX12_end_19 : decode cX12_end 19 = .ok (.iload_n 1, 1) := by decide +kernel
theorem dX12_end_20 : decode cX12_end 20 = .ok (.ireturn, 1) := by decide +kernel
theorem dX12_wordOf_0 : decode cX12_wordOf 0 = .ok (.iload_n 0, 1) := by decide +kernel
theorem dX12_wordOf_1 : decode cX12_wordOf 1 = .ok (.tableswitch 92 0 10 #[59, 62, 65, 68, 71, 74, 77, 80, 83, 86, 89], 59) := by decide +kernel
theorem dX12_wordOf_60 : decode cX12_wordOf 60 = .ok (.ldc 170, 2) := by decide +kernel
theorem dX12_wordOf_62 : decode cX12_wordOf 62 = .ok (.areturn, 1) := by decide +kernel
theorem dX12_wordOf_63 : decode cX12_wordOf 63 = .ok (.ldc 172, 2) := by decide +kernel
theorem dX12_wordOf_65 : decode cX12_wordOf 65 = .ok (.areturn, 1) := by decide +kernel
theorem dX12_wordOf_66 : decode cX12_wordOf 66 = .ok (.ldc 173, 2) := by decide +kernel
theorem dX12_wordOf_68 : decode cX12_wordOf 68 = .ok (.areturn, 1) := by decide +kernel
theorem dX12_wordOf_69 : decode cX12_wordOf 69 = .ok (.ldc 174, 2) := by decide +kernel
theorem dX12_wordOf_71 : decode cX12_wordOf 71 = .ok (.areturn, 1) := by decide +kernel
theorem dX12_wordOf_72 : decode cX12_wordOf 72 = .ok (.ldc 175, 2) := by decide +kernel
theorem dX12_wordOf_74 : decode cX12_wordOf 74 = .ok (.areturn, 1) := by decide +kernel
theorem dX12_wordOf_75 : decode cX12_wordOf 75 = .ok (.ldc 177, 2) := by decide +kernel
theorem dX12_wordOf_77 : decode cX12_wordOf 77 = .ok (.areturn, 1) := by decide +kernel
theorem dX12_wordOf_78 : decode cX12_wordOf 78 = .ok (.ldc 179, 2) := by decide +kernel
theorem dX12_wordOf_80 : decode cX12_wordOf 80 = .ok (.areturn, 1) := by decide +kernel
theorem dX12_wordOf_81 : decode cX12_wordOf 81 = .ok (.ldc 181, 2) := by decide +kernel
theorem dX12_wordOf_83 : decode cX12_wordOf 83 = .ok (.areturn, 1) := by decide +kernel
theorem dX12_wordOf_84 : decode cX12_wordOf 84 = .ok (.ldc 182, 2) := by decide +kernel
theorem dX12_wordOf_86 : decode cX12_wordOf 86 = .ok (.areturn, 1) := by decide +kernel
theorem dX12_wordOf_87 : decode cX12_wordOf 87 = .ok (.ldc 184, 2) := by decide +kernel
theorem dX12_wordOf_89 : decode cX12_wordOf 89 = .ok (.areturn, 1) := by decide +kernel
theorem dX12_wordOf_90 : decode cX12_wordOf 90 = .ok (.ldc 185, 2) := by decide +kernel
theorem dX12_wordOf_92 : decode cX12_wordOf 92 = .ok (.areturn, 1) := by decide +kernel
theorem dX12_wordOf_93 : decode cX12_wordOf 93 = .ok (.ldc 187, 2) := by decide +kernel
theorem dX12_wordOf_95 : decode cX12_wordOf 95 = .ok (.areturn, 1) := by decide +kernel
theorem dX12_fails_0 : decode cX12_fails 0 = .ok (.aload_n 0, 1) := by decide +kernel
theorem dX12_fails_1 : decode cX12_fails 1 = .ok (.aload_n 0, 1) := by decide +kernel
theorem dX12_fails_2 : decode cX12_fails 2 = .ok (.getfield 189, 3) := by decide +kernel
theorem dX12_fails_5 : decode cX12_fails 5 = .ok (.ifCond .ne 14, 3) := by decide +kernel
theorem dX12_fails_8 : decode cX12_fails 8 = .ok (.iconst 1, 1) := by decide +kernel
theorem dX12_fails_9 : decode cX12_fails 9 = .ok (.bipush 8, 2) := by decide +kernel
theorem dX12_fails_11 : decode cX12_fails 11 = .ok (.iload_n 2, 1) := by decide +kernel
theorem dX12_fails_12 : decode cX12_fails 12 = .ok (.imul, 1) := by decide +kernel
theorem dX12_fails_13 : decode cX12_fails 13 = .ok (.iadd, 1) := by decide +kernel
theorem dX12_fails_14 : decode cX12_fails 14 = .ok (.iload_n 1, 1) := by decide +kernel
theorem dX12_fails_15 : decode cX12_fails 15 = .ok (.iadd, 1) := by decide +kernel
theorem dX12_fails_16 : decode cX12_fails 16 = .ok (.goto 7, 3) := by decide +kernel
theorem dX12_fails_19 : decode cX12_fails 19 = .ok (.aload_n 0, 1) := by decide +kernel
theorem dX12_fails_20 : decode cX12_fails 20 = .ok (.getfield 189, 3) := by decide +kernel
theorem dX12_fails_23 : decode cX12_fails 23 = .ok (.putfield 189, 3) := by decide +kernel
theorem dX12_fails_26 : decode cX12_fails 26 = .ok (.return_, 1) := by decide +kernel
theorem dX12_sign_0 : decode cX12_sign 0 = .ok (.aload_n 0, 1) := by decide +kernel
theorem dX12_sign_1 : decode cX12_sign 1 = .ok (.getfield 192, 3) := by decide +kernel
theorem dX12_sign_4 : decode cX12_sign 4 = .ok (.aload_n 0, 1) := by decide +kernel
theorem dX12_sign_5 : decode cX12_sign 5 = .ok (.getfield 163, 3) := by decide +kernel
theorem dX12_sign_8 : decode cX12_sign 8 = .ok (.if_icmp .ge 19, 3) := by decide +kernel
theorem dX12_sign_11 : decode cX12_sign 11 = .ok (.aload_n 0, 1) := by decide +kernel
theorem dX12_sign_12 : decode cX12_sign 12 = .ok (.getfield 92, 3) := by decide +kernel
theorem dX12_sign_15 : decode cX12_sign 15 = .ok (.aload_n 0, 1) := by decide +kernel
theorem dX12_sign_16 : decode cX12_sign 16 = .ok (.getfield 192, 3) := by decide +kernel
theorem dX12_sign_19 : decode cX12_sign 19 = .ok (.baload, 1) := by decide +kernel
theorem dX12_sign_20 : decode cX12_sign 20 = .ok (.sipush 255, 3) := by decide +kernel
theorem dX12_sign_23 : decode cX12_sign 23 = .ok (.iand, 1) := by decide +kernel
theorem dX12_sign_24 : decode cX12_sign 24 = .ok (.goto 4, 3) := by decide +kernel
theorem dX12_sign_27 : decode cX12_sign 27 = .ok (.iconst (-1), 1) := by decide +kernel
theorem dX12_sign_28 : decode cX12_sign 28 = .ok (.ireturn, 1) := by decide +kernel
theorem dX12_blanks_0 : decode cX12_blanks 0 = .ok (.aload_n 0, 1) := by decide +kernel
theorem dX12_blanks_1 : decode cX12_blanks 1 = .ok (.invokevirtual 195, 3) := by decide +kernel
theorem dX12_blanks_4 : decode cX12_blanks 4 = .ok (.bipush 32, 2) := by decide +kernel
theorem dX12_blanks_6 : decode cX12_blanks 6 = .ok (.if_icmp .ne 16, 3) := by decide +kernel
theorem dX12_blanks_9 : decode cX12_blanks 9 = .ok (.aload_n 0, 1) := by decide +kernel
theorem dX12_blanks_10 : decode cX12_blanks 10 = .ok (.dup, 1) := by decide +kernel
theorem dX12_blanks_11 : decode cX12_blanks 11 = .ok (.getfield 192, 3) := by decide +kernel
theorem dX12_blanks_14 : decode cX12_blanks 14 = .ok (.iconst 1, 1) := by decide +kernel
theorem dX12_blanks_15 : decode cX12_blanks 15 = .ok (.iadd, 1) := by decide +kernel
theorem dX12_blanks_16 : decode cX12_blanks 16 = .ok (.putfield 192, 3) := by decide +kernel
theorem dX12_blanks_19 : decode cX12_blanks 19 = .ok (.goto (-19), 3) := by decide +kernel
theorem dX12_blanks_22 : decode cX12_blanks 22 = .ok (.return_, 1) := by decide +kernel
theorem dX12_isDigit_0 : decode cX12_isDigit 0 = .ok (.aload_n 0, 1) := by decide +kernel
theorem dX12_isDigit_1 : decode cX12_isDigit 1 = .ok (.invokevirtual 195, 3) := by decide +kernel
theorem dX12_isDigit_4 : decode cX12_isDigit 4 = .ok (.i2l, 1) := by decide +kernel
theorem dX12_isDigit_5 : decode cX12_isDigit 5 = .ok (.ldc2_w 198, 3) := by decide +kernel
theorem dX12_isDigit_8 : decode cX12_isDigit 8 = .ok (.ldc2_w 200, 3) := by decide +kernel
theorem dX12_isDigit_11 : decode cX12_isDigit 11 = .ok (.invokestatic 159, 3) := by decide +kernel
theorem dX12_isDigit_14 : decode cX12_isDigit 14 = .ok (.ireturn, 1) := by decide +kernel
theorem dX12_stood_0 : decode cX12_stood 0 = .ok (.aload_n 0, 1) := by decide +kernel
theorem dX12_stood_1 : decode cX12_stood 1 = .ok (.getfield 192, 3) := by decide +kernel
theorem dX12_stood_4 : decode cX12_stood 4 = .ok (.istore_n 2, 1) := by decide +kernel
theorem dX12_stood_5 : decode cX12_stood 5 = .ok (.iload_n 2, 1) := by decide +kernel
theorem dX12_stood_6 : decode cX12_stood 6 = .ok (.aload_n 0, 1) := by decide +kernel
theorem dX12_stood_7 : decode cX12_stood 7 = .ok (.getfield 163, 3) := by decide +kernel
theorem dX12_stood_10 : decode cX12_stood 10 = .ok (.if_icmp .ge 31, 3) := by decide +kernel
theorem dX12_stood_13 : decode cX12_stood 13 = .ok (.aload_n 0, 1) := by decide +kernel
theorem dX12_stood_14 : decode cX12_stood 14 = .ok (.getfield 92, 3) := by decide +kernel
theorem dX12_stood_17 : decode cX12_stood 17 = .ok (.iload_n 2, 1) := by decide +kernel
theorem dX12_stood_18 : decode cX12_stood 18 = .ok (.baload, 1) := by decide +kernel
theorem dX12_stood_19 : decode cX12_stood 19 = .ok (.bipush 97, 2) := by decide +kernel
theorem dX12_stood_21 : decode cX12_stood 21 = .ok (.if_icmp .lt 20, 3) := by decide +kernel
theorem dX12_stood_24 : decode cX12_stood 24 = .ok (.aload_n 0, 1) := by decide +kernel
theorem dX12_stood_25 : decode cX12_stood 25 = .ok (.getfield 92, 3) := by decide +kernel
theorem dX12_stood_28 : decode cX12_stood 28 = .ok (.iload_n 2, 1) := by decide +kernel
theorem dX12_stood_29 : decode cX12_stood 29 = .ok (.baload, 1) := by decide +kernel
theorem dX12_stood_30 : decode cX12_stood 30 = .ok (.bipush 122, 2) := by decide +kernel
theorem dX12_stood_32 : decode cX12_stood 32 = .ok (.if_icmp .gt 9, 3) := by decide +kernel
theorem dX12_stood_35 : decode cX12_stood 35 = .ok (.iinc 2 1, 3) := by decide +kernel
theorem dX12_stood_38 : decode cX12_stood 38 = .ok (.goto (-33), 3) := by decide +kernel
theorem dX12_stood_41 : decode cX12_stood 41 = .ok (.iload_n 2, 1) := by decide +kernel
theorem dX12_stood_42 : decode cX12_stood 42 = .ok (.aload_n 0, 1) := by decide +kernel
theorem dX12_stood_43 : decode cX12_stood 43 = .ok (.getfield 192, 3) := by decide +kernel
theorem dX12_stood_46 : decode cX12_stood 46 = .ok (.isub, 1) := by decide +kernel
