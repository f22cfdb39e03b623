theorem dX12_stood_47 : decode cX12_stood 47 = .ok (.aload_n 1, 1) := by decide +kernel
theorem dX12_stood_48 : decode cX12_stood 48 = .ok (.invokevirtual 202, 3) := by decide +kernel
theorem dX12_stood_51 : decode cX12_stood 51 = .ok (.if_icmp .ne 7, 3) := by decide +kernel
theorem dX12_stood_54 : decode cX12_stood 54 = .ok (.iconst 1, 1) := by decide +kernel
theorem dX12_stood_55 : decode cX12_stood 55 = .ok (.goto 4, 3) := by decide +kernel
theorem dX12_stood_58 : decode cX12_stood 58 = .ok (.iconst 0, 1) := by decide +kernel
theorem dX12_stood_59 : decode cX12_stood 59 = .ok (.istore_n 3, 1) := by decide +kernel
theorem dX12_stood_60 : decode cX12_stood 60 = .ok (.iconst 0, 1) := by decide +kernel
theorem dX12_stood_61 : decode cX12_stood 61 = .ok (.istore 4, 2) := by decide +kernel
theorem dX12_stood_63 : decode cX12_stood 63 = .ok (.iload 4, 2) := by decide +kernel
theorem dX12_stood_65 : decode cX12_stood 65 = .ok (.aload_n 1, 1) := by decide +kernel
theorem dX12_stood_66 : decode cX12_stood 66 = .ok (.invokevirtual 202, 3) := by decide +kernel
theorem dX12_stood_69 : decode cX12_stood 69 = .ok (.if_icmp .ge 40, 3) := by decide +kernel
theorem dX12_stood_72 : decode cX12_stood 72 = .ok (.iload_n 3, 1) := by decide +kernel
theorem dX12_stood_73 : decode cX12_stood 73 = .ok (.ifCond .eq 36, 3) := by decide +kernel
theorem dX12_stood_76 : decode cX12_stood 76 = .ok (.aload_n 0, 1) := by decide +kernel
theorem dX12_stood_77 : decode cX12_stood 77 = .ok (.getfield 92, 3) := by decide +kernel
theorem dX12_stood_80 : decode cX12_stood 80 = .ok (.aload_n 0, 1) := by decide +kernel
theorem dX12_stood_81 : decode cX12_stood 81 = .ok (.getfield 192, 3) := by decide +kernel
theorem dX12_stood_84 : decode cX12_stood 84 = .ok (.iload 4, 2) := by decide +kernel
theorem dX12_stood_86 : decode cX12_stood 86 = .ok (.iadd, 1) := by decide +kernel
theorem dX12_stood_87 : decode cX12_stood 87 = .ok (.baload, 1) := by decide +kernel
theorem dX12_stood_88 : decode cX12_stood 88 = .ok (.aload_n 1, 1) := by decide +kernel
theorem dX12_stood_89 : decode cX12_stood 89 = .ok (.iload 4, 2) := by decide +kernel
theorem dX12_stood_91 : decode cX12_stood 91 = .ok (.invokevirtual 207, 3) := by decide +kernel
theorem dX12_stood_94 : decode cX12_stood 94 = .ok (.if_icmp .ne 7, 3) := by decide +kernel
theorem dX12_stood_97 : decode cX12_stood 97 = .ok (.iconst 1, 1) := by decide +kernel
theorem dX12_stood_98 : decode cX12_stood 98 = .ok (.goto 4, 3) := by decide +kernel
theorem dX12_stood_101 : decode cX12_stood 101 = .ok (.iconst 0, 1) := by decide +kernel
theorem dX12_stood_102 : decode cX12_stood 102 = .ok (.istore_n 3, 1) := by decide +kernel
theorem dX12_stood_103 : decode cX12_stood 103 = .ok (.iinc 4 1, 3) := by decide +kernel
theorem dX12_stood_106 : decode cX12_stood 106 = .ok (.goto (-43), 3) := by decide +kernel
theorem dX12_stood_109 : decode cX12_stood 109 = .ok (.iload_n 3, 1) := by decide +kernel
theorem dX12_stood_110 : decode cX12_stood 110 = .ok (.ireturn, 1) := by decide +kernel
theorem dX12_isNext_0 : decode cX12_isNext 0 = .ok (.aload_n 0, 1) := by decide +kernel
theorem dX12_isNext_1 : decode cX12_isNext 1 = .ok (.invokevirtual 211, 3) := by decide +kernel
theorem dX12_isNext_4 : decode cX12_isNext 4 = .ok (.aload_n 0, 1) := by decide +kernel
theorem dX12_isNext_5 : decode cX12_isNext 5 = .ok (.aload_n 1, 1) := by decide +kernel
theorem dX12_isNext_6 : decode cX12_isNext 6 = .ok (.invokevirtual 214, 3) := by decide +kernel
theorem dX12_isNext_9 : decode cX12_isNext 9 = .ok (.istore_n 2, 1) := by decide +kernel
theorem dX12_isNext_10 : decode cX12_isNext 10 = .ok (.aload_n 0, 1) := by decide +kernel
theorem dX12_isNext_11 : decode cX12_isNext 11 = .ok (.dup, 1) := by decide +kernel
theorem dX12_isNext_12 : decode cX12_isNext 12 = .ok (.getfield 192, 3) := by decide +kernel
theorem dX12_isNext_15 : decode cX12_isNext 15 = .ok (.iload_n 2, 1) := by decide +kernel
theorem dX12_isNext_16 : decode cX12_isNext 16 = .ok (.ifCond .eq 10, 3) := by decide +kernel
theorem dX12_isNext_19 : decode cX12_isNext 19 = .ok (.aload_n 1, 1) := by decide +kernel
theorem dX12_isNext_20 : decode cX12_isNext 20 = .ok (.invokevirtual 202, 3) := by decide +kernel
theorem dX12_isNext_23 : decode cX12_isNext 23 = .ok (.goto 4, 3) := by decide +kernel
theorem dX12_isNext_26 : decode cX12_isNext 26 = .ok (.iconst 0, 1) := by decide +kernel
theorem dX12_isNext_27 : decode cX12_isNext 27 = .ok (.iadd, 1) := by decide +kernel
theorem dX12_isNext_28 : decode cX12_isNext 28 = .ok (.putfield 192, 3) := by decide +kernel
theorem dX12_isNext_31 : decode cX12_isNext 31 = .ok (.iload_n 2, 1) := by decide +kernel
theorem dX12_isNext_32 : decode cX12_isNext 32 = .ok (.ireturn, 1) := by decide +kernel
theorem dX12_entry_0 : decode cX12_entry 0 = .ok (.aload_n 0, 1) := by decide +kernel
theorem dX12_entry_1 : decode cX12_entry 1 = .ok (.getfield 189, 3) := by decide +kernel
theorem dX12_entry_4 : decode cX12_entry 4 = .ok (.ifCond .ne 51, 3) := by decide +kernel
theorem dX12_entry_7 : decode cX12_entry 7 = .ok (.aload_n 0, 1) := by decide +kernel
theorem dX12_entry_8 : decode cX12_entry 8 = .ok (.getfield 96, 3) := by decide +kernel
theorem dX12_entry_11 : decode cX12_entry 11 = .ok (.sipush 300, 3) := by decide +kernel
theorem dX12_entry_14 : decode cX12_entry 14 = .ok (.aload_n 0, 1) := by decide +kernel
theorem dX12_entry_15 : decode cX12_entry 15 = .ok (.getfield 218, 3) := by decide +kernel
theorem dX12_entry_18 : decode cX12_entry 18 = .ok (.imul, 1) := by decide +kernel
theorem dX12_entry_19 : decode cX12_entry 19 = .ok (.aload_n 0, 1) := by decide +kernel
theorem dX12_entry_20 : decode cX12_entry 20 = .ok (.getfield 221, 3) := by decide +kernel
theorem dX12_entry_23 : decode cX12_entry 23 = .ok (.iadd, 1) := by decide +kernel
theorem dX12_entry_24 : decode cX12_entry 24 = .ok (.iload_n 1, 1) := by decide +kernel
theorem dX12_entry_25 : decode cX12_entry 25 = .ok (.iastore, 1) := by decide +kernel
theorem dX12_entry_26 : decode cX12_entry 26 = .ok (.aload_n 0, 1) := by decide +kernel
theorem dX12_entry_27 : decode cX12_entry 27 = .ok (.getfield 99, 3) := by decide +kernel
theorem dX12_entry_30 : decode cX12_entry 30 = .ok (.sipush 300, 3) := by decide +kernel
theorem dX12_entry_33 : decode cX12_entry 33 = .ok (.aload_n 0, 1) := by decide +kernel
theorem dX12_entry_34 : decode cX12_entry 34 = .ok (.getfield 218, 3) := by decide +kernel
theorem dX12_entry_37 : decode cX12_entry 37 = .ok (.imul, 1) := by decide +kernel
theorem dX12_entry_38 : decode cX12_entry 38 = .ok (.aload_n 0, 1) := by decide +kernel
theorem dX12_entry_39 : decode cX12_entry 39 = .ok (.getfield 221, 3) := by decide +kernel
theorem dX12_entry_42 : decode cX12_entry 42 = .ok (.iadd, 1) := by decide +kernel
theorem dX12_entry_43 : decode cX12_entry 43 = .ok (.iload_n 2, 1) := by decide +kernel
theorem dX12_entry_44 : decode cX12_entry 44 = .ok (.iastore, 1) := by decide +kernel
theorem dX12_entry_45 : decode cX12_entry 45 = .ok (.aload_n 0, 1) := by decide +kernel
theorem dX12_entry_46 : decode cX12_entry 46 = .ok (.dup, 1) := by decide +kernel
theorem dX12_entry_47 : decode cX12_entry 47 = .ok (.getfield 221, 3) := by decide +kernel
theorem dX12_entry_50 : decode cX12_entry 50 = .ok (.iconst 1, 1) := by decide +kernel
theorem dX12_entry_51 : decode cX12_entry 51 = .ok (.iadd, 1) := by decide +kernel
theorem dX12_entry_52 : decode cX12_entry 52 = .ok (.putfield 221, 3) := by decide +kernel
theorem dX12_entry_55 : decode cX12_entry 55 = .ok (.return_, 1) := by decide +kernel
theorem dX12_isCounted_0 : decode cX12_isCounted 0 = .ok (.aload_n 0, 1) := by decide +kernel
theorem dX12_isCounted_1 : decode cX12_isCounted 1 = .ok (.getfield 224, 3) := by decide +kernel
theorem dX12_isCounted_4 : decode cX12_isCounted 4 = .ok (.bipush 60, 2) := by decide +kernel
theorem dX12_isCounted_6 : decode cX12_isCounted 6 = .ok (.if_icmp .ne 9, 3) := by decide +kernel
theorem dX12_isCounted_9 : decode cX12_isCounted 9 = .ok (.aload_n 0, 1) := by decide +kernel
theorem dX12_isCounted_10 : decode cX12_isCounted 10 = .ok (.iconst 3, 1) := by decide +kernel
theorem dX12_isCounted_11 : decode cX12_isCounted 11 = .ok (.iload_n 1, 1) := by decide +kernel
theorem dX12_isCounted_12 : decode cX12_isCounted 12 = .ok (.invokevirtual 227, 3) := by decide +kernel
theorem dX12_isCounted_15 : decode cX12_isCounted 15 = .ok (.aload_n 0, 1) := by decide +kernel
theorem dX12_isCounted_16 : decode cX12_isCounted 16 = .ok (.dup, 1) := by decide +kernel
theorem dX12_isCounted_17 : decode cX12_isCounted 17 = .ok (.getfield 224, 3) := by decide +kernel
theorem dX12_isCounted_20 : decode cX12_isCounted 20 = .ok (.iconst 1, 1) := by decide +kernel
theorem dX12_isCounted_21 : decode cX12_isCounted 21 = .ok (.iadd, 1) := by decide +kernel
theorem dX12_isCounted_22 : decode cX12_isCounted 22 = .ok (.putfield 224, 3) := by decide +kernel
theorem dX12_isCounted_25 : decode cX12_isCounted 25 = .ok (.return_, 1) := by decide +kernel
theorem dX12_digits_0 : decode cX12_digits 0 = .ok (.aload_n 0, 1) := by decide +kernel
theorem dX12_digits_1 : decode cX12_digits 1 = .ok (.invokevirtual 231, 3) := by decide +kernel
theorem dX12_digits_4 : decode cX12_digits 4 = .ok (.ifCond .ne 14, 3) := by decide +kernel
theorem dX12_digits_7 : decode cX12_digits 7 = .ok (.aload_n 0, 1) := by decide +kernel
theorem dX12_digits_8 : decode cX12_digits 8 = .ok (.iconst 0, 1) := by decide +kernel
theorem dX12_digits_9 : decode cX12_digits 9 = .ok (.aload_n 0, 1) := by decide +kernel
theorem dX12_digits_10 : decode cX12_digits 10 = .ok (.getfield 192, 3) := by decide +kernel
theorem dX12_digits_13 : decode cX12_digits 13 = .ok (.invokevirtual 227, 3) := by decide +kernel
theorem dX12_digits_16 : decode cX12_digits 16 = .ok (.iconst 0, 1) := by decide +kernel
theorem dX12_digits_17 : decode cX12_digits 17 = .ok (.ireturn, 1) := by decide +kernel
theorem dX12_digits_18 : decode cX12_digits 18 = .ok (.aload_n 0, 1) := by decide +kernel
theorem dX12_digits_19 : decode cX12_digits 19 = .ok (.getfield 192, 3) := by decide +kernel
theorem dX12_digits_22 : decode cX12_digits 22 = .ok (.istore_n 2, 1) := by decide +kernel
theorem dX12_digits_23 : decode cX12_digits 23 = .ok (.iconst 0, 1) := by decide +kernel
theorem dX12_digits_24 : decode cX12_digits 24 = .ok (.istore_n 3, 1) := by decide +kernel
theorem dX12_digits_25 : decode cX12_digits 25 = .ok (.aload_n 0, 1) := by decide +kernel
theorem dX12_digits_26 : decode cX12_digits 26 = .ok (.invokevirtual 231, 3) := by decide +kernel
theorem dX12_digits_29 : decode cX12_digits 29 = .ok (.ifCond .eq 43, 3) := by decide +kernel
theorem dX12_digits_32 : decode cX12_digits 32 = .ok (.aload_n 0, 1) := by decide +kernel
theorem dX12_digits_33 : decode cX12_digits 33 = .ok (.getfield 192, 3) := by decide +kernel
theorem dX12_digits_36 : decode cX12_digits 36 = .ok (.iload_n 2, 1) := by decide +kernel
theorem dX12_digits_37 : decode cX12_digits 37 = .ok (.isub, 1) := by decide +kernel
theorem dX12_digits_38 : decode cX12_digits 38 = .ok (.iconst 5, 1) := by decide +kernel
theorem dX12_digits_39 : decode cX12_digits 39 = .ok (.if_icmp .ge 18, 3) := by decide +kernel
theorem dX12_digits_42 : decode cX12_digits 42 = .ok (.bipush 10, 2) := by decide +kernel
theorem dX12_digits_44 : decode cX12_digits 44 = .ok (.iload_n 3, 1) := by decide +kernel
theorem dX12_digits_45 : decode cX12_digits 45 = .ok (.imul, 1) := by decide +kernel
theorem dX12_digits_46 : decode cX12_digits 46 = .ok (.aload_n 0, 1) := by decide +kernel
theorem dX12_digits_47 : decode cX12_digits 47 = .ok (.invokevirtual 195, 3) := by decide +kernel
theorem dX12_digits_50 : decode cX12_digits 50 = .ok (.iadd, 1) := by decide +kernel
theorem dX12_digits_51 : decode cX12_digits 51 = .ok (.bipush 48, 2) := by decide +kernel
theorem dX12_digits_53 : decode cX12_digits 53 = .ok (.isub, 1) := by decide +kernel
theorem dX12_digits_54 : decode cX12_digits 54 = .ok (.goto 4, 3) := by decide +kernel
theorem dX12_digits_57 : decode cX12_digits 57 = .ok (.iload_n 3, 1) := by decide +kernel
theorem dX12_digits_58 : decode cX12_digits 58 = .ok (.istore_n 3, 1) := by decide +kernel
theorem dX12_digits_59 : decode cX12_digits 59 = .ok (.aload_n 0, 1) := by decide +kernel
theorem dX12_digits_60 : decode cX12_digits 60 = .ok (.dup, 1) := by decide +kernel
theorem dX12_digits_61 : decode cX12_digits 61 = .ok (.getfield 192, 3) := by decide +kernel
theorem dX12_digits_64 : decode cX12_digits 64 = .ok (.iconst 1, 1) := by decide +kernel
theorem dX12_digits_65 : decode cX12_digits 65 = .ok (.iadd, 1) := by decide +kernel
theorem dX12_digits_66 : decode cX12_digits 66 = .ok (.putfield 192, 3) := by decide +kernel
theorem dX12_digits_69 : decode cX12_digits 69 = .ok (.goto (-44), 3) := by decide +kernel
theorem dX12_digits_72 : decode cX12_digits 72 = .ok (.aload_n 0, 1) := by decide +kernel
theorem dX12_digits_73 : decode cX12_digits 73 = .ok (.getfield 192, 3) := by decide +kernel
theorem dX12_digits_76 : decode cX12_digits 76 = .ok (.iload_n 2, 1) := by decide +kernel
theorem dX12_digits_77 : decode cX12_digits 77 = .ok (.isub, 1) := by decide +kernel
theorem dX12_digits_78 : decode cX12_digits 78 = .ok (.iconst 5, 1) := by decide +kernel
theorem dX12_digits_79 : decode cX12_digits 79 = .ok (.if_icmp .gt 8, 3) := by decide +kernel
theorem dX12_digits_82 : decode cX12_digits 82 = .ok (.iload_n 3, 1) := by decide +kernel
theorem dX12_digits_83 : decode cX12_digits 83 = .ok (.iload_n 1, 1) := by decide +kernel
theorem dX12_digits_84 : decode cX12_digits 84 = .ok (.if_icmp .le 9, 3) := by decide +kernel
theorem dX12_digits_87 : decode cX12_digits 87 = .ok (.aload_n 0, 1) := by decide +kernel
theorem dX12_digits_88 : decode cX12_digits 88 = .ok (.iconst 1, 1) := by decide +kernel
theorem dX12_digits_89 : decode cX12_digits 89 = .ok (.iload_n 2, 1) := by decide +kernel
theorem dX12_digits_90 : decode cX12_digits 90 = .ok (.invokevirtual 227, 3) := by decide +kernel
theorem dX12_digits_93 : decode cX12_digits 93 = .ok (.iload_n 3, 1) := by decide +kernel
theorem dX12_digits_94 : decode cX12_digits 94 = .ok (.ireturn, 1) := by decide +kernel
theorem dX12_value_0 : decode cX12_value 0 = .ok (.aload_n 0, 1) := by decide +kernel
theorem dX12_value_1 : decode cX12_value 1 = .ok (.invokevirtual 211, 3) := by decide +kernel
theorem dX12_value_4 : decode cX12_value 4 = .ok (.aload_n 0, 1) := by decide +kernel
theorem dX12_value_5 : decode cX12_value 5 = .ok (.getfield 192, 3) := by decide +kernel
theorem dX12_value_8 : decode cX12_value 8 = .ok (.istore_n 1, 1) := by decide +kernel
theorem dX12_value_9 : decode cX12_value 9 = .ok (.aload_n 0, 1) := by decide +kernel
theorem dX12_value_10 : decode cX12_value 10 = .ok (.invokevirtual 231, 3) := by decide +kernel
theorem dX12_value_13 : decode cX12_value 13 = .ok (.ifCond .eq 22, 3) := by decide +kernel
theorem dX12_value_16 : decode cX12_value 16 = .ok (.aload_n 0, 1) := by decide +kernel
theorem dX12_value_17 : decode cX12_value 17 = .ok (.ldc 235, 2) := by decide +kernel
theorem dX12_value_19 : decode cX12_value 19 = .ok (.invokevirtual 236, 3) := by decide +kernel
theorem dX12_value_22 : decode cX12_value 22 = .ok (.istore_n 2, 1) := by decide +kernel
theorem dX12_value_23 : decode cX12_value 23 = .ok (.aload_n 0, 1) := by decide +kernel
theorem dX12_value_24 : decode cX12_value 24 = .ok (.iload_n 1, 1) := by decide +kernel
theorem dX12_value_25 : decode cX12_value 25 = .ok (.invokevirtual 240, 3) := by decide +kernel
theorem dX12_value_28 : decode cX12_value 28 = .ok (.aload_n 0, 1) := by decide +kernel
theorem dX12_value_29 : decode cX12_value 29 = .ok (.iconst 0, 1) := by decide +kernel
theorem dX12_value_30 : decode cX12_value 30 = .ok (.iload_n 2, 1) := by decide +kernel
theorem dX12_value_31 : decode cX12_value 31 = .ok (.invokevirtual 243, 3) := by decide +kernel
theorem dX12_value_34 : decode cX12_value 34 = .ok (.return_, 1) := by decide +kernel
theorem dX12_value_35 : decode cX12_value 35 = .ok (.iconst 0, 1) := by decide +kernel
theorem dX12_value_36 : decode cX12_value 36 = .ok (.istore_n 2, 1) := by decide +kernel
theorem dX12_value_37 : decode cX12_value 37 = .ok (.iload_n 2, 1) := by decide +kernel
theorem dX12_value_38 : decode cX12_value 38 = .ok (.aload_n 0, 1) := by decide +kernel
theorem dX12_value_39 : decode cX12_value 39 = .ok (.getfield 88, 3) := by decide +kernel
theorem dX12_value_42 : decode cX12_value 42 = .ok (.if_icmp .ge 20, 3) := by decide +kernel
theorem dX12_value_45 : decode cX12_value 45 = .ok (.aload_n 0, 1) := by decide +kernel
theorem dX12_value_46 : decode cX12_value 46 = .ok (.iload_n 2, 1) := by decide +kernel
theorem dX12_value_47 : decode cX12_value 47 = .ok (.invokestatic 246, 3) := by decide +kernel
theorem dX12_value_50 : decode cX12_value 50 = .ok (.invokevirtual 214, 3) := by decide +kernel
theorem dX12_value_53 : decode cX12_value 53 = .ok (.ifCond .ne 9, 3) := by decide +kernel
theorem dX12_value_56 : decode cX12_value 56 = .ok (.iinc 2 1, 3) := by decide +kernel
theorem dX12_value_59 : decode cX12_value 59 = .ok (.goto (-22), 3) := by decide +kernel
theorem dX12_value_62 : decode cX12_value 62 = .ok (.iload_n 2, 1) := by decide +kernel
theorem dX12_value_63 : decode cX12_value 63 = .ok (.aload_n 0, 1) := by decide +kernel
theorem dX12_value_64 : decode cX12_value 64 = .ok (.getfield 88, 3) := by decide +kernel
theorem dX12_value_67 : decode cX12_value 67 = .ok (.if_icmp .ne 10, 3) := by decide +kernel
theorem dX12_value_70 : decode cX12_value 70 = .ok (.aload_n 0, 1) := by decide +kernel
theorem dX12_value_71 : decode cX12_value 71 = .ok (.iconst 0, 1) := by decide +kernel
theorem dX12_value_72 : decode cX12_value 72 = .ok (.iload_n 1, 1) := by decide +kernel
theorem dX12_value_73 : decode cX12_value 73 = .ok (.invokevirtual 227, 3) := by decide +kernel
theorem dX12_value_76 : decode cX12_value 76 = .ok (.return_, 1) := by decide +kernel
theorem dX12_value_77 : decode cX12_value 77 = .ok (.aload_n 0, 1) := by decide +kernel
theorem dX12_value_78 : decode cX12_value 78 = .ok (.iload_n 1, 1) := by decide +kernel
theorem dX12_value_79 : decode cX12_value 79 = .ok (.invokevirtual 240, 3) := by decide +kernel
theorem dX12_value_82 : decode cX12_value 82 = .ok (.aload_n 0, 1) := by decide +kernel
theorem dX12_value_83 : decode cX12_value 83 = .ok (.dup, 1) := by decide +kernel
theorem dX12_value_84 : decode cX12_value 84 = .ok (.getfield 192, 3) := by decide +kernel
theorem dX12_value_87 : decode cX12_value 87 = .ok (.iload_n 2, 1) := by decide +kernel
theorem dX12_value_88 : decode cX12_value 88 = .ok (.invokestatic 246, 3) := by decide +kernel
theorem dX12_value_91 : decode cX12_value 91 = .ok (.invokevirtual 202, 3) := by decide +kernel
theorem dX12_value_94 : decode cX12_value 94 = .ok (.iadd, 1) := by decide +kernel
theorem dX12_value_95 : decode cX12_value 95 = .ok (.putfield 192, 3) := by decide +kernel
theorem dX12_value_98 : decode cX12_value 98 = .ok (.aload_n 0, 1) := by decide +kernel
theorem dX12_value_99 : decode cX12_value 99 = .ok (.iconst 1, 1) := by decide +kernel
theorem dX12_value_100 : decode cX12_value 100 = .ok (.iload_n 2, 1) := by decide +kernel
theorem dX12_value_101 : decode cX12_value 101 = .ok (.invokevirtual 243, 3) := by decide +kernel
theorem dX12_value_104 : decode cX12_value 104 = .ok (.return_, 1) := by decide +kernel
theorem dX12_term_0 : decode cX12_term 0 = .ok (.aload_n 0, 1) := by decide +kernel
theorem dX12_term_1 : decode cX12_term 1 = .ok (.invokevirtual 250, 3) := by decide +kernel
theorem dX12_term_4 : decode cX12_term 4 = .ok (.aload_n 0, 1) := by decide +kernel
theorem dX12_term_5 : decode cX12_term 5 = .ok (.invokevirtual 211, 3) := by decide +kernel
theorem dX12_term_8 : decode cX12_term 8 = .ok (.aload_n 0, 1) := by decide +kernel
theorem dX12_term_9 : decode cX12_term 9 = .ok (.getfield 189, 3) := by decide +kernel
theorem dX12_term_12 : decode cX12_term 12 = .ok (.ifCond .ne 88, 3) := by decide +kernel
theorem dX12_term_15 : decode cX12_term 15 = .ok (.aload_n 0, 1) := by decide +kernel
theorem dX12_term_16 : decode cX12_term 16 = .ok (.invokevirtual 195, 3) := by decide +kernel
theorem dX12_term_19 : decode cX12_term 19 = .ok (.bipush 42, 2) := by decide +kernel
theorem dX12_term_21 : decode cX12_term 21 = .ok (.if_icmp .eq 21, 3) := by decide +kernel
theorem dX12_term_24 : decode cX12_term 24 = .ok (.aload_n 0, 1) := by decide +kernel
theorem dX12_term_25 : decode cX12_term 25 = .ok (.invokevirtual 195, 3) := by decide +kernel
theorem dX12_term_28 : decode cX12_term 28 = .ok (.bipush 47, 2) := by decide +kernel
theorem dX12_term_30 : decode cX12_term 30 = .ok (.if_icmp .eq 12, 3) := by decide +kernel
theorem dX12_term_33 : decode cX12_term 33 = .ok (.aload_n 0, 1) := by decide +kernel
theorem dX12_term_34 : decode cX12_term 34 = .ok (.invokevirtual 195, 3) := by decide +kernel
theorem dX12_term_37 : decode cX12_term 37 = .ok (.bipush 37, 2) := by decide +kernel
theorem dX12_term_39 : decode cX12_term 39 = .ok (.if_icmp .ne 61, 3) := by decide +kernel
theorem dX12_term_42 : decode cX12_term 42 = .ok (.aload_n 0, 1) := by decide +kernel
theorem dX12_term_43 : decode cX12_term 43 = .ok (.invokevirtual 195, 3) := by decide +kernel
theorem dX12_term_46 : decode cX12_term 46 = .ok (.bipush 42, 2) := by decide +kernel
theorem dX12_term_48 : decode cX12_term 48 = .ok (.if_icmp .ne 8, 3) := by decide +kernel
theorem dX12_term_51 : decode cX12_term 51 = .ok (.bipush 13, 2) := by decide +kernel
theorem dX12_term_53 : decode cX12_term 53 = .ok (.goto 19, 3) := by decide +kernel
theorem dX12_term_56 : decode cX12_term 56 = .ok (.aload_n 0, 1) := by decide +kernel
theorem dX12_term_57 : decode cX12_term 57 = .ok (.invokevirtual 195, 3) := by decide +kernel
theorem dX12_term_60 : decode cX12_term 60 = .ok (.bipush 47, 2) := by decide +kernel
theorem dX12_term_62 : decode cX12_term 62 = .ok (.if_icmp .ne 8, 3) := by decide +kernel
theorem dX12_term_65 : decode cX12_term 65 = .ok (.bipush 14, 2) := by decide +kernel
theorem dX12_term_67 : decode cX12_term 67 = .ok (.goto 5, 3) := by decide +kernel
theorem dX12_term_70 : decode cX12_term 70 = .ok (.bipush 15, 2) := by decide +kernel
theorem dX12_term_72 : decode cX12_term 72 = .ok (.istore_n 1, 1) := by decide +kernel
theorem dX12_term_73 : decode cX12_term 73 = .ok (.aload_n 0, 1) := by decide +kernel
theorem dX12_term_74 : decode cX12_term 74 = .ok (.dup, 1) := by decide +kernel
theorem dX12_term_75 : decode cX12_term 75 = .ok (.getfield 192, 3) := by decide +kernel
theorem dX12_term_78 : decode cX12_term 78 = .ok (.iconst 1, 1) := by decide +kernel
theorem dX12_term_79 : decode cX12_term 79 = .ok (.iadd, 1) := by decide +kernel
theorem dX12_term_80 : decode cX12_term 80 = .ok (.putfield 192, 3) := by decide +kernel
theorem dX12_term_83 : decode cX12_term 83 = .ok (.aload_n 0, 1) := by decide +kernel
theorem dX12_term_84 : decode cX12_term 84 = .ok (.invokevirtual 250, 3) := by decide +kernel
theorem dX12_term_87 : decode cX12_term 87 = .ok (.aload_n 0, 1) := by decide +kernel
theorem dX12_term_88 : decode cX12_term 88 = .ok (.iload_n 1, 1) := by decide +kernel
theorem dX12_term_89 : decode cX12_term 89 = .ok (.iconst 0, 1) := by decide +kernel
theorem dX12_term_90 : decode cX12_term 90 = .ok (.invokevirtual 243, 3) := by decide +kernel
theorem dX12_term_93 : decode cX12_term 93 = .ok (.aload_n 0, 1) := by decide +kernel
theorem dX12_term_94 : decode cX12_term 94 = .ok (.invokevirtual 211, 3) := by decide +kernel
theorem dX12_term_97 : decode cX12_term 97 = .ok (.goto (-89), 3) := by decide +kernel
theorem dX12_term_100 : decode cX12_term 100 = .ok (.return_, 1) := by decide +kernel
theorem dX12_sum_0 : decode cX12_sum 0 = .ok (.aload_n 0, 1) := by decide +kernel
theorem dX12_sum_1 : decode cX12_sum 1 = .ok (.invokevirtual 253, 3) := by decide +kernel
theorem dX12_sum_4 : decode cX12_sum 4 = .ok (.aload_n 0, 1) := by decide +kernel
theorem dX12_sum_5 : decode cX12_sum 5 = .ok (.getfield 189, 3) := by decide +kernel
theorem dX12_sum_8 : decode cX12_sum 8 = .ok (.ifCond .ne 59, 3) := by decide +kernel
theorem dX12_sum_11 : decode cX12_sum 11 = .ok (.aload_n 0, 1) := by decide +kernel
theorem dX12_sum_12 : decode cX12_sum 12 = .ok (.invokevirtual 195, 3) := by decide +kernel
theorem dX12_sum_15 : decode cX12_sum 15 = .ok (.bipush 43, 2) := by decide +kernel
theorem dX12_sum_17 : decode cX12_sum 17 = .ok (.if_icmp .eq 12, 3) := by decide +kernel
theorem dX12_sum_20 : decode cX12_sum 20 = .ok (.aload_n 0, 1) := by decide +kernel
theorem dX12_sum_21 : decode cX12_sum 21 = .ok (.invokevirtual 195, 3) := by decide +kernel
theorem dX12_sum_24 : decode cX12_sum 24 = .ok (.bipush 45, 2) := by decide +kernel
theorem dX12_sum_26 : decode cX12_sum 26 = .ok (.if_icmp .ne 41, 3) := by decide +kernel
theorem dX12_sum_29 : decode cX12_sum 29 = .ok (.aload_n 0, 1) := by decide +kernel
theorem dX12_sum_30 : decode cX12_sum 30 = .ok (.invokevirtual 195, 3) := by decide +kernel
theorem dX12_sum_33 : decode cX12_sum 33 = .ok (.bipush 43, 2) := by decide +kernel
theorem dX12_sum_35 : decode cX12_sum 35 = .ok (.if_icmp .ne 7, 3) := by decide +kernel
theorem dX12_sum_38 : decode cX12_sum 38 = .ok (.iconst 2, 1) := by decide +kernel
theorem dX12_sum_39 : decode cX12_sum 39 = .ok (.goto 4, 3) := by decide +kernel
theorem dX12_sum_42 : decode cX12_sum 42 = .ok (.iconst 3, 1) := by decide +kernel
theorem dX12_sum_43 : decode cX12_sum 43 = .ok (.istore_n 1, 1) := by decide +kernel
theorem dX12_sum_44 : decode cX12_sum 44 = .ok (.aload_n 0, 1) := by decide +kernel
theorem dX12_sum_45 : decode cX12_sum 45 = .ok (.dup, 1) := by decide +kernel
theorem dX12_sum_46 : decode cX12_sum 46 = .ok (.getfield 192, 3) := by decide +kernel
theorem dX12_sum_49 : decode cX12_sum 49 = .ok (.iconst 1, 1) := by decide +kernel
theorem dX12_sum_50 : decode cX12_sum 50 = .ok (.iadd, 1) := by decide +kernel
theorem dX12_sum_51 : decode cX12_sum 51 = .ok (.putfield 192, 3) := by decide +kernel
theorem dX12_sum_54 : decode cX12_sum 54 = .ok (.aload_n 0, 1) := by decide +kernel
theorem dX12_sum_55 : decode cX12_sum 55 = .ok (.invokevirtual 253, 3) := by decide +kernel
theorem dX12_sum_58 : decode cX12_sum 58 = .ok (.aload_n 0, 1) := by decide +kernel
theorem dX12_sum_59 : decode cX12_sum 59 = .ok (.iload_n 1, 1) := by decide +kernel
theorem dX12_sum_60 : decode cX12_sum 60 = .ok (.iconst 0, 1) := by decide +kernel
theorem dX12_sum_61 : decode cX12_sum 61 = .ok (.invokevirtual 243, 3) := by decide +kernel
theorem dX12_sum_64 : decode cX12_sum 64 = .ok (.goto (-60), 3) := by decide +kernel
theorem dX12_sum_67 : decode cX12_sum 67 = .ok (.return_, 1) := by decide +kernel
theorem dX12_compared_0 : decode cX12_compared 0 = .ok (.aload_n 0, 1) := by decide +kernel
theorem dX12_compared_1 : decode cX12_compared 1 = .ok (.invokevirtual 256, 3) := by decide +kernel
theorem dX12_compared_4 : decode cX12_compared 4 = .ok (.aload_n 0, 1) := by decide +kernel
theorem dX12_compared_5 : decode cX12_compared 5 = .ok (.invokevirtual 195, 3) := by decide +kernel
theorem dX12_compared_8 : decode cX12_compared 8 = .ok (.istore_n 1, 1) := by decide +kernel
theorem dX12_compared_9 : decode cX12_compared 9 = .ok (.iload_n 1, 1) := by decide +kernel
theorem dX12_compared_10 : decode cX12_compared 10 = .ok (.bipush 60, 2) := by decide +kernel
theorem dX12_compared_12 : decode cX12_compared 12 = .ok (.if_icmp .eq 25, 3) := by decide +kernel
theorem dX12_compared_15 : decode cX12_compared 15 = .ok (.iload_n 1, 1) := by decide +kernel
theorem dX12_compared_16 : decode cX12_compared 16 = .ok (.bipush 61, 2) := by decide +kernel
theorem dX12_compared_18 : decode cX12_compared 18 = .ok (.if_icmp .eq 19, 3) := by decide +kernel
theorem dX12_compared_21 : decode cX12_compared 21 = .ok (.iload_n 1, 1) := by decide +kernel
theorem dX12_compared_22 : decode cX12_compared 22 = .ok (.bipush 62, 2) := by decide +kernel
theorem dX12_compared_24 : decode cX12_compared 24 = .ok (.if_icmp .eq 13, 3) := by decide +kernel
theorem dX12_compared_27 : decode cX12_compared 27 = .ok (.aload_n 0, 1) := by decide +kernel
theorem dX12_compared_28 : decode cX12_compared 28 = .ok (.iconst 0, 1) := by decide +kernel
theorem dX12_compared_29 : decode cX12_compared 29 = .ok (.aload_n 0, 1) := by decide +kernel
theorem dX12_compared_30 : decode cX12_compared 30 = .ok (.getfield 192, 3) := by decide +kernel
theorem dX12_compared_33 : decode cX12_compared 33 = .ok (.invokevirtual 227, 3) := by decide +kernel
theorem dX12_compared_36 : decode cX12_compared 36 = .ok (.return_, 1) := by decide +kernel
theorem dX12_compared_37 : decode cX12_compared 37 = .ok (.aload_n 0, 1) := by decide +kernel
theorem dX12_compared_38 : decode cX12_compared 38 = .ok (.aload_n 0, 1) := by decide +kernel
theorem dX12_compared_39 : decode cX12_compared 39 = .ok (.getfield 192, 3) := by decide +kernel
theorem dX12_compared_42 : decode cX12_compared 42 = .ok (.invokevirtual 240, 3) := by decide +kernel
theorem dX12_compared_45 : decode cX12_compared 45 = .ok (.aload_n 0, 1) := by decide +kernel
theorem dX12_compared_46 : decode cX12_compared 46 = .ok (.dup, 1) := by decide +kernel
theorem dX12_compared_47 : decode cX12_compared 47 = .ok (.getfield 192, 3) := by decide +kernel
theorem dX12_compared_50 : decode cX12_compared 50 = .ok (.iconst 1, 1) := by decide +kernel
theorem dX12_compared_51 : decode cX12_compared 51 = .ok (.iadd, 1) := by decide +kernel
theorem dX12_compared_52 : decode cX12_compared 52 = .ok (.putfield 192, 3) := by decide +kernel
theorem dX12_compared_55 : decode cX12_compared 55 = .ok (.iload_n 1, 1) := by decide +kernel
theorem dX12_compared_56 : decode cX12_compared 56 = .ok (.bipush 61, 2) := by decide +kernel
theorem dX12_compared_58 : decode cX12_compared 58 = .ok (.if_icmp .eq 16, 3) := by decide +kernel
theorem dX12_compared_61 : decode cX12_compared 61 = .ok (.aload_n 0, 1) := by decide +kernel
theorem dX12_compared_62 : decode cX12_compared 62 = .ok (.invokevirtual 195, 3) := by decide +kernel
theorem dX12_compared_65 : decode cX12_compared 65 = .ok (.bipush 61, 2) := by decide +kernel
theorem dX12_compared_67 : decode cX12_compared 67 = .ok (.if_icmp .ne 7, 3) := by decide +kernel
theorem dX12_compared_70 : decode cX12_compared 70 = .ok (.iconst 1, 1) := by decide +kernel
theorem dX12_compared_71 : decode cX12_compared 71 = .ok (.goto 4, 3) := by decide +kernel
theorem dX12_compared_74 : decode cX12_compared 74 = .ok (.iconst 0, 1) := by decide +kernel
theorem dX12_compared_75 : decode cX12_compared 75 = .ok (.istore_n 2, 1) := by decide +kernel
theorem dX12_compared_76 : decode cX12_compared 76 = .ok (.aload_n 0, 1) := by decide +kernel
theorem dX12_compared_77 : decode cX12_compared 77 = .ok (.dup, 1) := by decide +kernel
theorem dX12_compared_78 : decode cX12_compared 78 = .ok (.getfield 192, 3) := by decide +kernel
theorem dX12_compared_81 : decode cX12_compared 81 = .ok (.iload_n 2, 1) := by decide +kernel
theorem dX12_compared_82 : decode cX12_compared 82 = .ok (.ifCond .eq 7, 3) := by decide +kernel
theorem dX12_compared_85 : decode cX12_compared 85 = .ok (.iconst 1, 1) := by decide +kernel
theorem dX12_compared_86 : decode cX12_compared 86 = .ok (.goto 4, 3) := by decide +kernel
theorem dX12_compared_89 : decode cX12_compared 89 = .ok (.iconst 0, 1) := by decide +kernel
theorem dX12_compared_90 : decode cX12_compared 90 = .ok (.iadd, 1) := by decide +kernel
theorem dX12_compared_91 : decode cX12_compared 91 = .ok (.putfield 192, 3) := by decide +kernel
theorem dX12_compared_94 : decode cX12_compared 94 = .ok (.aload_n 0, 1) := by decide +kernel
theorem dX12_compared_95 : decode cX12_compared 95 = .ok (.invokevirtual 256, 3) := by decide +kernel
theorem dX12_compared_98 : decode cX12_compared 98 = .ok (.aload_n 0, 1) := by decide +kernel
theorem dX12_compared_99 : decode cX12_compared 99 = .ok (.iload_n 1, 1) := by decide +kernel
theorem dX12_compared_100 : decode cX12_compared 100 = .ok (.bipush 61, 2) := by decide +kernel
theorem dX12_compared_102 : decode cX12_compared 102 = .ok (.if_icmp .ne 8, 3) := by decide +kernel
theorem dX12_compared_105 : decode cX12_compared 105 = .ok (.bipush 6, 2) := by decide +kernel
theorem dX12_compared_107 : decode cX12_compared 107 = .ok (.goto 32, 3) := by decide +kernel
theorem dX12_compared_110 : decode cX12_compared 110 = .ok (.iload_n 1, 1) := by decide +kernel
theorem dX12_compared_111 : decode cX12_compared 111 = .ok (.bipush 60, 2) := by decide +kernel
theorem dX12_compared_113 : decode cX12_compared 113 = .ok (.if_icmp .ne 15, 3) := by decide +kernel
theorem dX12_compared_116 : decode cX12_compared 116 = .ok (.iload_n 2, 1) := by decide +kernel
theorem dX12_compared_117 : decode cX12_compared 117 = .ok (.ifCond .eq 7, 3) := by decide +kernel
theorem dX12_compared_120 : decode cX12_compared 120 = .ok (.iconst 5, 1) := by decide +kernel
theorem dX12_compared_121 : decode cX12_compared 121 = .ok (.goto 18, 3) := by decide +kernel
theorem dX12_compared_124 : decode cX12_compared 124 = .ok (.iconst 4, 1) := by decide +kernel
theorem dX12_compared_125 : decode cX12_compared 125 = .ok (.goto 14, 3) := by decide +kernel
theorem dX12_compared_128 : decode cX12_compared 128 = .ok (.iload_n 2, 1) := by decide +kernel
theorem dX12_compared_129 : decode cX12_compared 129 = .ok (.ifCond .eq 8, 3) := by decide +kernel
theorem dX12_compared_132 : decode cX12_compared 132 = .ok (.bipush 7, 2) := by decide +kernel
theorem dX12_compared_134 : decode cX12_compared 134 = .ok (.goto 5, 3) := by decide +kernel
theorem dX12_compared_137 : decode cX12_compared 137 = .ok (.bipush 8, 2) := by decide +kernel
theorem dX12_compared_139 : decode cX12_compared 139 = .ok (.iconst 0, 1) := by decide +kernel
theorem dX12_compared_140 : decode cX12_compared 140 = .ok (.invokevirtual 243, 3) := by decide +kernel
theorem dX12_compared_143 : decode cX12_compared 143 = .ok (.return_, 1) := by decide +kernel
theorem dX12_top_0 : decode cX12_top 0 = .ok (.aload_n 0, 1) := by decide +kernel
theorem dX12_top_1 : decode cX12_top 1 = .ok (.getfield 259, 3) := by decide +kernel
theorem dX12_top_4 : decode cX12_top 4 = .ok (.ifCond .ne 7, 3) := by decide +kernel
theorem dX12_top_7 : decode cX12_top 7 = .ok (.iconst (-1), 1) := by decide +kernel
theorem dX12_top_8 : decode cX12_top 8 = .ok (.goto 14, 3) := by decide +kernel
theorem dX12_top_11 : decode cX12_top 11 = .ok (.aload_n 0, 1) := by decide +kernel
theorem dX12_top_12 : decode cX12_top 12 = .ok (.getfield 114, 3) := by decide +kernel
theorem dX12_top_15 : decode cX12_top 15 = .ok (.aload_n 0, 1) := by decide +kernel
theorem dX12_top_16 : decode cX12_top 16 = .ok (.getfield 259, 3) := by decide +kernel
theorem dX12_top_19 : decode cX12_top 19 = .ok (.iconst 1, 1) := by decide +kernel
theorem dX12_top_20 : decode cX12_top 20 = .ok (.isub, 1) := by decide +kernel
theorem dX12_top_21 : decode cX12_top 21 = .ok (.iaload, 1) := by decide +kernel
theorem dX12_top_22 : decode cX12_top 22 = .ok (.ireturn, 1) := by decide +kernel
theorem dX12_opens_0 : decode cX12_opens 0 = .ok (.iload_n 1, 1) := by decide +kernel
theorem dX12_opens_1 : decode cX12_opens 1 = .ok (.bipush 9, 2) := by decide +kernel
theorem dX12_opens_3 : decode cX12_opens 3 = .ok (.if_icmp .eq 9, 3) := by decide +kernel
theorem dX12_opens_6 : decode cX12_opens 6 = .ok (.iload_n 1, 1) := by decide +kernel
theorem dX12_opens_7 : decode cX12_opens 7 = .ok (.bipush 12, 2) := by decide +kernel
theorem dX12_opens_9 : decode cX12_opens 9 = .ok (.if_icmp .ne 31, 3) := by decide +kernel
theorem dX12_opens_12 : decode cX12_opens 12 = .ok (.aload_n 0, 1) := by decide +kernel
theorem dX12_opens_13 : decode cX12_opens 13 = .ok (.getfield 262, 3) := by decide +kernel
theorem dX12_opens_16 : decode cX12_opens 16 = .ok (.bipush 10, 2) := by decide +kernel
theorem dX12_opens_18 : decode cX12_opens 18 = .ok (.if_icmp .ne 12, 3) := by decide +kernel
theorem dX12_opens_21 : decode cX12_opens 21 = .ok (.aload_n 0, 1) := by decide +kernel
theorem dX12_opens_22 : decode cX12_opens 22 = .ok (.iconst 2, 1) := by decide +kernel
theorem dX12_opens_23 : decode cX12_opens 23 = .ok (.aload_n 0, 1) := by decide +kernel
theorem dX12_opens_24 : decode cX12_opens 24 = .ok (.getfield 192, 3) := by decide +kernel
theorem dX12_opens_27 : decode cX12_opens 27 = .ok (.invokevirtual 227, 3) := by decide +kernel
theorem dX12_opens_30 : decode cX12_opens 30 = .ok (.aload_n 0, 1) := by decide +kernel
theorem dX12_opens_31 : decode cX12_opens 31 = .ok (.dup, 1) := by decide +kernel
theorem dX12_opens_32 : decode cX12_opens 32 = .ok (.getfield 262, 3) := by decide +kernel
theorem dX12_opens_35 : decode cX12_opens 35 = .ok (.iconst 1, 1) := by decide +kernel
theorem dX12_opens_36 : decode cX12_opens 36 = .ok (.iadd, 1) := by decide +kernel
theorem dX12_opens_37 : decode cX12_opens 37 = .ok (.putfield 262, 3) := by decide +kernel
theorem dX12_opens_40 : decode cX12_opens 40 = .ok (.aload_n 0, 1) := by decide +kernel
theorem dX12_opens_41 : decode cX12_opens 41 = .ok (.getfield 114, 3) := by decide +kernel
theorem dX12_opens_44 : decode cX12_opens 44 = .ok (.aload_n 0, 1) := by decide +kernel
theorem dX12_opens_45 : decode cX12_opens 45 = .ok (.getfield 259, 3) := by decide +kernel
theorem dX12_opens_48 : decode cX12_opens 48 = .ok (.iload_n 1, 1) := by decide +kernel
theorem dX12_opens_49 : decode cX12_opens 49 = .ok (.iastore, 1) := by decide +kernel
theorem dX12_opens_50 : decode cX12_opens 50 = .ok (.aload_n 0, 1) := by decide +kernel
theorem dX12_opens_51 : decode cX12_opens 51 = .ok (.dup, 1) := by decide +kernel
theorem dX12_opens_52 : decode cX12_opens 52 = .ok (.getfield 259, 3) := by decide +kernel
theorem dX12_opens_55 : decode cX12_opens 55 = .ok (.iconst 1, 1) := by decide +kernel
theorem dX12_opens_56 : decode cX12_opens 56 = .ok (.iadd, 1) := by decide +kernel
theorem dX12_opens_57 : decode cX12_opens 57 = .ok (.putfield 259, 3) := by decide +kernel
theorem dX12_opens_60 : decode cX12_opens 60 = .ok (.return_, 1) := by decide +kernel
theorem dX12_answers_0 : decode cX12_answers 0 = .ok (.aload_n 0, 1) := by decide +kernel
theorem dX12_answers_1 : decode cX12_answers 1 = .ok (.invokevirtual 265, 3) := by decide +kernel
theorem dX12_answers_4 : decode cX12_answers 4 = .ok (.iload_n 1, 1) := by decide +kernel
theorem dX12_answers_5 : decode cX12_answers 5 = .ok (.if_icmp .ne 49, 3) := by decide +kernel
theorem dX12_answers_8 : decode cX12_answers 8 = .ok (.aload_n 0, 1) := by decide +kernel
theorem dX12_answers_9 : decode cX12_answers 9 = .ok (.getfield 189, 3) := by decide +kernel
theorem dX12_answers_12 : decode cX12_answers 12 = .ok (.ifCond .ne 42, 3) := by decide +kernel
theorem dX12_answers_15 : decode cX12_answers 15 = .ok (.aload_n 0, 1) := by decide +kernel
theorem dX12_answers_16 : decode cX12_answers 16 = .ok (.iload_n 1, 1) := by decide +kernel
theorem dX12_answers_17 : decode cX12_answers 17 = .ok (.iconst 0, 1) := by decide +kernel
theorem dX12_answers_18 : decode cX12_answers 18 = .ok (.invokevirtual 243, 3) := by decide +kernel
theorem dX12_answers_21 : decode cX12_answers 21 = .ok (.aload_n 0, 1) := by decide +kernel
theorem dX12_answers_22 : decode cX12_answers 22 = .ok (.dup, 1) := by decide +kernel
theorem dX12_answers_23 : decode cX12_answers 23 = .ok (.getfield 259, 3) := by decide +kernel
theorem dX12_answers_26 : decode cX12_answers 26 = .ok (.iconst 1, 1) := by decide +kernel
theorem dX12_answers_27 : decode cX12_answers 27 = .ok (.isub, 1) := by decide +kernel
theorem dX12_answers_28 : decode cX12_answers 28 = .ok (.putfield 259, 3) := by decide +kernel
theorem dX12_answers_31 : decode cX12_answers 31 = .ok (.aload_n 0, 1) := by decide +kernel
theorem dX12_answers_32 : decode cX12_answers 32 = .ok (.dup, 1) := by decide +kernel
theorem dX12_answers_33 : decode cX12_answers 33 = .ok (.getfield 262, 3) := by decide +kernel
theorem dX12_answers_36 : decode cX12_answers 36 = .ok (.iload_n 1, 1) := by decide +kernel
theorem dX12_answers_37 : decode cX12_answers 37 = .ok (.bipush 9, 2) := by decide +kernel
theorem dX12_answers_39 : decode cX12_answers 39 = .ok (.if_icmp .ne 7, 3) := by decide +kernel
theorem dX12_answers_42 : decode cX12_answers 42 = .ok (.iconst 1, 1) := by decide +kernel
theorem dX12_answers_43 : decode cX12_answers 43 = .ok (.goto 4, 3) := by decide +kernel
theorem dX12_answers_46 : decode cX12_answers 46 = .ok (.iconst 0, 1) := by decide +kernel
theorem dX12_answers_47 : decode cX12_answers 47 = .ok (.isub, 1) := by decide +kernel
theorem dX12_answers_48 : decode cX12_answers 48 = .ok (.putfield 262, 3) := by decide +kernel
theorem dX12_answers_51 : decode cX12_answers 51 = .ok (.goto (-51), 3) := by decide +kernel
theorem dX12_answers_54 : decode cX12_answers 54 = .ok (.return_, 1) := by decide +kernel
theorem dX12_fact_0 : decode cX12_fact 0 = .ok (.aload_n 0, 1) := by decide +kernel
theorem dX12_fact_1 : decode cX12_fact 1 = .ok (.invokevirtual 211, 3) := by decide +kernel
theorem dX12_fact_4 : decode cX12_fact 4 = .ok (.aload_n 0, 1) := by decide +kernel
theorem dX12_fact_5 : decode cX12_fact 5 = .ok (.ldc_w 268, 3) := by decide +kernel
theorem dX12_fact_8 : decode cX12_fact 8 = .ok (.invokevirtual 214, 3) := by decide +kernel
theorem dX12_fact_11 : decode cX12_fact 11 = .ok (.ifCond .eq 21, 3) := by decide +kernel
theorem dX12_fact_14 : decode cX12_fact 14 = .ok (.aload_n 0, 1) := by decide +kernel
theorem dX12_fact_15 : decode cX12_fact 15 = .ok (.bipush 9, 2) := by decide +kernel
theorem dX12_fact_17 : decode cX12_fact 17 = .ok (.invokevirtual 270, 3) := by decide +kernel
theorem dX12_fact_20 : decode cX12_fact 20 = .ok (.aload_n 0, 1) := by decide +kernel
theorem dX12_fact_21 : decode cX12_fact 21 = .ok (.dup, 1) := by decide +kernel
theorem dX12_fact_22 : decode cX12_fact 22 = .ok (.getfield 192, 3) := by decide +kernel
theorem dX12_fact_25 : decode cX12_fact 25 = .ok (.iconst 3, 1) := by decide +kernel
theorem dX12_fact_26 : decode cX12_fact 26 = .ok (.iadd, 1) := by decide +kernel
theorem dX12_fact_27 : decode cX12_fact 27 = .ok (.putfield 192, 3) := by decide +kernel
theorem dX12_fact_30 : decode cX12_fact 30 = .ok (.iconst 0, 1) := by decide +kernel
theorem dX12_fact_31 : decode cX12_fact 31 = .ok (.ireturn, 1) := by decide +kernel
theorem dX12_fact_32 : decode cX12_fact 32 = .ok (.aload_n 0, 1) := by decide +kernel
theorem dX12_fact_33 : decode cX12_fact 33 = .ok (.invokevirtual 195, 3) := by decide +kernel
theorem dX12_fact_36 : decode cX12_fact 36 = .ok (.bipush 91, 2) := by decide +kernel
theorem dX12_fact_38 : decode cX12_fact 38 = .ok (.if_icmp .ne 21, 3) := by decide +kernel
theorem dX12_fact_41 : decode cX12_fact 41 = .ok (.aload_n 0, 1) := by decide +kernel
theorem dX12_fact_42 : decode cX12_fact 42 = .ok (.bipush 12, 2) := by decide +kernel
theorem dX12_fact_44 : decode cX12_fact 44 = .ok (.invokevirtual 270, 3) := by decide +kernel
theorem dX12_fact_47 : decode cX12_fact 47 = .ok (.aload_n 0, 1) := by decide +kernel
theorem dX12_fact_48 : decode cX12_fact 48 = .ok (.dup, 1) := by decide +kernel
theorem dX12_fact_49 : decode cX12_fact 49 = .ok (.getfield 192, 3) := by decide +kernel
theorem dX12_fact_52 : decode cX12_fact 52 = .ok (.iconst 1, 1) := by decide +kernel
theorem dX12_fact_53 : decode cX12_fact 53 = .ok (.iadd, 1) := by decide +kernel
theorem dX12_fact_54 : decode cX12_fact 54 = .ok (.putfield 192, 3) := by decide +kernel
theorem dX12_fact_57 : decode cX12_fact 57 = .ok (.iconst 0, 1) := by decide +kernel
theorem dX12_fact_58 : decode cX12_fact 58 = .ok (.ireturn, 1) := by decide +kernel
theorem dX12_fact_59 : decode cX12_fact 59 = .ok (.aload_n 0, 1) := by decide +kernel
theorem dX12_fact_60 : decode cX12_fact 60 = .ok (.invokevirtual 273, 3) := by decide +kernel
theorem dX12_fact_63 : decode cX12_fact 63 = .ok (.iconst 1, 1) := by decide +kernel
theorem dX12_fact_64 : decode cX12_fact 64 = .ok (.ireturn, 1) := by decide +kernel
theorem dX12_test_0 : decode cX12_test 0 = .ok (.aload_n 0, 1) := by decide +kernel
theorem dX12_test_1 : decode cX12_test 1 = .ok (.iconst 0, 1) := by decide +kernel
theorem dX12_test_2 : decode cX12_test 2 = .ok (.putfield 259, 3) := by decide +kernel
theorem dX12_test_5 : decode cX12_test 5 = .ok (.iconst 1, 1) := by decide +kernel
theorem dX12_test_6 : decode cX12_test 6 = .ok (.istore_n 1, 1) := by decide +kernel
theorem dX12_test_7 : decode cX12_test 7 = .ok (.iconst 1, 1) := by decide +kernel
theorem dX12_test_8 : decode cX12_test 8 = .ok (.istore_n 2, 1) := by decide +kernel
theorem dX12_test_9 : decode cX12_test 9 = .ok (.iload_n 2, 1) := by decide +kernel
theorem dX12_test_10 : decode cX12_test 10 = .ok (.ifCond .eq 192, 3) := by decide +kernel
theorem dX12_test_13 : decode cX12_test 13 = .ok (.aload_n 0, 1) := by decide +kernel
theorem dX12_test_14 : decode cX12_test 14 = .ok (.getfield 189, 3) := by decide +kernel
theorem dX12_test_17 : decode cX12_test 17 = .ok (.ifCond .ne 185, 3) := by decide +kernel
theorem dX12_test_20 : decode cX12_test 20 = .ok (.iload_n 1, 1) := by decide +kernel
theorem dX12_test_21 : decode cX12_test 21 = .ok (.ifCond .eq 19, 3) := by decide +kernel
theorem dX12_test_24 : decode cX12_test 24 = .ok (.aload_n 0, 1) := by decide +kernel
theorem dX12_test_25 : decode cX12_test 25 = .ok (.invokevirtual 276, 3) := by decide +kernel
theorem dX12_test_28 : decode cX12_test 28 = .ok (.ifCond .ne 7, 3) := by decide +kernel
theorem dX12_test_31 : decode cX12_test 31 = .ok (.iconst 1, 1) := by decide +kernel
theorem dX12_test_32 : decode cX12_test 32 = .ok (.goto 4, 3) := by decide +kernel
theorem dX12_test_35 : decode cX12_test 35 = .ok (.iconst 0, 1) := by decide +kernel
theorem dX12_test_36 : decode cX12_test 36 = .ok (.istore_n 1, 1) := by decide +kernel
theorem dX12_test_37 : decode cX12_test 37 = .ok (.goto (-28), 3) := by decide +kernel
theorem dX12_test_40 : decode cX12_test 40 = .ok (.aload_n 0, 1) := by decide +kernel
theorem dX12_test_41 : decode cX12_test 41 = .ok (.bipush 9, 2) := by decide +kernel
theorem dX12_test_43 : decode cX12_test 43 = .ok (.invokevirtual 279, 3) := by decide +kernel
theorem dX12_test_46 : decode cX12_test 46 = .ok (.aload_n 0, 1) := by decide +kernel
theorem dX12_test_47 : decode cX12_test 47 = .ok (.invokevirtual 211, 3) := by decide +kernel
theorem dX12_test_50 : decode cX12_test 50 = .ok (.aload_n 0, 1) := by decide +kernel
theorem dX12_test_51 : decode cX12_test 51 = .ok (.ldc_w 282, 3) := by decide +kernel
theorem dX12_test_54 : decode cX12_test 54 = .ok (.invokevirtual 214, 3) := by decide +kernel
theorem dX12_test_57 : decode cX12_test 57 = .ok (.istore_n 3, 1) := by decide +kernel
theorem dX12_test_58 : decode cX12_test 58 = .ok (.aload_n 0, 1) := by decide +kernel
theorem dX12_test_59 : decode cX12_test 59 = .ok (.ldc_w 284, 3) := by decide +kernel
theorem dX12_test_62 : decode cX12_test 62 = .ok (.invokevirtual 214, 3) := by decide +kernel
theorem dX12_test_65 : decode cX12_test 65 = .ok (.istore 4, 2) := by decide +kernel
theorem dX12_test_67 : decode cX12_test 67 = .ok (.aload_n 0, 1) := by decide +kernel
theorem dX12_test_68 : decode cX12_test 68 = .ok (.bipush 10, 2) := by decide +kernel
theorem dX12_test_70 : decode cX12_test 70 = .ok (.invokevirtual 279, 3) := by decide +kernel
theorem dX12_test_73 : decode cX12_test 73 = .ok (.iload_n 3, 1) := by decide +kernel
theorem dX12_test_74 : decode cX12_test 74 = .ok (.ifCond .ne 8, 3) := by decide +kernel
theorem dX12_test_77 : decode cX12_test 77 = .ok (.iload 4, 2) := by decide +kernel
theorem dX12_test_79 : decode cX12_test 79 = .ok (.ifCond .eq 52, 3) := by decide +kernel
theorem dX12_test_82 : decode cX12_test 82 = .ok (.iload 4, 2) := by decide +kernel
theorem dX12_test_84 : decode cX12_test 84 = .ok (.ifCond .eq 9, 3) := by decide +kernel
theorem dX12_test_87 : decode cX12_test 87 = .ok (.aload_n 0, 1) := by decide +kernel
theorem dX12_test_88 : decode cX12_test 88 = .ok (.bipush 11, 2) := by decide +kernel
theorem dX12_test_90 : decode cX12_test 90 = .ok (.invokevirtual 279, 3) := by decide +kernel
theorem dX12_test_93 : decode cX12_test 93 = .ok (.aload_n 0, 1) := by decide +kernel
theorem dX12_test_94 : decode cX12_test 94 = .ok (.iload_n 3, 1) := by decide +kernel
theorem dX12_test_95 : decode cX12_test 95 = .ok (.ifCond .eq 8, 3) := by decide +kernel
theorem dX12_test_98 : decode cX12_test 98 = .ok (.bipush 10, 2) := by decide +kernel
theorem dX12_test_100 : decode cX12_test 100 = .ok (.goto 5, 3) := by decide +kernel
theorem dX12_test_103 : decode cX12_test 103 = .ok (.bipush 11, 2) := by decide +kernel
theorem dX12_test_105 : decode cX12_test 105 = .ok (.invokevirtual 270, 3) := by decide +kernel
theorem dX12_test_108 : decode cX12_test 108 = .ok (.aload_n 0, 1) := by decide +kernel
theorem dX12_test_109 : decode cX12_test 109 = .ok (.dup, 1) := by decide +kernel
theorem dX12_test_110 : decode cX12_test 110 = .ok (.getfield 192, 3) := by decide +kernel
theorem dX12_test_113 : decode cX12_test 113 = .ok (.iload_n 3, 1) := by decide +kernel
theorem dX12_test_114 : decode cX12_test 114 = .ok (.ifCond .eq 7, 3) := by decide +kernel
theorem dX12_test_117 : decode cX12_test 117 = .ok (.iconst 3, 1) := by decide +kernel
theorem dX12_test_118 : decode cX12_test 118 = .ok (.goto 4, 3) := by decide +kernel
theorem dX12_test_121 : decode cX12_test 121 = .ok (.iconst 2, 1) := by decide +kernel
theorem dX12_test_122 : decode cX12_test 122 = .ok (.iadd, 1) := by decide +kernel
theorem dX12_test_123 : decode cX12_test 123 = .ok (.putfield 192, 3) := by decide +kernel
theorem dX12_test_126 : decode cX12_test 126 = .ok (.iconst 1, 1) := by decide +kernel
theorem dX12_test_127 : decode cX12_test 127 = .ok (.istore_n 1, 1) := by decide +kernel
theorem dX12_test_128 : decode cX12_test 128 = .ok (.goto 71, 3) := by decide +kernel
theorem dX12_test_131 : decode cX12_test 131 = .ok (.aload_n 0, 1) := by decide +kernel
theorem dX12_test_132 : decode cX12_test 132 = .ok (.bipush 11, 2) := by decide +kernel
theorem dX12_test_134 : decode cX12_test 134 = .ok (.invokevirtual 279, 3) := by decide +kernel
theorem dX12_test_137 : decode cX12_test 137 = .ok (.aload_n 0, 1) := by decide +kernel
theorem dX12_test_138 : decode cX12_test 138 = .ok (.invokevirtual 265, 3) := by decide +kernel
theorem dX12_test_141 : decode cX12_test 141 = .ok (.bipush 12, 2) := by decide +kernel
theorem dX12_test_143 : decode cX12_test 143 = .ok (.if_icmp .ne 54, 3) := by decide +kernel
theorem dX12_test_146 : decode cX12_test 146 = .ok (.aload_n 0, 1) := by decide +kernel
theorem dX12_test_147 : decode cX12_test 147 = .ok (.invokevirtual 195, 3) := by decide +kernel
theorem dX12_test_150 : decode cX12_test 150 = .ok (.bipush 93, 2) := by decide +kernel
theorem dX12_test_152 : decode cX12_test 152 = .ok (.if_icmp .eq 12, 3) := by decide +kernel
theorem dX12_test_155 : decode cX12_test 155 = .ok (.aload_n 0, 1) := by decide +kernel
theorem dX12_test_156 : decode cX12_test 156 = .ok (.iconst 0, 1) := by decide +kernel
theorem dX12_test_157 : decode cX12_test 157 = .ok (.aload_n 0, 1) := by decide +kernel
theorem dX12_test_158 : decode cX12_test 158 = .ok (.getfield 192, 3) := by decide +kernel
theorem dX12_test_161 : decode cX12_test 161 = .ok (.invokevirtual 227, 3) := by decide +kernel
theorem dX12_test_164 : decode cX12_test 164 = .ok (.aload_n 0, 1) := by decide +kernel
theorem dX12_test_165 : decode cX12_test 165 = .ok (.dup, 1) := by decide +kernel
theorem dX12_test_166 : decode cX12_test 166 = .ok (.getfield 192, 3) := by decide +kernel
theorem dX12_test_169 : decode cX12_test 169 = .ok (.iconst 1, 1) := by decide +kernel
theorem dX12_test_170 : decode cX12_test 170 = .ok (.iadd, 1) := by decide +kernel
theorem dX12_test_171 : decode cX12_test 171 = .ok (.putfield 192, 3) := by decide +kernel
theorem dX12_test_174 : decode cX12_test 174 = .ok (.aload_n 0, 1) := by decide +kernel
theorem dX12_test_175 : decode cX12_test 175 = .ok (.dup, 1) := by decide +kernel
theorem dX12_test_176 : decode cX12_test 176 = .ok (.getfield 259, 3) := by decide +kernel
theorem dX12_test_179 : decode cX12_test 179 = .ok (.iconst 1, 1) := by decide +kernel
theorem dX12_test_180 : decode cX12_test 180 = .ok (.isub, 1) := by decide +kernel
theorem dX12_test_181 : decode cX12_test 181 = .ok (.putfield 259, 3) := by decide +kernel
theorem dX12_test_184 : decode cX12_test 184 = .ok (.aload_n 0, 1) := by decide +kernel
theorem dX12_test_185 : decode cX12_test 185 = .ok (.dup, 1) := by decide +kernel
theorem dX12_test_186 : decode cX12_test 186 = .ok (.getfield 262, 3) := by decide +kernel
theorem dX12_test_189 : decode cX12_test 189 = .ok (.iconst 1, 1) := by decide +kernel
theorem dX12_test_190 : decode cX12_test 190 = .ok (.isub, 1) := by decide +kernel
theorem dX12_test_191 : decode cX12_test 191 = .ok (.putfield 262, 3) := by decide +kernel
theorem dX12_test_194 : decode cX12_test 194 = .ok (.goto 5, 3) := by decide +kernel
theorem dX12_test_197 : decode cX12_test 197 = .ok (.iconst 0, 1) := by decide +kernel
theorem dX12_test_198 : decode cX12_test 198 = .ok (.istore_n 2, 1) := by decide +kernel
theorem dX12_test_199 : decode cX12_test 199 = .ok (.goto (-190), 3) := by decide +kernel
theorem dX12_test_202 : decode cX12_test 202 = .ok (.return_, 1) := by decide +kernel
theorem dX12_amount_0 : decode cX12_amount 0 = .ok (.aload_n 0, 1) := by decide +kernel
theorem dX12_amount_1 : decode cX12_amount 1 = .ok (.invokevirtual 211, 3) := by decide +kernel
theorem dX12_amount_4 : decode cX12_amount 4 = .ok (.aload_n 0, 1) := by decide +kernel
theorem dX12_amount_5 : decode cX12_amount 5 = .ok (.getfield 192, 3) := by decide +kernel
theorem dX12_amount_8 : decode cX12_amount 8 = .ok (.istore_n 3, 1) := by decide +kernel
theorem dX12_amount_9 : decode cX12_amount 9 = .ok (.aload_n 0, 1) := by decide +kernel
theorem dX12_amount_10 : decode cX12_amount 10 = .ok (.getfield 189, 3) := by decide +kernel
theorem dX12_amount_13 : decode cX12_amount 13 = .ok (.ifCond .ne 12, 3) := by decide +kernel
theorem dX12_amount_16 : decode cX12_amount 16 = .ok (.aload_n 0, 1) := by decide +kernel
theorem dX12_amount_17 : decode cX12_amount 17 = .ok (.ldc 235, 2) := by decide +kernel
theorem dX12_amount_19 : decode cX12_amount 19 = .ok (.invokevirtual 236, 3) := by decide +kernel
theorem dX12_amount_22 : decode cX12_amount 22 = .ok (.goto 4, 3) := by decide +kernel
theorem dX12_amount_25 : decode cX12_amount 25 = .ok (.iconst 0, 1) := by decide +kernel
theorem dX12_amount_26 : decode cX12_amount 26 = .ok (.istore 4, 2) := by decide +kernel
theorem dX12_amount_28 : decode cX12_amount 28 = .ok (.aload_n 0, 1) := by decide +kernel
theorem dX12_amount_29 : decode cX12_amount 29 = .ok (.getfield 189, 3) := by decide +kernel
theorem dX12_amount_32 : decode cX12_amount 32 = .ok (.ifCond .ne 22, 3) := by decide +kernel
theorem dX12_amount_35 : decode cX12_amount 35 = .ok (.iload 4, 2) := by decide +kernel
theorem dX12_amount_37 : decode cX12_amount 37 = .ok (.i2l, 1) := by decide +kernel
theorem dX12_amount_38 : decode cX12_amount 38 = .ok (.iload_n 1, 1) := by decide +kernel
theorem dX12_amount_39 : decode cX12_amount 39 = .ok (.i2l, 1) := by decide +kernel
theorem dX12_amount_40 : decode cX12_amount 40 = .ok (.iload_n 2, 1) := by decide +kernel
theorem dX12_amount_41 : decode cX12_amount 41 = .ok (.i2l, 1) := by decide +kernel
theorem dX12_amount_42 : decode cX12_amount 42 = .ok (.invokestatic 159, 3) := by decide +kernel
theorem dX12_amount_45 : decode cX12_amount 45 = .ok (.ifCond .ne 9, 3) := by decide +kernel
theorem dX12_amount_48 : decode cX12_amount 48 = .ok (.aload_n 0, 1) := by decide +kernel
theorem dX12_amount_49 : decode cX12_amount 49 = .ok (.iconst 1, 1) := by decide +kernel
theorem dX12_amount_50 : decode cX12_amount 50 = .ok (.iload_n 3, 1) := by decide +kernel
theorem dX12_amount_51 : decode cX12_amount 51 = .ok (.invokevirtual 227, 3) := by decide +kernel
theorem dX12_amount_54 : decode cX12_amount 54 = .ok (.iload 4, 2) := by decide +kernel
theorem dX12_amount_56 : decode cX12_amount 56 = .ok (.ireturn, 1) := by decide +kernel
theorem dX12_plateauWord_0 : decode cX12_plateauWord 0 = .ok (.iload_n 0, 1) := by decide +kernel
theorem dX12_plateauWord_1 : decode cX12_plateauWord 1 = .ok (.tableswitch 38 0 2 #[27, 31, 34], 27) := by decide +kernel
theorem dX12_plateauWord_28 : decode cX12_plateauWord 28 = .ok (.ldc_w 286, 3) := by decide +kernel
theorem dX12_plateauWord_31 : decode cX12_plateauWord 31 = .ok (.areturn, 1) := by decide +kernel
theorem dX12_plateauWord_32 : decode cX12_plateauWord 32 = .ok (.ldc 170, 2) := by decide +kernel
theorem dX12_plateauWord_34 : decode cX12_plateauWord 34 = .ok (.areturn, 1) := by decide +kernel
theorem dX12_plateauWord_35 : decode cX12_plateauWord 35 = .ok (.ldc_w 288, 3) := by decide +kernel
theorem dX12_plateauWord_38 : decode cX12_plateauWord 38 = .ok (.areturn, 1) := by decide +kernel
theorem dX12_plateauWord_39 : decode cX12_plateauWord 39 = .ok (.ldc_w 290, 3) := by decide +kernel
theorem dX12_plateauWord_42 : decode cX12_plateauWord 42 = .ok (.areturn, 1) := by decide +kernel
theorem dX12_plateauPart_0 : decode cX12_plateauPart 0 = .ok (.aload_n 0, 1) := by decide +kernel
theorem dX12_plateauPart_1 : decode cX12_plateauPart 1 = .ok (.getfield 64, 3) := by decide +kernel
theorem dX12_plateauPart_4 : decode cX12_plateauPart 4 = .ok (.iconst 0, 1) := by decide +kernel
theorem dX12_plateauPart_5 : decode cX12_plateauPart 5 = .ok (.iaload, 1) := by decide +kernel
theorem dX12_plateauPart_6 : decode cX12_plateauPart 6 = .ok (.aload_n 0, 1) := by decide +kernel
theorem dX12_plateauPart_7 : decode cX12_plateauPart 7 = .ok (.getfield 64, 3) := by decide +kernel
theorem dX12_plateauPart_10 : decode cX12_plateauPart 10 = .ok (.iconst 0, 1) := by decide +kernel
theorem dX12_plateauPart_11 : decode cX12_plateauPart 11 = .ok (.iaload, 1) := by decide +kernel
theorem dX12_plateauPart_12 : decode cX12_plateauPart 12 = .ok (.imul, 1) := by decide +kernel
theorem dX12_plateauPart_13 : decode cX12_plateauPart 13 = .ok (.iconst 1, 1) := by decide +kernel
theorem dX12_plateauPart_14 : decode cX12_plateauPart 14 = .ok (.isub, 1) := by decide +kernel
theorem dX12_plateauPart_15 : decode cX12_plateauPart 15 = .ok (.istore_n 2, 1) := by decide +kernel
theorem dX12_plateauPart_16 : decode cX12_plateauPart 16 = .ok (.iload_n 1, 1) := by decide +kernel
theorem dX12_plateauPart_17 : decode cX12_plateauPart 17 = .ok (.tableswitch 163 0 2 #[27, 58, 115], 27) := by decide +kernel
theorem dX12_plateauPart_44 : decode cX12_plateauPart 44 = .ok (.aload_n 0, 1) := by decide +kernel
theorem dX12_plateauPart_45 : decode cX12_plateauPart 45 = .ok (.iconst 2, 1) := by decide +kernel
theorem dX12_plateauPart_46 : decode cX12_plateauPart 46 = .ok (.bipush 6, 2) := by decide +kernel
theorem dX12_plateauPart_48 : decode cX12_plateauPart 48 = .ok (.invokevirtual 292, 3) := by decide +kernel
theorem dX12_plateauPart_51 : decode cX12_plateauPart 51 = .ok (.istore_n 3, 1) := by decide +kernel
theorem dX12_plateauPart_52 : decode cX12_plateauPart 52 = .ok (.aload_n 0, 1) := by decide +kernel
theorem dX12_plateauPart_53 : decode cX12_plateauPart 53 = .ok (.getfield 64, 3) := by decide +kernel
theorem dX12_plateauPart_56 : decode cX12_plateauPart 56 = .ok (.iconst 1, 1) := by decide +kernel
theorem dX12_plateauPart_57 : decode cX12_plateauPart 57 = .ok (.aload_n 0, 1) := by decide +kernel
theorem dX12_plateauPart_58 : decode cX12_plateauPart 58 = .ok (.iconst 1, 1) := by decide +kernel
theorem dX12_plateauPart_59 : decode cX12_plateauPart 59 = .ok (.bipush 9, 2) := by decide +kernel
theorem dX12_plateauPart_61 : decode cX12_plateauPart 61 = .ok (.invokevirtual 292, 3) := by decide +kernel
theorem dX12_plateauPart_64 : decode cX12_plateauPart 64 = .ok (.iastore, 1) := by decide +kernel
theorem dX12_plateauPart_65 : decode cX12_plateauPart 65 = .ok (.aload_n 0, 1) := by decide +kernel
theorem dX12_plateauPart_66 : decode cX12_plateauPart 66 = .ok (.getfield 64, 3) := by decide +kernel
theorem dX12_plateauPart_69 : decode cX12_plateauPart 69 = .ok (.iconst 0, 1) := by decide +kernel
theorem dX12_plateauPart_70 : decode cX12_plateauPart 70 = .ok (.iload_n 3, 1) := by decide +kernel
theorem dX12_plateauPart_71 : decode cX12_plateauPart 71 = .ok (.iastore, 1) := by decide +kernel
theorem dX12_plateauPart_72 : decode cX12_plateauPart 72 = .ok (.goto 153, 3) := by decide +kernel
theorem dX12_plateauPart_75 : decode cX12_plateauPart 75 = .ok (.aload_n 0, 1) := by decide +kernel
theorem dX12_plateauPart_76 : decode cX12_plateauPart 76 = .ok (.getfield 64, 3) := by decide +kernel
theorem dX12_plateauPart_79 : decode cX12_plateauPart 79 = .ok (.iconst 2, 1) := by decide +kernel
theorem dX12_plateauPart_80 : decode cX12_plateauPart 80 = .ok (.iaload, 1) := by decide +kernel
theorem dX12_plateauPart_81 : decode cX12_plateauPart 81 = .ok (.istore_n 3, 1) := by decide +kernel
theorem dX12_plateauPart_82 : decode cX12_plateauPart 82 = .ok (.aload_n 0, 1) := by decide +kernel
theorem dX12_plateauPart_83 : decode cX12_plateauPart 83 = .ok (.getfield 67, 3) := by decide +kernel
theorem dX12_plateauPart_86 : decode cX12_plateauPart 86 = .ok (.iload_n 3, 1) := by decide +kernel
theorem dX12_plateauPart_87 : decode cX12_plateauPart 87 = .ok (.aload_n 0, 1) := by decide +kernel
theorem dX12_plateauPart_88 : decode cX12_plateauPart 88 = .ok (.iconst 0, 1) := by decide +kernel
theorem dX12_plateauPart_89 : decode cX12_plateauPart 89 = .ok (.iload_n 2, 1) := by decide +kernel
theorem dX12_plateauPart_90 : decode cX12_plateauPart 90 = .ok (.invokevirtual 292, 3) := by decide +kernel
theorem dX12_plateauPart_93 : decode cX12_plateauPart 93 = .ok (.iastore, 1) := by decide +kernel
theorem dX12_plateauPart_94 : decode cX12_plateauPart 94 = .ok (.aload_n 0, 1) := by decide +kernel
theorem dX12_plateauPart_95 : decode cX12_plateauPart 95 = .ok (.getfield 73, 3) := by decide +kernel
theorem dX12_plateauPart_98 : decode cX12_plateauPart 98 = .ok (.iload_n 3, 1) := by decide +kernel
theorem dX12_plateauPart_99 : decode cX12_plateauPart 99 = .ok (.aload_n 0, 1) := by decide +kernel
theorem dX12_plateauPart_100 : decode cX12_plateauPart 100 = .ok (.iconst 0, 1) := by decide +kernel
theorem dX12_plateauPart_101 : decode cX12_plateauPart 101 = .ok (.bipush 20, 2) := by decide +kernel
theorem dX12_plateauPart_103 : decode cX12_plateauPart 103 = .ok (.invokevirtual 292, 3) := by decide +kernel
theorem dX12_plateauPart_106 : decode cX12_plateauPart 106 = .ok (.iastore, 1) := by decide +kernel
theorem dX12_plateauPart_107 : decode cX12_plateauPart 107 = .ok (.aload_n 0, 1) := by decide +kernel
theorem dX12_plateauPart_108 : decode cX12_plateauPart 108 = .ok (.getfield 70, 3) := by decide +kernel
theorem dX12_plateauPart_111 : decode cX12_plateauPart 111 = .ok (.iload_n 3, 1) := by decide +kernel
theorem dX12_plateauPart_112 : decode cX12_plateauPart 112 = .ok (.aload_n 0, 1) := by decide +kernel
theorem dX12_plateauPart_113 : decode cX12_plateauPart 113 = .ok (.iconst 0, 1) := by decide +kernel
theorem dX12_plateauPart_114 : decode cX12_plateauPart 114 = .ok (.iconst 3, 1) := by decide +kernel
theorem dX12_plateauPart_115 : decode cX12_plateauPart 115 = .ok (.invokevirtual 292, 3) := by decide +kernel
theorem dX12_plateauPart_118 : decode cX12_plateauPart 118 = .ok (.iastore, 1) := by decide +kernel
theorem dX12_plateauPart_119 : decode cX12_plateauPart 119 = .ok (.aload_n 0, 1) := by decide +kernel
theorem dX12_plateauPart_120 : decode cX12_plateauPart 120 = .ok (.getfield 64, 3) := by decide +kernel
theorem dX12_plateauPart_123 : decode cX12_plateauPart 123 = .ok (.iconst 2, 1) := by decide +kernel
theorem dX12_plateauPart_124 : decode cX12_plateauPart 124 = .ok (.dup2, 1) := by decide +kernel
theorem dX12_plateauPart_125 : decode cX12_plateauPart 125 = .ok (.iaload, 1) := by decide +kernel
theorem dX12_plateauPart_126 : decode cX12_plateauPart 126 = .ok (.iconst 1, 1) := by decide +kernel
theorem dX12_plateauPart_127 : decode cX12_plateauPart 127 = .ok (.iadd, 1) := by decide +kernel
theorem dX12_plateauPart_128 : decode cX12_plateauPart 128 = .ok (.iastore, 1) := by decide +kernel
theorem dX12_plateauPart_129 : decode cX12_plateauPart 129 = .ok (.goto 96, 3) := by decide +kernel
theorem dX12_plateauPart_132 : decode cX12_plateauPart 132 = .ok (.aload_n 0, 1) := by decide +kernel
theorem dX12_plateauPart_133 : decode cX12_plateauPart 133 = .ok (.getfield 76, 3) := by decide +kernel
theorem dX12_plateauPart_136 : decode cX12_plateauPart 136 = .ok (.aload_n 0, 1) := by decide +kernel
theorem dX12_plateauPart_137 : decode cX12_plateauPart 137 = .ok (.getfield 64, 3) := by decide +kernel
theorem dX12_plateauPart_140 : decode cX12_plateauPart 140 = .ok (.iconst 3, 1) := by decide +kernel
theorem dX12_plateauPart_141 : decode cX12_plateauPart 141 = .ok (.iaload, 1) := by decide +kernel
theorem dX12_plateauPart_142 : decode cX12_plateauPart 142 = .ok (.aload_n 0, 1) := by decide +kernel
theorem dX12_plateauPart_143 : decode cX12_plateauPart 143 = .ok (.iconst 0, 1) := by decide +kernel
theorem dX12_plateauPart_144 : decode cX12_plateauPart 144 = .ok (.iload_n 2, 1) := by decide +kernel
theorem dX12_plateauPart_145 : decode cX12_plateauPart 145 = .ok (.invokevirtual 292, 3) := by decide +kernel
theorem dX12_plateauPart_148 : decode cX12_plateauPart 148 = .ok (.iastore, 1) := by decide +kernel
theorem dX12_plateauPart_149 : decode cX12_plateauPart 149 = .ok (.aload_n 0, 1) := by decide +kernel
theorem dX12_plateauPart_150 : decode cX12_plateauPart 150 = .ok (.getfield 79, 3) := by decide +kernel
theorem dX12_plateauPart_153 : decode cX12_plateauPart 153 = .ok (.aload_n 0, 1) := by decide +kernel
theorem dX12_plateauPart_154 : decode cX12_plateauPart 154 = .ok (.getfield 64, 3) := by decide +kernel
theorem dX12_plateauPart_157 : decode cX12_plateauPart 157 = .ok (.iconst 3, 1) := by decide +kernel
theorem dX12_plateauPart_158 : decode cX12_plateauPart 158 = .ok (.iaload, 1) := by decide +kernel
theorem dX12_plateauPart_159 : decode cX12_plateauPart 159 = .ok (.aload_n 0, 1) := by decide +kernel
theorem dX12_plateauPart_160 : decode cX12_plateauPart 160 = .ok (.iconst 1, 1) := by decide +kernel
theorem dX12_plateauPart_161 : decode cX12_plateauPart 161 = .ok (.bipush 20, 2) := by decide +kernel
theorem dX12_plateauPart_163 : decode cX12_plateauPart 163 = .ok (.invokevirtual 292, 3) := by decide +kernel
theorem dX12_plateauPart_166 : decode cX12_plateauPart 166 = .ok (.iastore, 1) := by decide +kernel
theorem dX12_plateauPart_167 : decode cX12_plateauPart 167 = .ok (.aload_n 0, 1) := by decide +kernel
theorem dX12_plateauPart_168 : decode cX12_plateauPart 168 = .ok (.getfield 64, 3) := by decide +kernel
theorem dX12_plateauPart_171 : decode cX12_plateauPart 171 = .ok (.iconst 3, 1) := by decide +kernel
theorem dX12_plateauPart_172 : decode cX12_plateauPart 172 = .ok (.dup2, 1) := by decide +kernel
theorem dX12_plateauPart_173 : decode cX12_plateauPart 173 = .ok (.iaload, 1) := by decide +kernel
theorem dX12_plateauPart_174 : decode cX12_plateauPart 174 = .ok (.iconst 1, 1) := by decide +kernel
theorem dX12_plateauPart_175 : decode cX12_plateauPart 175 = .ok (.iadd, 1) := by decide +kernel
theorem dX12_plateauPart_176 : decode cX12_plateauPart 176 = .ok (.iastore, 1) := by decide +kernel
theorem dX12_plateauPart_177 : decode cX12_plateauPart 177 = .ok (.goto 48, 3) := by decide +kernel
theorem dX12_plateauPart_180 : decode cX12_plateauPart 180 = .ok (.aload_n 0, 1) := by decide +kernel
theorem dX12_plateauPart_181 : decode cX12_plateauPart 181 = .ok (.getfield 82, 3) := by decide +kernel
theorem dX12_plateauPart_184 : decode cX12_plateauPart 184 = .ok (.aload_n 0, 1) := by decide +kernel
theorem dX12_plateauPart_185 : decode cX12_plateauPart 185 = .ok (.getfield 64, 3) := by decide +kernel
theorem dX12_plateauPart_188 : decode cX12_plateauPart 188 = .ok (.iconst 4, 1) := by decide +kernel
theorem dX12_plateauPart_189 : decode cX12_plateauPart 189 = .ok (.iaload, 1) := by decide +kernel
theorem dX12_plateauPart_190 : decode cX12_plateauPart 190 = .ok (.aload_n 0, 1) := by decide +kernel
theorem dX12_plateauPart_191 : decode cX12_plateauPart 191 = .ok (.iconst 0, 1) := by decide +kernel
theorem dX12_plateauPart_192 : decode cX12_plateauPart 192 = .ok (.iload_n 2, 1) := by decide +kernel
theorem dX12_plateauPart_193 : decode cX12_plateauPart 193 = .ok (.invokevirtual 292, 3) := by decide +kernel
theorem dX12_plateauPart_196 : decode cX12_plateauPart 196 = .ok (.iastore, 1) := by decide +kernel
theorem dX12_plateauPart_197 : decode cX12_plateauPart 197 = .ok (.aload_n 0, 1) := by decide +kernel
theorem dX12_plateauPart_198 : decode cX12_plateauPart 198 = .ok (.getfield 85, 3) := by decide +kernel
theorem dX12_plateauPart_201 : decode cX12_plateauPart 201 = .ok (.aload_n 0, 1) := by decide +kernel
theorem dX12_plateauPart_202 : decode cX12_plateauPart 202 = .ok (.getfield 64, 3) := by decide +kernel
theorem dX12_plateauPart_205 : decode cX12_plateauPart 205 = .ok (.iconst 4, 1) := by decide +kernel
theorem dX12_plateauPart_206 : decode cX12_plateauPart 206 = .ok (.iaload, 1) := by decide +kernel
theorem dX12_plateauPart_207 : decode cX12_plateauPart 207 = .ok (.aload_n 0, 1) := by decide +kernel
theorem dX12_plateauPart_208 : decode cX12_plateauPart 208 = .ok (.iconst 0, 1) := by decide +kernel
theorem dX12_plateauPart_209 : decode cX12_plateauPart 209 = .ok (.bipush 40, 2) := by decide +kernel
theorem dX12_plateauPart_211 : decode cX12_plateauPart 211 = .ok (.invokevirtual 292, 3) := by decide +kernel
theorem dX12_plateauPart_214 : decode cX12_plateauPart 214 = .ok (.iastore, 1) := by decide +kernel
theorem dX12_plateauPart_215 : decode cX12_plateauPart 215 = .ok (.aload_n 0, 1) := by decide +kernel
theorem dX12_plateauPart_216 : decode cX12_plateauPart 216 = .ok (.getfield 64, 3) := by decide +kernel
theorem dX12_plateauPart_219 : decode cX12_plateauPart 219 = .ok (.iconst 4, 1) := by decide +kernel
theorem dX12_plateauPart_220 : decode cX12_plateauPart 220 = .ok (.dup2, 1) := by decide +kernel
theorem dX12_plateauPart_221 : decode cX12_plateauPart 221 = .ok (.iaload, 1) := by decide +kernel
theorem dX12_plateauPart_222 : decode cX12_plateauPart 222 = .ok (.iconst 1, 1) := by decide +kernel
theorem dX12_plateauPart_223 : decode cX12_plateauPart 223 = .ok (.iadd, 1) := by decide +kernel
theorem dX12_plateauPart_224 : decode cX12_plateauPart 224 = .ok (.iastore, 1) := by decide +kernel
theorem dX12_plateauPart_225 : decode cX12_plateauPart 225 = .ok (.return_, 1) := by decide +kernel
theorem dX12_isFull_0 : decode cX12_isFull 0 = .ok (.iload_n 2, 1) := by decide +kernel
theorem dX12_isFull_1 : decode cX12_isFull 1 = .ok (.bipush 40, 2) := by decide +kernel
theorem dX12_isFull_3 : decode cX12_isFull 3 = .ok (.if_icmp .eq 24, 3) := by decide +kernel
theorem dX12_isFull_6 : decode cX12_isFull 6 = .ok (.iload_n 1, 1) := by decide +kernel
theorem dX12_isFull_7 : decode cX12_isFull 7 = .ok (.ifCond .ne 7, 3) := by decide +kernel
theorem dX12_isFull_10 : decode cX12_isFull 10 = .ok (.iconst 1, 1) := by decide +kernel
theorem dX12_isFull_11 : decode cX12_isFull 11 = .ok (.goto 4, 3) := by decide +kernel
theorem dX12_isFull_14 : decode cX12_isFull 14 = .ok (.iconst 0, 1) := by decide +kernel
theorem dX12_isFull_15 : decode cX12_isFull 15 = .ok (.iload_n 2, 1) := by decide +kernel
theorem dX12_isFull_16 : decode cX12_isFull 16 = .ok (.ifCond .ne 7, 3) := by decide +kernel
theorem dX12_isFull_19 : decode cX12_isFull 19 = .ok (.iconst 1, 1) := by decide +kernel
theorem dX12_isFull_20 : decode cX12_isFull 20 = .ok (.goto 4, 3) := by decide +kernel
theorem dX12_isFull_23 : decode cX12_isFull 23 = .ok (.iconst 0, 1) := by decide +kernel
theorem dX12_isFull_24 : decode cX12_isFull 24 = .ok (.if_icmp .eq 5, 3) := by decide +kernel
theorem dX12_isFull_27 : decode cX12_isFull 27 = .ok (.iconst 1, 1) := by decide +kernel
theorem dX12_isFull_28 : decode cX12_isFull 28 = .ok (.ireturn, 1) := by decide +kernel
theorem dX12_isFull_29 : decode cX12_isFull 29 = .ok (.iload_n 1, 1) := by decide +kernel
theorem dX12_isFull_30 : decode cX12_isFull 30 = .ok (.iconst 1, 1) := by decide +kernel
theorem dX12_isFull_31 : decode cX12_isFull 31 = .ok (.if_icmp .ne 14, 3) := by decide +kernel
theorem dX12_isFull_34 : decode cX12_isFull 34 = .ok (.aload_n 0, 1) := by decide +kernel
theorem dX12_isFull_35 : decode cX12_isFull 35 = .ok (.getfield 64, 3) := by decide +kernel
theorem dX12_isFull_38 : decode cX12_isFull 38 = .ok (.iconst 2, 1) := by decide +kernel
theorem dX12_isFull_39 : decode cX12_isFull 39 = .ok (.iaload, 1) := by decide +kernel
theorem dX12_isFull_40 : decode cX12_isFull 40 = .ok (.bipush 6, 2) := by decide +kernel
theorem dX12_isFull_42 : decode cX12_isFull 42 = .ok (.if_icmp .eq 33, 3) := by decide +kernel
theorem dX12_isFull_45 : decode cX12_isFull 45 = .ok (.iload_n 1, 1) := by decide +kernel
theorem dX12_isFull_46 : decode cX12_isFull 46 = .ok (.iconst 2, 1) := by decide +kernel
theorem dX12_isFull_47 : decode cX12_isFull 47 = .ok (.if_icmp .ne 13, 3) := by decide +kernel
theorem dX12_isFull_50 : decode cX12_isFull 50 = .ok (.aload_n 0, 1) := by decide +kernel
theorem dX12_isFull_51 : decode cX12_isFull 51 = .ok (.getfield 64, 3) := by decide +kernel
theorem dX12_isFull_54 : decode cX12_isFull 54 = .ok (.iconst 3, 1) := by decide +kernel
theorem dX12_isFull_55 : decode cX12_isFull 55 = .ok (.iaload, 1) := by decide +kernel
theorem dX12_isFull_56 : decode cX12_isFull 56 = .ok (.iconst 4, 1) := by decide +kernel
theorem dX12_isFull_57 : decode cX12_isFull 57 = .ok (.if_icmp .eq 18, 3) := by decide +kernel
theorem dX12_isFull_60 : decode cX12_isFull 60 = .ok (.iload_n 1, 1) := by decide +kernel
theorem dX12_isFull_61 : decode cX12_isFull 61 = .ok (.iconst 3, 1) := by decide +kernel
theorem dX12_isFull_62 : decode cX12_isFull 62 = .ok (.if_icmp .ne 17, 3) := by decide +kernel
theorem dX12_isFull_65 : decode cX12_isFull 65 = .ok (.aload_n 0, 1) := by decide +kernel
theorem dX12_isFull_66 : decode cX12_isFull 66 = .ok (.getfield 64, 3) := by decide +kernel
theorem dX12_isFull_69 : decode cX12_isFull 69 = .ok (.iconst 4, 1) := by decide +kernel
theorem dX12_isFull_70 : decode cX12_isFull 70 = .ok (.iaload, 1) := by decide +kernel
theorem dX12_isFull_71 : decode cX12_isFull 71 = .ok (.iconst 4, 1) := by decide +kernel
theorem dX12_isFull_72 : decode cX12_isFull 72 = .ok (.if_icmp .ne 7, 3) := by decide +kernel
theorem dX12_isFull_75 : decode cX12_isFull 75 = .ok (.iconst 1, 1) := by decide +kernel
theorem dX12_isFull_76 : decode cX12_isFull 76 = .ok (.goto 4, 3) := by decide +kernel
theorem dX12_isFull_79 : decode cX12_isFull 79 = .ok (.iconst 0, 1) := by decide +kernel
theorem dX12_isFull_80 : decode cX12_isFull 80 = .ok (.ireturn, 1) := by decide +kernel
theorem dX12_plateauClause_0 : decode cX12_plateauClause 0 = .ok (.aload_n 0, 1) := by decide +kernel
theorem dX12_plateauClause_1 : decode cX12_plateauClause 1 = .ok (.invokevirtual 211, 3) := by decide +kernel
theorem dX12_plateauClause_4 : decode cX12_plateauClause 4 = .ok (.aload_n 0, 1) := by decide +kernel
theorem dX12_plateauClause_5 : decode cX12_plateauClause 5 = .ok (.getfield 192, 3) := by decide +kernel
theorem dX12_plateauClause_8 : decode cX12_plateauClause 8 = .ok (.istore_n 2, 1) := by decide +kernel
theorem dX12_plateauClause_9 : decode cX12_plateauClause 9 = .ok (.iconst 0, 1) := by decide +kernel
theorem dX12_plateauClause_10 : decode cX12_plateauClause 10 = .ok (.istore_n 3, 1) := by decide +kernel
theorem dX12_plateauClause_11 : decode cX12_plateauClause 11 = .ok (.iload_n 3, 1) := by decide +kernel
theorem dX12_plateauClause_12 : decode cX12_plateauClause 12 = .ok (.iconst 4, 1) := by decide +kernel
theorem dX12_plateauClause_13 : decode cX12_plateauClause 13 = .ok (.if_icmp .ge 20, 3) := by decide +kernel
theorem dX12_plateauClause_16 : decode cX12_plateauClause 16 = .ok (.aload_n 0, 1) := by decide +kernel
theorem dX12_plateauClause_17 : decode cX12_plateauClause 17 = .ok (.iload_n 3, 1) := by decide +kernel
theorem dX12_plateauClause_18 : decode cX12_plateauClause 18 = .ok (.invokestatic 296, 3) := by decide +kernel
theorem dX12_plateauClause_21 : decode cX12_plateauClause 21 = .ok (.invokevirtual 214, 3) := by decide +kernel
theorem dX12_plateauClause_24 : decode cX12_plateauClause 24 = .ok (.ifCond .ne 9, 3) := by decide +kernel
theorem dX12_plateauClause_27 : decode cX12_plateauClause 27 = .ok (.iinc 3 1, 3) := by decide +kernel
theorem dX12_plateauClause_30 : decode cX12_plateauClause 30 = .ok (.goto (-19), 3) := by decide +kernel
theorem dX12_plateauClause_33 : decode cX12_plateauClause 33 = .ok (.iload_n 3, 1) := by decide +kernel
theorem dX12_plateauClause_34 : decode cX12_plateauClause 34 = .ok (.iconst 4, 1) := by decide +kernel
theorem dX12_plateauClause_35 : decode cX12_plateauClause 35 = .ok (.if_icmp .ne 10, 3) := by decide +kernel
theorem dX12_plateauClause_38 : decode cX12_plateauClause 38 = .ok (.aload_n 0, 1) := by decide +kernel
theorem dX12_plateauClause_39 : decode cX12_plateauClause 39 = .ok (.iconst 0, 1) := by decide +kernel
theorem dX12_plateauClause_40 : decode cX12_plateauClause 40 = .ok (.iload_n 2, 1) := by decide +kernel
theorem dX12_plateauClause_41 : decode cX12_plateauClause 41 = .ok (.invokevirtual 227, 3) := by decide +kernel
theorem dX12_plateauClause_44 : decode cX12_plateauClause 44 = .ok (.return_, 1) := by decide +kernel
theorem dX12_plateauClause_45 : decode cX12_plateauClause 45 = .ok (.aload_n 0, 1) := by decide +kernel
theorem dX12_plateauClause_46 : decode cX12_plateauClause 46 = .ok (.iload_n 3, 1) := by decide +kernel
theorem dX12_plateauClause_47 : decode cX12_plateauClause 47 = .ok (.iload_n 1, 1) := by decide +kernel
theorem dX12_plateauClause_48 : decode cX12_plateauClause 48 = .ok (.invokevirtual 299, 3) := by decide +kernel
theorem dX12_plateauClause_51 : decode cX12_plateauClause 51 = .ok (.ifCond .eq 10, 3) := by decide +kernel
theorem dX12_plateauClause_54 : decode cX12_plateauClause 54 = .ok (.aload_n 0, 1) := by decide +kernel
theorem dX12_plateauClause_55 : decode cX12_plateauClause 55 = .ok (.iconst 4, 1) := by decide +kernel
theorem dX12_plateauClause_56 : decode cX12_plateauClause 56 = .ok (.iload_n 2, 1) := by decide +kernel
theorem dX12_plateauClause_57 : decode cX12_plateauClause 57 = .ok (.invokevirtual 227, 3) := by decide +kernel
theorem dX12_plateauClause_60 : decode cX12_plateauClause 60 = .ok (.return_, 1) := by decide +kernel
theorem dX12_plateauClause_61 : decode cX12_plateauClause 61 = .ok (.aload_n 0, 1) := by decide +kernel
theorem dX12_plateauClause_62 : decode cX12_plateauClause 62 = .ok (.dup, 1) := by decide +kernel
theorem dX12_plateauClause_63 : decode cX12_plateauClause 63 = .ok (.getfield 192, 3) := by decide +kernel
theorem dX12_plateauClause_66 : decode cX12_plateauClause 66 = .ok (.iload_n 3, 1) := by decide +kernel
theorem dX12_plateauClause_67 : decode cX12_plateauClause 67 = .ok (.invokestatic 296, 3) := by decide +kernel
theorem dX12_plateauClause_70 : decode cX12_plateauClause 70 = .ok (.invokevirtual 202, 3) := by decide +kernel
theorem dX12_plateauClause_73 : decode cX12_plateauClause 73 = .ok (.iadd, 1) := by decide +kernel
theorem dX12_plateauClause_74 : decode cX12_plateauClause 74 = .ok (.putfield 192, 3) := by decide +kernel
theorem dX12_plateauClause_77 : decode cX12_plateauClause 77 = .ok (.aload_n 0, 1) := by decide +kernel
theorem dX12_plateauClause_78 : decode cX12_plateauClause 78 = .ok (.iload_n 3, 1) := by decide +kernel
theorem dX12_plateauClause_79 : decode cX12_plateauClause 79 = .ok (.invokevirtual 303, 3) := by decide +kernel
theorem dX12_plateauClause_82 : decode cX12_plateauClause 82 = .ok (.return_, 1) := by decide +kernel
theorem dX12_copies_0 : decode cX12_copies 0 = .ok (.iconst 0, 1) := by decide +kernel
theorem dX12_copies_1 : decode cX12_copies 1 = .ok (.istore_n 2, 1) := by decide +kernel
theorem dX12_copies_2 : decode cX12_copies 2 = .ok (.iload_n 2, 1) := by decide +kernel
theorem dX12_copies_3 : decode cX12_copies 3 = .ok (.aload_n 0, 1) := by decide +kernel
theorem dX12_copies_4 : decode cX12_copies 4 = .ok (.arraylength, 1) := by decide +kernel
theorem dX12_copies_5 : decode cX12_copies 5 = .ok (.if_icmp .ge 15, 3) := by decide +kernel
theorem dX12_copies_8 : decode cX12_copies 8 = .ok (.aload_n 1, 1) := by decide +kernel
theorem dX12_copies_9 : decode cX12_copies 9 = .ok (.iload_n 2, 1) := by decide +kernel
theorem dX12_copies_10 : decode cX12_copies 10 = .ok (.aload_n 0, 1) := by decide +kernel
theorem dX12_copies_11 : decode cX12_copies 11 = .ok (.iload_n 2, 1) := by decide +kernel
theorem dX12_copies_12 : decode cX12_copies 12 = .ok (.iaload, 1) := by decide +kernel
theorem dX12_copies_13 : decode cX12_copies 13 = .ok (.iastore, 1) := by decide +kernel
theorem dX12_copies_14 : decode cX12_copies 14 = .ok (.iinc 2 1, 3) := by decide +kernel
theorem dX12_copies_17 : decode cX12_copies 17 = .ok (.goto (-15), 3) := by decide +kernel
theorem dX12_copies_20 : decode cX12_copies 20 = .ok (.return_, 1) := by decide +kernel
theorem dX12_goesOn_0 : decode cX12_goesOn 0 = .ok (.aload_n 0, 1) := by decide +kernel
theorem dX12_goesOn_1 : decode cX12_goesOn 1 = .ok (.invokevirtual 211, 3) := by decide +kernel
theorem dX12_goesOn_4 : decode cX12_goesOn 4 = .ok (.aload_n 0, 1) := by decide +kernel
theorem dX12_goesOn_5 : decode cX12_goesOn 5 = .ok (.getfield 189, 3) := by decide +kernel
theorem dX12_goesOn_8 : decode cX12_goesOn 8 = .ok (.ifCond .ne 32, 3) := by decide +kernel
theorem dX12_goesOn_11 : decode cX12_goesOn 11 = .ok (.aload_n 0, 1) := by decide +kernel
theorem dX12_goesOn_12 : decode cX12_goesOn 12 = .ok (.getfield 192, 3) := by decide +kernel
theorem dX12_goesOn_15 : decode cX12_goesOn 15 = .ok (.aload_n 0, 1) := by decide +kernel
theorem dX12_goesOn_16 : decode cX12_goesOn 16 = .ok (.getfield 163, 3) := by decide +kernel
theorem dX12_goesOn_19 : decode cX12_goesOn 19 = .ok (.if_icmp .ge 21, 3) := by decide +kernel
theorem dX12_goesOn_22 : decode cX12_goesOn 22 = .ok (.aload_n 0, 1) := by decide +kernel
theorem dX12_goesOn_23 : decode cX12_goesOn 23 = .ok (.invokevirtual 195, 3) := by decide +kernel
theorem dX12_goesOn_26 : decode cX12_goesOn 26 = .ok (.bipush 59, 2) := by decide +kernel
theorem dX12_goesOn_28 : decode cX12_goesOn 28 = .ok (.if_icmp .eq 12, 3) := by decide +kernel
theorem dX12_goesOn_31 : decode cX12_goesOn 31 = .ok (.aload_n 0, 1) := by decide +kernel
theorem dX12_goesOn_32 : decode cX12_goesOn 32 = .ok (.iconst 0, 1) := by decide +kernel
theorem dX12_goesOn_33 : decode cX12_goesOn 33 = .ok (.aload_n 0, 1) := by decide +kernel
theorem dX12_goesOn_34 : decode cX12_goesOn 34 = .ok (.getfield 192, 3) := by decide +kernel
theorem dX12_goesOn_37 : decode cX12_goesOn 37 = .ok (.invokevirtual 227, 3) := by decide +kernel
theorem dX12_goesOn_40 : decode cX12_goesOn 40 = .ok (.aload_n 0, 1) := by decide +kernel
theorem dX12_goesOn_41 : decode cX12_goesOn 41 = .ok (.getfield 189, 3) := by decide +kernel
theorem dX12_goesOn_44 : decode cX12_goesOn 44 = .ok (.ifCond .ne 18, 3) := by decide +kernel
theorem dX12_goesOn_47 : decode cX12_goesOn 47 = .ok (.aload_n 0, 1) := by decide +kernel
theorem dX12_goesOn_48 : decode cX12_goesOn 48 = .ok (.getfield 192, 3) := by decide +kernel
theorem dX12_goesOn_51 : decode cX12_goesOn 51 = .ok (.aload_n 0, 1) := by decide +kernel
theorem dX12_goesOn_52 : decode cX12_goesOn 52 = .ok (.getfield 163, 3) := by decide +kernel
theorem dX12_goesOn_55 : decode cX12_goesOn 55 = .ok (.if_icmp .ge 7, 3) := by decide +kernel
theorem dX12_goesOn_58 : decode cX12_goesOn 58 = .ok (.iconst 1, 1) := by decide +kernel
theorem dX12_goesOn_59 : decode cX12_goesOn 59 = .ok (.goto 4, 3) := by decide +kernel
theorem dX12_goesOn_62 : decode cX12_goesOn 62 = .ok (.iconst 0, 1) := by decide +kernel
theorem dX12_goesOn_63 : decode cX12_goesOn 63 = .ok (.istore_n 1, 1) := by decide +kernel
theorem dX12_goesOn_64 : decode cX12_goesOn 64 = .ok (.aload_n 0, 1) := by decide +kernel
theorem dX12_goesOn_65 : decode cX12_goesOn 65 = .ok (.dup, 1) := by decide +kernel
theorem dX12_goesOn_66 : decode cX12_goesOn 66 = .ok (.getfield 192, 3) := by decide +kernel
theorem dX12_goesOn_69 : decode cX12_goesOn 69 = .ok (.iconst 1, 1) := by decide +kernel
theorem dX12_goesOn_70 : decode cX12_goesOn 70 = .ok (.iadd, 1) := by decide +kernel
theorem dX12_goesOn_71 : decode cX12_goesOn 71 = .ok (.putfield 192, 3) := by decide +kernel
theorem dX12_goesOn_74 : decode cX12_goesOn 74 = .ok (.iload_n 1, 1) := by decide +kernel
theorem dX12_goesOn_75 : decode cX12_goesOn 75 = .ok (.ireturn, 1) := by decide +kernel
theorem dX12_starts_0 : decode cX12_starts 0 = .ok (.aload_n 0, 1) := by decide +kernel
theorem dX12_starts_1 : decode cX12_starts 1 = .ok (.iconst 0, 1) := by decide +kernel
theorem dX12_starts_2 : decode cX12_starts 2 = .ok (.putfield 192, 3) := by decide +kernel
theorem dX12_starts_5 : decode cX12_starts 5 = .ok (.aload_n 0, 1) := by decide +kernel
theorem dX12_starts_6 : decode cX12_starts 6 = .ok (.iconst 0, 1) := by decide +kernel
theorem dX12_starts_7 : decode cX12_starts 7 = .ok (.putfield 189, 3) := by decide +kernel
theorem dX12_starts_10 : decode cX12_starts 10 = .ok (.aload_n 0, 1) := by decide +kernel
theorem dX12_starts_11 : decode cX12_starts 11 = .ok (.iconst 0, 1) := by decide +kernel
theorem dX12_starts_12 : decode cX12_starts 12 = .ok (.putfield 221, 3) := by decide +kernel
theorem dX12_starts_15 : decode cX12_starts 15 = .ok (.aload_n 0, 1) := by decide +kernel
theorem dX12_starts_16 : decode cX12_starts 16 = .ok (.iconst 0, 1) := by decide +kernel
theorem dX12_starts_17 : decode cX12_starts 17 = .ok (.putfield 262, 3) := by decide +kernel
theorem dX12_starts_20 : decode cX12_starts 20 = .ok (.aload_n 0, 1) := by decide +kernel
theorem dX12_starts_21 : decode cX12_starts 21 = .ok (.iconst 0, 1) := by decide +kernel
theorem dX12_starts_22 : decode cX12_starts 22 = .ok (.putfield 224, 3) := by decide +kernel
theorem dX12_starts_25 : decode cX12_starts 25 = .ok (.return_, 1) := by decide +kernel
theorem dX12_readsAll_0 : decode cX12_readsAll 0 = .ok (.aload_n 0, 1) := by decide +kernel
theorem dX12_readsAll_1 : decode cX12_readsAll 1 = .ok (.invokevirtual 306, 3) := by decide +kernel
theorem dX12_readsAll_4 : decode cX12_readsAll 4 = .ok (.iconst 0, 1) := by decide +kernel
theorem dX12_readsAll_5 : decode cX12_readsAll 5 = .ok (.istore_n 1, 1) := by decide +kernel
theorem dX12_readsAll_6 : decode cX12_readsAll 6 = .ok (.iload_n 1, 1) := by decide +kernel
theorem dX12_readsAll_7 : decode cX12_readsAll 7 = .ok (.iconst 5, 1) := by decide +kernel
theorem dX12_readsAll_8 : decode cX12_readsAll 8 = .ok (.if_icmp .ge 16, 3) := by decide +kernel
theorem dX12_readsAll_11 : decode cX12_readsAll 11 = .ok (.aload_n 0, 1) := by decide +kernel
theorem dX12_readsAll_12 : decode cX12_readsAll 12 = .ok (.getfield 64, 3) := by decide +kernel
theorem dX12_readsAll_15 : decode cX12_readsAll 15 = .ok (.iload_n 1, 1) := by decide +kernel
theorem dX12_readsAll_16 : decode cX12_readsAll 16 = .ok (.iconst 0, 1) := by decide +kernel
theorem dX12_readsAll_17 : decode cX12_readsAll 17 = .ok (.iastore, 1) := by decide +kernel
theorem dX12_readsAll_18 : decode cX12_readsAll 18 = .ok (.iinc 1 1, 3) := by decide +kernel
theorem dX12_readsAll_21 : decode cX12_readsAll 21 = .ok (.goto (-15), 3) := by decide +kernel
theorem dX12_readsAll_24 : decode cX12_readsAll 24 = .ok (.iconst 0, 1) := by decide +kernel
theorem dX12_readsAll_25 : decode cX12_readsAll 25 = .ok (.istore_n 1, 1) := by decide +kernel
theorem dX12_readsAll_26 : decode cX12_readsAll 26 = .ok (.iconst 1, 1) := by decide +kernel
theorem dX12_readsAll_27 : decode cX12_readsAll 27 = .ok (.istore_n 2, 1) := by decide +kernel
theorem dX12_readsAll_28 : decode cX12_readsAll 28 = .ok (.iload_n 2, 1) := by decide +kernel
theorem dX12_readsAll_29 : decode cX12_readsAll 29 = .ok (.ifCond .eq 19, 3) := by decide +kernel
theorem dX12_readsAll_32 : decode cX12_readsAll 32 = .ok (.aload_n 0, 1) := by decide +kernel
theorem dX12_readsAll_33 : decode cX12_readsAll 33 = .ok (.iload_n 1, 1) := by decide +kernel
theorem dX12_readsAll_34 : decode cX12_readsAll 34 = .ok (.invokevirtual 309, 3) := by decide +kernel
theorem dX12_readsAll_37 : decode cX12_readsAll 37 = .ok (.iinc 1 1, 3) := by decide +kernel
theorem dX12_readsAll_40 : decode cX12_readsAll 40 = .ok (.aload_n 0, 1) := by decide +kernel
theorem dX12_readsAll_41 : decode cX12_readsAll 41 = .ok (.invokevirtual 312, 3) := by decide +kernel
theorem dX12_readsAll_44 : decode cX12_readsAll 44 = .ok (.istore_n 2, 1) := by decide +kernel
theorem dX12_readsAll_45 : decode cX12_readsAll 45 = .ok (.goto (-17), 3) := by decide +kernel
theorem dX12_readsAll_48 : decode cX12_readsAll 48 = .ok (.aload_n 0, 1) := by decide +kernel
theorem dX12_readsAll_49 : decode cX12_readsAll 49 = .ok (.iconst 0, 1) := by decide +kernel
theorem dX12_readsAll_50 : decode cX12_readsAll 50 = .ok (.putfield 163, 3) := by decide +kernel
theorem dX12_readsAll_53 : decode cX12_readsAll 53 = .ok (.return_, 1) := by decide +kernel
theorem dX12_begins_0 : decode cX12_begins 0 = .ok (.aload_n 0, 1) := by decide +kernel
theorem dX12_begins_1 : decode cX12_begins 1 = .ok (.getfield 58, 3) := by decide +kernel
theorem dX12_begins_4 : decode cX12_begins 4 = .ok (.aload_n 0, 1) := by decide +kernel
theorem dX12_begins_5 : decode cX12_begins 5 = .ok (.getfield 13, 3) := by decide +kernel
theorem dX12_begins_8 : decode cX12_begins 8 = .ok (.invokestatic 315, 3) := by decide +kernel
theorem dX12_begins_11 : decode cX12_begins 11 = .ok (.aload_n 0, 1) := by decide +kernel
theorem dX12_begins_12 : decode cX12_begins 12 = .ok (.getfield 61, 3) := by decide +kernel
theorem dX12_begins_15 : decode cX12_begins 15 = .ok (.aload_n 0, 1) := by decide +kernel
theorem dX12_begins_16 : decode cX12_begins 16 = .ok (.getfield 16, 3) := by decide +kernel
theorem dX12_begins_19 : decode cX12_begins 19 = .ok (.invokestatic 315, 3) := by decide +kernel
theorem dX12_begins_22 : decode cX12_begins 22 = .ok (.aload_n 0, 1) := by decide +kernel
theorem dX12_begins_23 : decode cX12_begins 23 = .ok (.getfield 9, 3) := by decide +kernel
theorem dX12_begins_26 : decode cX12_begins 26 = .ok (.iconst 5, 1) := by decide +kernel
theorem dX12_begins_27 : decode cX12_begins 27 = .ok (.iconst 0, 1) := by decide +kernel
theorem dX12_begins_28 : decode cX12_begins 28 = .ok (.iastore, 1) := by decide +kernel
theorem dX12_begins_29 : decode cX12_begins 29 = .ok (.aload_n 0, 1) := by decide +kernel
theorem dX12_begins_30 : decode cX12_begins 30 = .ok (.getfield 9, 3) := by decide +kernel
theorem dX12_begins_33 : decode cX12_begins 33 = .ok (.bipush 6, 2) := by decide +kernel
theorem dX12_begins_35 : decode cX12_begins 35 = .ok (.iconst 0, 1) := by decide +kernel
theorem dX12_begins_36 : decode cX12_begins 36 = .ok (.iastore, 1) := by decide +kernel
theorem dX12_begins_37 : decode cX12_begins 37 = .ok (.iconst 0, 1) := by decide +kernel
theorem dX12_begins_38 : decode cX12_begins 38 = .ok (.istore_n 1, 1) := by decide +kernel
theorem dX12_begins_39 : decode cX12_begins 39 = .ok (.iload_n 1, 1) := by decide +kernel
theorem dX12_begins_40 : decode cX12_begins 40 = .ok (.bipush 6, 2) := by decide +kernel
theorem dX12_begins_42 : decode cX12_begins 42 = .ok (.if_icmp .ge 32, 3) := by decide +kernel
theorem dX12_begins_45 : decode cX12_begins 45 = .ok (.aload_n 0, 1) := by decide +kernel
theorem dX12_begins_46 : decode cX12_begins 46 = .ok (.getfield 19, 3) := by decide +kernel
theorem dX12_begins_49 : decode cX12_begins 49 = .ok (.iload_n 1, 1) := by decide +kernel
theorem dX12_begins_50 : decode cX12_begins 50 = .ok (.iconst 0, 1) := by decide +kernel
theorem dX12_begins_51 : decode cX12_begins 51 = .ok (.iastore, 1) := by decide +kernel
theorem dX12_begins_52 : decode cX12_begins 52 = .ok (.aload_n 0, 1) := by decide +kernel
theorem dX12_begins_53 : decode cX12_begins 53 = .ok (.getfield 22, 3) := by decide +kernel
theorem dX12_begins_56 : decode cX12_begins 56 = .ok (.iload_n 1, 1) := by decide +kernel
theorem dX12_begins_57 : decode cX12_begins 57 = .ok (.iconst 0, 1) := by decide +kernel
theorem dX12_begins_58 : decode cX12_begins 58 = .ok (.iastore, 1) := by decide +kernel
theorem dX12_begins_59 : decode cX12_begins 59 = .ok (.aload_n 0, 1) := by decide +kernel
theorem dX12_begins_60 : decode cX12_begins 60 = .ok (.getfield 25, 3) := by decide +kernel
theorem dX12_begins_63 : decode cX12_begins 63 = .ok (.iload_n 1, 1) := by decide +kernel
theorem dX12_begins_64 : decode cX12_begins 64 = .ok (.sipush (-1000), 3) := by decide +kernel
theorem dX12_begins_67 : decode cX12_begins 67 = .ok (.iastore, 1) := by decide +kernel
theorem dX12_begins_68 : decode cX12_begins 68 = .ok (.iinc 1 1, 3) := by decide +kernel
theorem dX12_begins_71 : decode cX12_begins 71 = .ok (.goto (-32), 3) := by decide +kernel
theorem dX12_begins_74 : decode cX12_begins 74 = .ok (.iconst 0, 1) := by decide +kernel
theorem dX12_begins_75 : decode cX12_begins 75 = .ok (.istore_n 1, 1) := by decide +kernel
theorem dX12_begins_76 : decode cX12_begins 76 = .ok (.iload_n 1, 1) := by decide +kernel
theorem dX12_begins_77 : decode cX12_begins 77 = .ok (.iconst 4, 1) := by decide +kernel
theorem dX12_begins_78 : decode cX12_begins 78 = .ok (.if_icmp .ge 16, 3) := by decide +kernel
theorem dX12_begins_81 : decode cX12_begins 81 = .ok (.aload_n 0, 1) := by decide +kernel
theorem dX12_begins_82 : decode cX12_begins 82 = .ok (.getfield 28, 3) := by decide +kernel
theorem dX12_begins_85 : decode cX12_begins 85 = .ok (.iload_n 1, 1) := by decide +kernel
theorem dX12_begins_86 : decode cX12_begins 86 = .ok (.iconst 0, 1) := by decide +kernel
theorem dX12_begins_87 : decode cX12_begins 87 = .ok (.iastore, 1) := by decide +kernel
theorem dX12_begins_88 : decode cX12_begins 88 = .ok (.iinc 1 1, 3) := by decide +kernel
theorem dX12_begins_91 : decode cX12_begins 91 = .ok (.goto (-15), 3) := by decide +kernel
theorem dX12_begins_94 : decode cX12_begins 94 = .ok (.iconst 0, 1) := by decide +kernel
theorem dX12_begins_95 : decode cX12_begins 95 = .ok (.istore_n 1, 1) := by decide +kernel
theorem dX12_begins_96 : decode cX12_begins 96 = .ok (.iload_n 1, 1) := by decide +kernel
theorem dX12_begins_97 : decode cX12_begins 97 = .ok (.bipush 36, 2) := by decide +kernel
theorem dX12_begins_99 : decode cX12_begins 99 = .ok (.if_icmp .ge 16, 3) := by decide +kernel
theorem dX12_begins_102 : decode cX12_begins 102 = .ok (.aload_n 0, 1) := by decide +kernel
theorem dX12_begins_103 : decode cX12_begins 103 = .ok (.getfield 31, 3) := by decide +kernel
theorem dX12_begins_106 : decode cX12_begins 106 = .ok (.iload_n 1, 1) := by decide +kernel
theorem dX12_begins_107 : decode cX12_begins 107 = .ok (.iconst 0, 1) := by decide +kernel
theorem dX12_begins_108 : decode cX12_begins 108 = .ok (.iastore, 1) := by decide +kernel
theorem dX12_begins_109 : decode cX12_begins 109 = .ok (.iinc 1 1, 3) := by decide +kernel
theorem dX12_begins_112 : decode cX12_begins 112 = .ok (.goto (-16), 3) := by decide +kernel
theorem dX12_begins_115 : decode cX12_begins 115 = .ok (.return_, 1) := by decide +kernel
theorem dX12_plateau_0 : decode cX12_plateau 0 = .ok (.aload_n 0, 1) := by decide +kernel
theorem dX12_plateau_1 : decode cX12_plateau 1 = .ok (.invokevirtual 319, 3) := by decide +kernel
theorem dX12_plateau_4 : decode cX12_plateau 4 = .ok (.aload_n 0, 1) := by decide +kernel
theorem dX12_plateau_5 : decode cX12_plateau 5 = .ok (.getfield 189, 3) := by decide +kernel
theorem dX12_plateau_8 : decode cX12_plateau 8 = .ok (.ifCond .le 11, 3) := by decide +kernel
theorem dX12_plateau_11 : decode cX12_plateau 11 = .ok (.bipush (-2), 2) := by decide +kernel
theorem dX12_plateau_13 : decode cX12_plateau 13 = .ok (.aload_n 0, 1) := by decide +kernel
theorem dX12_plateau_14 : decode cX12_plateau 14 = .ok (.getfield 189, 3) := by decide +kernel
theorem dX12_plateau_17 : decode cX12_plateau 17 = .ok (.isub, 1) := by decide +kernel
theorem dX12_plateau_18 : decode cX12_plateau 18 = .ok (.ireturn, 1) := by decide +kernel
theorem dX12_plateau_19 : decode cX12_plateau 19 = .ok (.iconst 0, 1) := by decide +kernel
theorem dX12_plateau_20 : decode cX12_plateau 20 = .ok (.istore_n 1, 1) := by decide +kernel
theorem dX12_plateau_21 : decode cX12_plateau 21 = .ok (.iload_n 1, 1) := by decide +kernel
theorem dX12_plateau_22 : decode cX12_plateau 22 = .ok (.iconst 5, 1) := by decide +kernel
theorem dX12_plateau_23 : decode cX12_plateau 23 = .ok (.if_icmp .ge 21, 3) := by decide +kernel
theorem dX12_plateau_26 : decode cX12_plateau 26 = .ok (.aload_n 0, 1) := by decide +kernel
theorem dX12_plateau_27 : decode cX12_plateau 27 = .ok (.getfield 9, 3) := by decide +kernel
theorem dX12_plateau_30 : decode cX12_plateau 30 = .ok (.iload_n 1, 1) := by decide +kernel
theorem dX12_plateau_31 : decode cX12_plateau 31 = .ok (.aload_n 0, 1) := by decide +kernel
theorem dX12_plateau_32 : decode cX12_plateau 32 = .ok (.getfield 64, 3) := by decide +kernel
theorem dX12_plateau_35 : decode cX12_plateau 35 = .ok (.iload_n 1, 1) := by decide +kernel
theorem dX12_plateau_36 : decode cX12_plateau 36 = .ok (.iaload, 1) := by decide +kernel
theorem dX12_plateau_37 : decode cX12_plateau 37 = .ok (.iastore, 1) := by decide +kernel
theorem dX12_plateau_38 : decode cX12_plateau 38 = .ok (.iinc 1 1, 3) := by decide +kernel
theorem dX12_plateau_41 : decode cX12_plateau 41 = .ok (.goto (-20), 3) := by decide +kernel
theorem dX12_plateau_44 : decode cX12_plateau 44 = .ok (.aload_n 0, 1) := by decide +kernel
theorem dX12_plateau_45 : decode cX12_plateau 45 = .ok (.getfield 9, 3) := by decide +kernel
theorem dX12_plateau_48 : decode cX12_plateau 48 = .ok (.bipush 7, 2) := by decide +kernel
theorem dX12_plateau_50 : decode cX12_plateau 50 = .ok (.iconst 0, 1) := by decide +kernel
theorem dX12_plateau_51 : decode cX12_plateau 51 = .ok (.iastore, 1) := by decide +kernel
theorem dX12_plateau_52 : decode cX12_plateau 52 = .ok (.aload_n 0, 1) := by decide +kernel
theorem dX12_plateau_53 : decode cX12_plateau 53 = .ok (.getfield 67, 3) := by decide +kernel
theorem dX12_plateau_56 : decode cX12_plateau 56 = .ok (.aload_n 0, 1) := by decide +kernel
theorem dX12_plateau_57 : decode cX12_plateau 57 = .ok (.getfield 58, 3) := by decide +kernel
theorem dX12_plateau_60 : decode cX12_plateau 60 = .ok (.invokestatic 315, 3) := by decide +kernel
theorem dX12_plateau_63 : decode cX12_plateau 63 = .ok (.aload_n 0, 1) := by decide +kernel
theorem dX12_plateau_64 : decode cX12_plateau 64 = .ok (.getfield 70, 3) := by decide +kernel
theorem dX12_plateau_67 : decode cX12_plateau 67 = .ok (.aload_n 0, 1) := by decide +kernel
theorem dX12_plateau_68 : decode cX12_plateau 68 = .ok (.getfield 61, 3) := by decide +kernel
theorem dX12_plateau_71 : decode cX12_plateau 71 = .ok (.invokestatic 315, 3) := by decide +kernel
theorem dX12_plateau_74 : decode cX12_plateau 74 = .ok (.aload_n 0, 1) := by decide +kernel
theorem dX12_plateau_75 : decode cX12_plateau 75 = .ok (.getfield 73, 3) := by decide +kernel
theorem dX12_plateau_78 : decode cX12_plateau 78 = .ok (.aload_n 0, 1) := by decide +kernel
theorem dX12_plateau_79 : decode cX12_plateau 79 = .ok (.getfield 34, 3) := by decide +kernel
theorem dX12_plateau_82 : decode cX12_plateau 82 = .ok (.invokestatic 315, 3) := by decide +kernel
theorem dX12_plateau_85 : decode cX12_plateau 85 = .ok (.aload_n 0, 1) := by decide +kernel
theorem dX12_plateau_86 : decode cX12_plateau 86 = .ok (.getfield 76, 3) := by decide +kernel
theorem dX12_plateau_89 : decode cX12_plateau 89 = .ok (.aload_n 0, 1) := by decide +kernel
theorem dX12_plateau_90 : decode cX12_plateau 90 = .ok (.getfield 37, 3) := by decide +kernel
theorem dX12_plateau_93 : decode cX12_plateau 93 = .ok (.invokestatic 315, 3) := by decide +kernel
theorem dX12_plateau_96 : decode cX12_plateau 96 = .ok (.aload_n 0, 1) := by decide +kernel
theorem dX12_plateau_97 : decode cX12_plateau 97 = .ok (.getfield 79, 3) := by decide +kernel
theorem dX12_plateau_100 : decode cX12_plateau 100 = .ok (.aload_n 0, 1) := by decide +kernel
theorem dX12_plateau_101 : decode cX12_plateau 101 = .ok (.getfield 40, 3) := by decide +kernel
theorem dX12_plateau_104 : decode cX12_plateau 104 = .ok (.invokestatic 315, 3) := by decide +kernel
theorem dX12_plateau_107 : decode cX12_plateau 107 = .ok (.aload_n 0, 1) := by decide +kernel
theorem dX12_plateau_108 : decode cX12_plateau 108 = .ok (.getfield 82, 3) := by decide +kernel
theorem dX12_plateau_111 : decode cX12_plateau 111 = .ok (.aload_n 0, 1) := by decide +kernel
theorem dX12_plateau_112 : decode cX12_plateau 112 = .ok (.getfield 43, 3) := by decide +kernel
theorem dX12_plateau_115 : decode cX12_plateau 115 = .ok (.invokestatic 315, 3) := by decide +kernel
theorem dX12_plateau_118 : decode cX12_plateau 118 = .ok (.aload_n 0, 1) := by decide +kernel
theorem dX12_plateau_119 : decode cX12_plateau 119 = .ok (.getfield 85, 3) := by decide +kernel
theorem dX12_plateau_122 : decode cX12_plateau 122 = .ok (.aload_n 0, 1) := by decide +kernel
theorem dX12_plateau_123 : decode cX12_plateau 123 = .ok (.getfield 46, 3) := by decide +kernel
theorem dX12_plateau_126 : decode cX12_plateau 126 = .ok (.invokestatic 315, 3) := by decide +kernel
theorem dX12_plateau_129 : decode cX12_plateau 129 = .ok (.aload_n 0, 1) := by decide +kernel
theorem dX12_plateau_130 : decode cX12_plateau 130 = .ok (.invokevirtual 322, 3) := by decide +kernel
theorem dX12_plateau_133 : decode cX12_plateau 133 = .ok (.aload_n 0, 1) := by decide +kernel
theorem dX12_plateau_134 : decode cX12_plateau 134 = .ok (.iconst 0, 1) := by decide +kernel
theorem dX12_plateau_135 : decode cX12_plateau 135 = .ok (.putfield 325, 3) := by decide +kernel
theorem dX12_plateau_138 : decode cX12_plateau 138 = .ok (.aload_n 0, 1) := by decide +kernel
theorem dX12_plateau_139 : decode cX12_plateau 139 = .ok (.getfield 9, 3) := by decide +kernel
theorem dX12_plateau_142 : decode cX12_plateau 142 = .ok (.iconst 2, 1) := by decide +kernel
theorem dX12_plateau_143 : decode cX12_plateau 143 = .ok (.iaload, 1) := by decide +kernel
theorem dX12_plateau_144 : decode cX12_plateau 144 = .ok (.ireturn, 1) := by decide +kernel
theorem dX12_ruleClause_0 : decode cX12_ruleClause 0 = .ok (.aload_n 0, 1) := by decide +kernel
theorem dX12_ruleClause_1 : decode cX12_ruleClause 1 = .ok (.invokevirtual 211, 3) := by decide +kernel
theorem dX12_ruleClause_4 : decode cX12_ruleClause 4 = .ok (.aload_n 0, 1) := by decide +kernel
theorem dX12_ruleClause_5 : decode cX12_ruleClause 5 = .ok (.getfield 192, 3) := by decide +kernel
theorem dX12_ruleClause_8 : decode cX12_ruleClause 8 = .ok (.istore_n 2, 1) := by decide +kernel
theorem dX12_ruleClause_9 : decode cX12_ruleClause 9 = .ok (.aload_n 0, 1) := by decide +kernel
theorem dX12_ruleClause_10 : decode cX12_ruleClause 10 = .ok (.ldc_w 328, 3) := by decide +kernel
theorem dX12_ruleClause_13 : decode cX12_ruleClause 13 = .ok (.invokevirtual 214, 3) := by decide +kernel
theorem dX12_ruleClause_16 : decode cX12_ruleClause 16 = .ok (.ifCond .ne 10, 3) := by decide +kernel
theorem dX12_ruleClause_19 : decode cX12_ruleClause 19 = .ok (.aload_n 0, 1) := by decide +kernel
theorem dX12_ruleClause_20 : decode cX12_ruleClause 20 = .ok (.iconst 0, 1) := by decide +kernel
theorem dX12_ruleClause_21 : decode cX12_ruleClause 21 = .ok (.iload_n 2, 1) := by decide +kernel
theorem dX12_ruleClause_22 : decode cX12_ruleClause 22 = .ok (.invokevirtual 227, 3) := by decide +kernel
theorem dX12_ruleClause_25 : decode cX12_ruleClause 25 = .ok (.return_, 1) := by decide +kernel
theorem dX12_ruleClause_26 : decode cX12_ruleClause 26 = .ok (.iload_n 1, 1) := by decide +kernel
theorem dX12_ruleClause_27 : decode cX12_ruleClause 27 = .ok (.bipush 12, 2) := by decide +kernel
theorem dX12_ruleClause_29 : decode cX12_ruleClause 29 = .ok (.if_icmp .ne 10, 3) := by decide +kernel
theorem dX12_ruleClause_32 : decode cX12_ruleClause 32 = .ok (.aload_n 0, 1) := by decide +kernel
theorem dX12_ruleClause_33 : decode cX12_ruleClause 33 = .ok (.iconst 4, 1) := by decide +kernel
theorem dX12_ruleClause_34 : decode cX12_ruleClause 34 = .ok (.iload_n 2, 1) := by decide +kernel
theorem dX12_ruleClause_35 : decode cX12_ruleClause 35 = .ok (.invokevirtual 227, 3) := by decide +kernel
theorem dX12_ruleClause_38 : decode cX12_ruleClause 38 = .ok (.return_, 1) := by decide +kernel
theorem dX12_ruleClause_39 : decode cX12_ruleClause 39 = .ok (.aload_n 0, 1) := by decide +kernel
theorem dX12_ruleClause_40 : decode cX12_ruleClause 40 = .ok (.dup, 1) := by decide +kernel
theorem dX12_ruleClause_41 : decode cX12_ruleClause 41 = .ok (.getfield 192, 3) := by decide +kernel
theorem dX12_ruleClause_44 : decode cX12_ruleClause 44 = .ok (.iconst 4, 1) := by decide +kernel
theorem dX12_ruleClause_45 : decode cX12_ruleClause 45 = .ok (.iadd, 1) := by decide +kernel
theorem dX12_ruleClause_46 : decode cX12_ruleClause 46 = .ok (.putfield 192, 3) := by decide +kernel
theorem dX12_ruleClause_49 : decode cX12_ruleClause 49 = .ok (.bipush 12, 2) := by decide +kernel
theorem dX12_ruleClause_51 : decode cX12_ruleClause 51 = .ok (.aload_n 0, 1) := by decide +kernel
theorem dX12_ruleClause_52 : decode cX12_ruleClause 52 = .ok (.getfield 218, 3) := by decide +kernel
theorem dX12_ruleClause_55 : decode cX12_ruleClause 55 = .ok (.imul, 1) := by decide +kernel
theorem dX12_ruleClause_56 : decode cX12_ruleClause 56 = .ok (.iload_n 1, 1) := by decide +kernel
theorem dX12_ruleClause_57 : decode cX12_ruleClause 57 = .ok (.iadd, 1) := by decide +kernel
theorem dX12_ruleClause_58 : decode cX12_ruleClause 58 = .ok (.istore_n 3, 1) := by decide +kernel
theorem dX12_ruleClause_59 : decode cX12_ruleClause 59 = .ok (.aload_n 0, 1) := by decide +kernel
theorem dX12_ruleClause_60 : decode cX12_ruleClause 60 = .ok (.getfield 105, 3) := by decide +kernel
theorem dX12_ruleClause_63 : decode cX12_ruleClause 63 = .ok (.iload_n 3, 1) := by decide +kernel
theorem dX12_ruleClause_64 : decode cX12_ruleClause 64 = .ok (.aload_n 0, 1) := by decide +kernel
theorem dX12_ruleClause_65 : decode cX12_ruleClause 65 = .ok (.getfield 221, 3) := by decide +kernel
theorem dX12_ruleClause_68 : decode cX12_ruleClause 68 = .ok (.iastore, 1) := by decide +kernel
theorem dX12_ruleClause_69 : decode cX12_ruleClause 69 = .ok (.aload_n 0, 1) := by decide +kernel
theorem dX12_ruleClause_70 : decode cX12_ruleClause 70 = .ok (.invokevirtual 256, 3) := by decide +kernel
theorem dX12_ruleClause_73 : decode cX12_ruleClause 73 = .ok (.aload_n 0, 1) := by decide +kernel
theorem dX12_ruleClause_74 : decode cX12_ruleClause 74 = .ok (.getfield 108, 3) := by decide +kernel
theorem dX12_ruleClause_77 : decode cX12_ruleClause 77 = .ok (.iload_n 3, 1) := by decide +kernel
theorem dX12_ruleClause_78 : decode cX12_ruleClause 78 = .ok (.aload_n 0, 1) := by decide +kernel
theorem dX12_ruleClause_79 : decode cX12_ruleClause 79 = .ok (.getfield 221, 3) := by decide +kernel
theorem dX12_ruleClause_82 : decode cX12_ruleClause 82 = .ok (.iastore, 1) := by decide +kernel
theorem dX12_ruleClause_83 : decode cX12_ruleClause 83 = .ok (.aload_n 0, 1) := by decide +kernel
theorem dX12_ruleClause_84 : decode cX12_ruleClause 84 = .ok (.getfield 189, 3) := by decide +kernel
theorem dX12_ruleClause_87 : decode cX12_ruleClause 87 = .ok (.ifCond .ne 17, 3) := by decide +kernel
theorem dX12_ruleClause_90 : decode cX12_ruleClause 90 = .ok (.aload_n 0, 1) := by decide +kernel
theorem dX12_ruleClause_91 : decode cX12_ruleClause 91 = .ok (.ldc_w 330, 3) := by decide +kernel
theorem dX12_ruleClause_94 : decode cX12_ruleClause 94 = .ok (.invokevirtual 332, 3) := by decide +kernel
theorem dX12_ruleClause_97 : decode cX12_ruleClause 97 = .ok (.ifCond .eq 7, 3) := by decide +kernel
theorem dX12_ruleClause_100 : decode cX12_ruleClause 100 = .ok (.aload_n 0, 1) := by decide +kernel
theorem dX12_ruleClause_101 : decode cX12_ruleClause 101 = .ok (.invokevirtual 335, 3) := by decide +kernel
theorem dX12_ruleClause_104 : decode cX12_ruleClause 104 = .ok (.aload_n 0, 1) := by decide +kernel
theorem dX12_ruleClause_105 : decode cX12_ruleClause 105 = .ok (.getfield 111, 3) := by decide +kernel
theorem dX12_ruleClause_108 : decode cX12_ruleClause 108 = .ok (.iload_n 3, 1) := by decide +kernel
theorem dX12_ruleClause_109 : decode cX12_ruleClause 109 = .ok (.aload_n 0, 1) := by decide +kernel
theorem dX12_ruleClause_110 : decode cX12_ruleClause 110 = .ok (.getfield 221, 3) := by decide +kernel
theorem dX12_ruleClause_113 : decode cX12_ruleClause 113 = .ok (.iastore, 1) := by decide +kernel
theorem dX12_ruleClause_114 : decode cX12_ruleClause 114 = .ok (.return_, 1) := by decide +kernel
theorem dX12_rule_0 : decode cX12_rule 0 = .ok (.aload_n 0, 1) := by decide +kernel
theorem dX12_rule_1 : decode cX12_rule 1 = .ok (.getfield 338, 3) := by decide +kernel
theorem dX12_rule_4 : decode cX12_rule 4 = .ok (.bipush 6, 2) := by decide +kernel
theorem dX12_rule_6 : decode cX12_rule 6 = .ok (.if_icmp .ne 5, 3) := by decide +kernel
theorem dX12_rule_9 : decode cX12_rule 9 = .ok (.iconst (-1), 1) := by decide +kernel
theorem dX12_rule_10 : decode cX12_rule 10 = .ok (.ireturn, 1) := by decide +kernel
theorem dX12_rule_11 : decode cX12_rule 11 = .ok (.aload_n 0, 1) := by decide +kernel
theorem dX12_rule_12 : decode cX12_rule 12 = .ok (.aload_n 0, 1) := by decide +kernel
theorem dX12_rule_13 : decode cX12_rule 13 = .ok (.getfield 338, 3) := by decide +kernel
theorem dX12_rule_16 : decode cX12_rule 16 = .ok (.putfield 218, 3) := by decide +kernel
theorem dX12_rule_19 : decode cX12_rule 19 = .ok (.aload_n 0, 1) := by decide +kernel
theorem dX12_rule_20 : decode cX12_rule 20 = .ok (.invokevirtual 306, 3) := by decide +kernel
theorem dX12_rule_23 : decode cX12_rule 23 = .ok (.iconst 0, 1) := by decide +kernel
theorem dX12_rule_24 : decode cX12_rule 24 = .ok (.istore_n 1, 1) := by decide +kernel
theorem dX12_rule_25 : decode cX12_rule 25 = .ok (.iconst 1, 1) := by decide +kernel
theorem dX12_rule_26 : decode cX12_rule 26 = .ok (.istore_n 2, 1) := by decide +kernel
theorem dX12_rule_27 : decode cX12_rule 27 = .ok (.iload_n 2, 1) := by decide +kernel
theorem dX12_rule_28 : decode cX12_rule 28 = .ok (.ifCond .eq 19, 3) := by decide +kernel
theorem dX12_rule_31 : decode cX12_rule 31 = .ok (.aload_n 0, 1) := by decide +kernel
theorem dX12_rule_32 : decode cX12_rule 32 = .ok (.iload_n 1, 1) := by decide +kernel
theorem dX12_rule_33 : decode cX12_rule 33 = .ok (.invokevirtual 341, 3) := by decide +kernel
theorem dX12_rule_36 : decode cX12_rule 36 = .ok (.iinc 1 1, 3) := by decide +kernel
theorem dX12_rule_39 : decode cX12_rule 39 = .ok (.aload_n 0, 1) := by decide +kernel
theorem dX12_rule_40 : decode cX12_rule 40 = .ok (.invokevirtual 312, 3) := by decide +kernel
theorem dX12_rule_43 : decode cX12_rule 43 = .ok (.istore_n 2, 1) := by decide +kernel
theorem dX12_rule_44 : decode cX12_rule 44 = .ok (.goto (-17), 3) := by decide +kernel
theorem dX12_rule_47 : decode cX12_rule 47 = .ok (.aload_n 0, 1) := by decide +kernel
theorem dX12_rule_48 : decode cX12_rule 48 = .ok (.iconst 0, 1) := by decide +kernel
theorem dX12_rule_49 : decode cX12_rule 49 = .ok (.putfield 163, 3) := by decide +kernel
theorem dX12_rule_52 : decode cX12_rule 52 = .ok (.aload_n 0, 1) := by decide +kernel
theorem dX12_rule_53 : decode cX12_rule 53 = .ok (.getfield 102, 3) := by decide +kernel
theorem dX12_rule_56 : decode cX12_rule 56 = .ok (.aload_n 0, 1) := by decide +kernel
theorem dX12_rule_57 : decode cX12_rule 57 = .ok (.getfield 218, 3) := by decide +kernel
theorem dX12_rule_60 : decode cX12_rule 60 = .ok (.iload_n 1, 1) := by decide +kernel
theorem dX12_rule_61 : decode cX12_rule 61 = .ok (.iastore, 1) := by decide +kernel
theorem dX12_rule_62 : decode cX12_rule 62 = .ok (.aload_n 0, 1) := by decide +kernel
theorem dX12_rule_63 : decode cX12_rule 63 = .ok (.dup, 1) := by decide +kernel
theorem dX12_rule_64 : decode cX12_rule 64 = .ok (.getfield 338, 3) := by decide +kernel
theorem dX12_rule_67 : decode cX12_rule 67 = .ok (.aload_n 0, 1) := by decide +kernel
theorem dX12_rule_68 : decode cX12_rule 68 = .ok (.getfield 189, 3) := by decide +kernel
theorem dX12_rule_71 : decode cX12_rule 71 = .ok (.ifCond .ne 7, 3) := by decide +kernel
theorem dX12_rule_74 : decode cX12_rule 74 = .ok (.iconst 1, 1) := by decide +kernel
theorem dX12_rule_75 : decode cX12_rule 75 = .ok (.goto 4, 3) := by decide +kernel
theorem dX12_rule_78 : decode cX12_rule 78 = .ok (.iconst 0, 1) := by decide +kernel
theorem dX12_rule_79 : decode cX12_rule 79 = .ok (.iadd, 1) := by decide +kernel
theorem dX12_rule_80 : decode cX12_rule 80 = .ok (.putfield 338, 3) := by decide +kernel
theorem dX12_rule_83 : decode cX12_rule 83 = .ok (.aload_n 0, 1) := by decide +kernel
theorem dX12_rule_84 : decode cX12_rule 84 = .ok (.getfield 189, 3) := by decide +kernel
theorem dX12_rule_87 : decode cX12_rule 87 = .ok (.ifCond .le 13, 3) := by decide +kernel
theorem dX12_rule_90 : decode cX12_rule 90 = .ok (.bipush (-2), 2) := by decide +kernel
theorem dX12_rule_92 : decode cX12_rule 92 = .ok (.aload_n 0, 1) := by decide +kernel
theorem dX12_rule_93 : decode cX12_rule 93 = .ok (.getfield 189, 3) := by decide +kernel
theorem dX12_rule_96 : decode cX12_rule 96 = .ok (.isub, 1) := by decide +kernel
theorem dX12_rule_97 : decode cX12_rule 97 = .ok (.goto 9, 3) := by decide +kernel
theorem dX12_rule_100 : decode cX12_rule 100 = .ok (.aload_n 0, 1) := by decide +kernel
theorem dX12_rule_101 : decode cX12_rule 101 = .ok (.getfield 338, 3) := by decide +kernel
theorem dX12_rule_104 : decode cX12_rule 104 = .ok (.iconst 1, 1) := by decide +kernel
theorem dX12_rule_105 : decode cX12_rule 105 = .ok (.isub, 1) := by decide +kernel
theorem dX12_rule_106 : decode cX12_rule 106 = .ok (.ireturn, 1) := by decide +kernel
theorem dX12_force_0 : decode cX12_force 0 = .ok (.iload_n 1, 1) := by decide +kernel
theorem dX12_force_1 : decode cX12_force 1 = .ok (.i2l, 1) := by decide +kernel
theorem dX12_force_2 : decode cX12_force 2 = .ok (.ldc2_w 344, 3) := by decide +kernel
theorem dX12_force_5 : decode cX12_force 5 = .ok (.aload_n 0, 1) := by decide +kernel
theorem dX12_force_6 : decode cX12_force 6 = .ok (.getfield 338, 3) := by decide +kernel
theorem dX12_force_9 : decode cX12_force 9 = .ok (.iconst 1, 1) := by decide +kernel
theorem dX12_force_10 : decode cX12_force 10 = .ok (.isub, 1) := by decide +kernel
theorem dX12_force_11 : decode cX12_force 11 = .ok (.i2l, 1) := by decide +kernel
theorem dX12_force_12 : decode cX12_force 12 = .ok (.invokestatic 159, 3) := by decide +kernel
theorem dX12_force_15 : decode cX12_force 15 = .ok (.ifCond .ne 6, 3) := by decide +kernel
theorem dX12_force_18 : decode cX12_force 18 = .ok (.bipush (-2), 2) := by decide +kernel
theorem dX12_force_20 : decode cX12_force 20 = .ok (.ireturn, 1) := by decide +kernel
theorem dX12_force_21 : decode cX12_force 21 = .ok (.aload_n 0, 1) := by decide +kernel
theorem dX12_force_22 : decode cX12_force 22 = .ok (.getfield 9, 3) := by decide +kernel
theorem dX12_force_25 : decode cX12_force 25 = .ok (.bipush 9, 2) := by decide +kernel
theorem dX12_force_27 : decode cX12_force 27 = .ok (.iaload, 1) := by decide +kernel
theorem dX12_force_28 : decode cX12_force 28 = .ok (.istore_n 2, 1) := by decide +kernel
theorem dX12_force_29 : decode cX12_force 29 = .ok (.aload_n 0, 1) := by decide +kernel
theorem dX12_force_30 : decode cX12_force 30 = .ok (.getfield 9, 3) := by decide +kernel
theorem dX12_force_33 : decode cX12_force 33 = .ok (.bipush 9, 2) := by decide +kernel
theorem dX12_force_35 : decode cX12_force 35 = .ok (.iload_n 1, 1) := by decide +kernel
theorem dX12_force_36 : decode cX12_force 36 = .ok (.iastore, 1) := by decide +kernel
theorem dX12_force_37 : decode cX12_force 37 = .ok (.iload_n 2, 1) := by decide +kernel
theorem dX12_force_38 : decode cX12_force 38 = .ok (.ireturn, 1) := by decide +kernel
theorem dX12_wanted_0 : decode cX12_wanted 0 = .ok (.aload_n 0, 1) := by decide +kernel
theorem dX12_wanted_1 : decode cX12_wanted 1 = .ok (.getfield 9, 3) := by decide +kernel
theorem dX12_wanted_4 : decode cX12_wanted 4 = .ok (.bipush 9, 2) := by decide +kernel
theorem dX12_wanted_6 : decode cX12_wanted 6 = .ok (.iaload, 1) := by decide +kernel
theorem dX12_wanted_7 : decode cX12_wanted 7 = .ok (.istore_n 1, 1) := by decide +kernel
theorem dX12_wanted_8 : decode cX12_wanted 8 = .ok (.bipush 12, 2) := by decide +kernel
theorem dX12_wanted_10 : decode cX12_wanted 10 = .ok (.iload_n 1, 1) := by decide +kernel
theorem dX12_wanted_11 : decode cX12_wanted 11 = .ok (.imul, 1) := by decide +kernel
theorem dX12_wanted_12 : decode cX12_wanted 12 = .ok (.istore_n 2, 1) := by decide +kernel
theorem dX12_wanted_13 : decode cX12_wanted 13 = .ok (.iload_n 2, 1) := by decide +kernel
theorem dX12_wanted_14 : decode cX12_wanted 14 = .ok (.bipush 12, 2) := by decide +kernel
theorem dX12_wanted_16 : decode cX12_wanted 16 = .ok (.iload_n 1, 1) := by decide +kernel
theorem dX12_wanted_17 : decode cX12_wanted 17 = .ok (.imul, 1) := by decide +kernel
theorem dX12_wanted_18 : decode cX12_wanted 18 = .ok (.aload_n 0, 1) := by decide +kernel
theorem dX12_wanted_19 : decode cX12_wanted 19 = .ok (.getfield 102, 3) := by decide +kernel
theorem dX12_wanted_22 : decode cX12_wanted 22 = .ok (.iload_n 1, 1) := by decide +kernel
theorem dX12_wanted_23 : decode cX12_wanted 23 = .ok (.iaload, 1) := by decide +kernel
theorem dX12_wanted_24 : decode cX12_wanted 24 = .ok (.iadd, 1) := by decide +kernel
theorem dX12_wanted_25 : decode cX12_wanted 25 = .ok (.if_icmp .ge 64, 3) := by decide +kernel
theorem dX12_wanted_28 : decode cX12_wanted 28 = .ok (.aload_n 0, 1) := by decide +kernel
theorem dX12_wanted_29 : decode cX12_wanted 29 = .ok (.getfield 108, 3) := by decide +kernel
theorem dX12_wanted_32 : decode cX12_wanted 32 = .ok (.iload_n 2, 1) := by decide +kernel
theorem dX12_wanted_33 : decode cX12_wanted 33 = .ok (.iaload, 1) := by decide +kernel
theorem dX12_wanted_34 : decode cX12_wanted 34 = .ok (.aload_n 0, 1) := by decide +kernel
theorem dX12_wanted_35 : decode cX12_wanted 35 = .ok (.getfield 111, 3) := by decide +kernel
theorem dX12_wanted_38 : decode cX12_wanted 38 = .ok (.iload_n 2, 1) := by decide +kernel
theorem dX12_wanted_39 : decode cX12_wanted 39 = .ok (.iaload, 1) := by decide +kernel
theorem dX12_wanted_40 : decode cX12_wanted 40 = .ok (.if_icmp .eq 25, 3) := by decide +kernel
theorem dX12_wanted_43 : decode cX12_wanted 43 = .ok (.aload_n 0, 1) := by decide +kernel
theorem dX12_wanted_44 : decode cX12_wanted 44 = .ok (.iload_n 1, 1) := by decide +kernel
theorem dX12_wanted_45 : decode cX12_wanted 45 = .ok (.aload_n 0, 1) := by decide +kernel
theorem dX12_wanted_46 : decode cX12_wanted 46 = .ok (.getfield 108, 3) := by decide +kernel
theorem dX12_wanted_49 : decode cX12_wanted 49 = .ok (.iload_n 2, 1) := by decide +kernel
theorem dX12_wanted_50 : decode cX12_wanted 50 = .ok (.iaload, 1) := by decide +kernel
theorem dX12_wanted_51 : decode cX12_wanted 51 = .ok (.aload_n 0, 1) := by decide +kernel
theorem dX12_wanted_52 : decode cX12_wanted 52 = .ok (.getfield 111, 3) := by decide +kernel
theorem dX12_wanted_55 : decode cX12_wanted 55 = .ok (.iload_n 2, 1) := by decide +kernel
theorem dX12_wanted_56 : decode cX12_wanted 56 = .ok (.iaload, 1) := by decide +kernel
theorem dX12_wanted_57 : decode cX12_wanted 57 = .ok (.invokevirtual 346, 3) := by decide +kernel
theorem dX12_wanted_60 : decode cX12_wanted 60 = .ok (.lconst 1, 1) := by decide +kernel
theorem dX12_wanted_61 : decode cX12_wanted 61 = .ok (.lcmp, 1) := by decide +kernel
theorem dX12_wanted_62 : decode cX12_wanted 62 = .ok (.ifCond .ne 21, 3) := by decide +kernel
theorem dX12_wanted_65 : decode cX12_wanted 65 = .ok (.aload_n 0, 1) := by decide +kernel
theorem dX12_wanted_66 : decode cX12_wanted 66 = .ok (.iload_n 1, 1) := by decide +kernel
theorem dX12_wanted_67 : decode cX12_wanted 67 = .ok (.aload_n 0, 1) := by decide +kernel
theorem dX12_wanted_68 : decode cX12_wanted 68 = .ok (.getfield 105, 3) := by decide +kernel
theorem dX12_wanted_71 : decode cX12_wanted 71 = .ok (.iload_n 2, 1) := by decide +kernel
theorem dX12_wanted_72 : decode cX12_wanted 72 = .ok (.iaload, 1) := by decide +kernel
theorem dX12_wanted_73 : decode cX12_wanted 73 = .ok (.aload_n 0, 1) := by decide +kernel
theorem dX12_wanted_74 : decode cX12_wanted 74 = .ok (.getfield 108, 3) := by decide +kernel
theorem dX12_wanted_77 : decode cX12_wanted 77 = .ok (.iload_n 2, 1) := by decide +kernel
theorem dX12_wanted_78 : decode cX12_wanted 78 = .ok (.iaload, 1) := by decide +kernel
theorem dX12_wanted_79 : decode cX12_wanted 79 = .ok (.invokevirtual 346, 3) := by decide +kernel
theorem dX12_wanted_82 : decode cX12_wanted 82 = .ok (.lreturn, 1) := by decide +kernel
theorem dX12_wanted_83 : decode cX12_wanted 83 = .ok (.iinc 2 1, 3) := by decide +kernel
theorem dX12_wanted_86 : decode cX12_wanted 86 = .ok (.goto (-73), 3) := by decide +kernel
theorem dX12_wanted_89 : decode cX12_wanted 89 = .ok (.lconst 0, 1) := by decide +kernel
theorem dX12_wanted_90 : decode cX12_wanted 90 = .ok (.lreturn, 1) := by decide +kernel
theorem dX12_truth_0 : decode cX12_truth 0 = .ok (.iload_n 0, 1) := by decide +kernel
theorem dX12_truth_1 : decode cX12_truth 1 = .ok (.ifCond .eq 7, 3) := by decide +kernel
theorem dX12_truth_4 : decode cX12_truth 4 = .ok (.lconst 1, 1) := by decide +kernel
theorem dX12_truth_5 : decode cX12_truth 5 = .ok (.goto 4, 3) := by decide +kernel
theorem dX12_truth_8 : decode cX12_truth 8 = .ok (.lconst 0, 1) := by decide +kernel
theorem dX12_truth_9 : decode cX12_truth 9 = .ok (.lreturn, 1) := by decide +kernel
theorem dX12_both_0 : decode cX12_both 0 = .ok (.iload_n 0, 1) := by decide +kernel
theorem dX12_both_1 : decode cX12_both 1 = .ok (.tableswitch 190 2 15 #[71, 75, 111, 126, 141, 156, 171, 190, 186, 190, 190, 79, 83, 97], 71) := by decide +kernel
theorem dX12_both_72 : decode cX12_both 72 = .ok (.lload_n 1, 1) := by decide +kernel
theorem dX12_both_73 : decode cX12_both 73 = .ok (.lload_n 3, 1) := by decide +kernel
theorem dX12_both_74 : decode cX12_both 74 = .ok (.ladd, 1) := by decide +kernel
theorem dX12_both_75 : decode cX12_both 75 = .ok (.lreturn, 1) := by decide +kernel
theorem dX12_both_76 : decode cX12_both 76 = .ok (.lload_n 1, 1) := by decide +kernel
theorem dX12_both_77 : decode cX12_both 77 = .ok (.lload_n 3, 1) := by decide +kernel
theorem dX12_both_78 : decode cX12_both 78 = .ok (.lsub, 1) := by decide +kernel
theorem dX12_both_79 : decode cX12_both 79 = .ok (.lreturn, 1) := by decide +kernel
theorem dX12_both_80 : decode cX12_both 80 = .ok (.lload_n 1, 1) := by decide +kernel
theorem dX12_both_81 : decode cX12_both 81 = .ok (.lload_n 3, 1) := by decide +kernel
theorem dX12_both_82 : decode cX12_both 82 = .ok (.lmul, 1) := by decide +kernel
theorem dX12_both_83 : decode cX12_both 83 = .ok (.lreturn, 1) := by decide +kernel
theorem dX12_both_84 : decode cX12_both 84 = .ok (.lload_n 3, 1) := by decide +kernel
theorem dX12_both_85 : decode cX12_both 85 = .ok (.lconst 0, 1) := by decide +kernel
theorem dX12_both_86 : decode cX12_both 86 = .ok (.lcmp, 1) := by decide +kernel
theorem dX12_both_87 : decode cX12_both 87 = .ok (.ifCond .ne 7, 3) := by decide +kernel
theorem dX12_both_90 : decode cX12_both 90 = .ok (.lconst 0, 1) := by decide +kernel
theorem dX12_both_91 : decode cX12_both 91 = .ok (.goto 6, 3) := by decide +kernel
theorem dX12_both_94 : decode cX12_both 94 = .ok (.lload_n 1, 1) := by decide +kernel
theorem dX12_both_95 : decode cX12_both 95 = .ok (.lload_n 3, 1) := by decide +kernel
theorem dX12_both_96 : decode cX12_both 96 = .ok (.ldiv, 1) := by decide +kernel
theorem dX12_both_97 : decode cX12_both 97 = .ok (.lreturn, 1) := by decide +kernel
theorem dX12_both_98 : decode cX12_both 98 = .ok (.lload_n 3, 1) := by decide +kernel
theorem dX12_both_99 : decode cX12_both 99 = .ok (.lconst 0, 1) := by decide +kernel
theorem dX12_both_100 : decode cX12_both 100 = .ok (.lcmp, 1) := by decide +kernel
theorem dX12_both_101 : decode cX12_both 101 = .ok (.ifCond .ne 7, 3) := by decide +kernel
theorem dX12_both_104 : decode cX12_both 104 = .ok (.lconst 0, 1) := by decide +kernel
theorem dX12_both_105 : decode cX12_both 105 = .ok (.goto 6, 3) := by decide +kernel
theorem dX12_both_108 : decode cX12_both 108 = .ok (.lload_n 1, 1) := by decide +kernel
theorem dX12_both_109 : decode cX12_both 109 = .ok (.lload_n 3, 1) := by decide +kernel
theorem dX12_both_110 : decode cX12_both 110 = .ok (.lrem, 1) := by decide +kernel
theorem dX12_both_111 : decode cX12_both 111 = .ok (.lreturn, 1) := by decide +kernel
theorem dX12_both_112 : decode cX12_both 112 = .ok (.lload_n 1, 1) := by decide +kernel
theorem dX12_both_113 : decode cX12_both 113 = .ok (.lload_n 3, 1) := by decide +kernel
theorem dX12_both_114 : decode cX12_both 114 = .ok (.lcmp, 1) := by decide +kernel
theorem dX12_both_115 : decode cX12_both 115 = .ok (.ifCond .ge 7, 3) := by decide +kernel
theorem dX12_both_118 : decode cX12_both 118 = .ok (.iconst 1, 1) := by decide +kernel
theorem dX12_both_119 : decode cX12_both 119 = .ok (.goto 4, 3) := by decide +kernel
theorem dX12_both_122 : decode cX12_both 122 = .ok (.iconst 0, 1) := by decide +kernel
theorem dX12_both_123 : decode cX12_both 123 = .ok (.invokestatic 350, 3) := by decide +kernel
theorem dX12_both_126 : decode cX12_both 126 = .ok (.lreturn, 1) := by decide +kernel
theorem dX12_both_127 : decode cX12_both 127 = .ok (.lload_n 1, 1) := by decide +kernel
theorem dX12_both_128 : decode cX12_both 128 = .ok (.lload_n 3, 1) := by decide +kernel
theorem dX12_both_129 : decode cX12_both 129 = .ok (.lcmp, 1) := by decide +kernel
theorem dX12_both_130 : decode cX12_both 130 = .ok (.ifCond .gt 7, 3) := by decide +kernel
theorem dX12_both_133 : decode cX12_both 133 = .ok (.iconst 1, 1) := by decide +kernel
theorem dX12_both_134 : decode cX12_both 134 = .ok (.goto 4, 3) := by decide +kernel
theorem dX12_both_137 : decode cX12_both 137 = .ok (.iconst 0, 1) := by decide +kernel
theorem dX12_both_138 : decode cX12_both 138 = .ok (.invokestatic 350, 3) := by decide +kernel
theorem dX12_both_141 : decode cX12_both 141 = .ok (.lreturn, 1) := by decide +kernel
theorem dX12_both_142 : decode cX12_both 142 = .ok (.lload_n 1, 1) := by decide +kernel
theorem dX12_both_143 : decode cX12_both 143 = .ok (.lload_n 3, 1) := by decide +kernel
theorem dX12_both_144 : decode cX12_both 144 = .ok (.lcmp, 1) := by decide +kernel
theorem dX12_both_145 : decode cX12_both 145 = .ok (.ifCond .ne 7, 3) := by decide +kernel
theorem dX12_both_148 : decode cX12_both 148 = .ok (.iconst 1, 1) := by decide +kernel
theorem dX12_both_149 : decode cX12_both 149 = .ok (.goto 4, 3) := by decide +kernel
theorem dX12_both_152 : decode cX12_both 152 = .ok (.iconst 0, 1) := by decide +kernel
theorem dX12_both_153 : decode cX12_both 153 = .ok (.invokestatic 350, 3) := by decide +kernel
theorem dX12_both_156 : decode cX12_both 156 = .ok (.lreturn, 1) := by decide +kernel
theorem dX12_both_157 : decode cX12_both 157 = .ok (.lload_n 1, 1) := by decide +kernel
theorem dX12_both_158 : decode cX12_both 158 = .ok (.lload_n 3, 1) := by decide +kernel
theorem dX12_both_159 : decode cX12_both 159 = .ok (.lcmp, 1) := by decide +kernel
theorem dX12_both_160 : decode cX12_both 160 = .ok (.ifCond .lt 7, 3) := by decide +kernel
theorem dX12_both_163 : decode cX12_both 163 = .ok (.iconst 1, 1) := by decide +kernel
theorem dX12_both_164 : decode cX12_both 164 = .ok (.goto 4, 3) := by decide +kernel
theorem dX12_both_167 : decode cX12_both 167 = .ok (.iconst 0, 1) := by decide +kernel
theorem dX12_both_168 : decode cX12_both 168 = .ok (.invokestatic 350, 3) := by decide +kernel
theorem dX12_both_171 : decode cX12_both 171 = .ok (.lreturn, 1) := by decide +kernel
theorem dX12_both_172 : decode cX12_both 172 = .ok (.lload_n 1, 1) := by decide +kernel
theorem dX12_both_173 : decode cX12_both 173 = .ok (.lload_n 3, 1) := by decide +kernel
theorem dX12_both_174 : decode cX12_both 174 = .ok (.lcmp, 1) := by decide +kernel
theorem dX12_both_175 : decode cX12_both 175 = .ok (.ifCond .le 7, 3) := by decide +kernel
theorem dX12_both_178 : decode cX12_both 178 = .ok (.iconst 1, 1) := by decide +kernel
theorem dX12_both_179 : decode cX12_both 179 = .ok (.goto 4, 3) := by decide +kernel
theorem dX12_both_182 : decode cX12_both 182 = .ok (.iconst 0, 1) := by decide +kernel
theorem dX12_both_183 : decode cX12_both 183 = .ok (.invokestatic 350, 3) := by decide +kernel
theorem dX12_both_186 : decode cX12_both 186 = .ok (.lreturn, 1) := by decide +kernel
theorem dX12_both_187 : decode cX12_both 187 = .ok (.lload_n 1, 1) := by decide +kernel
theorem dX12_both_188 : decode cX12_both 188 = .ok (.lload_n 3, 1) := by decide +kernel
theorem dX12_both_189 : decode cX12_both 189 = .ok (.land, 1) := by decide +kernel
theorem dX12_both_190 : decode cX12_both 190 = .ok (.lreturn, 1) := by decide +kernel
theorem dX12_both_191 : decode cX12_both 191 = .ok (.lload_n 1, 1) := by decide +kernel
theorem dX12_both_192 : decode cX12_both 192 = .ok (.lload_n 3, 1) := by decide +kernel
theorem dX12_both_193 : decode cX12_both 193 = .ok (.lor, 1) := by decide +kernel
theorem dX12_both_194 : decode cX12_both 194 = .ok (.lreturn, 1) := by decide +kernel
theorem dX12_answer_0 : decode cX12_answer 0 = .ok (.iconst 0, 1) := by decide +kernel
theorem dX12_answer_1 : decode cX12_answer 1 = .ok (.istore 4, 2) := by decide +kernel
theorem dX12_answer_3 : decode cX12_answer 3 = .ok (.iload_n 2, 1) := by decide +kernel
theorem dX12_answer_4 : decode cX12_answer 4 = .ok (.istore 5, 2) := by decide +kernel
theorem dX12_answer_6 : decode cX12_answer 6 = .ok (.iload 5, 2) := by decide +kernel
theorem dX12_answer_8 : decode cX12_answer 8 = .ok (.iload_n 3, 1) := by decide +kernel
theorem dX12_answer_9 : decode cX12_answer 9 = .ok (.if_icmp .ge 144, 3) := by decide +kernel
theorem dX12_answer_12 : decode cX12_answer 12 = .ok (.aload_n 0, 1) := by decide +kernel
theorem dX12_answer_13 : decode cX12_answer 13 = .ok (.getfield 96, 3) := by decide +kernel
theorem dX12_answer_16 : decode cX12_answer 16 = .ok (.sipush 300, 3) := by decide +kernel
theorem dX12_answer_19 : decode cX12_answer 19 = .ok (.iload_n 1, 1) := by decide +kernel
theorem dX12_answer_20 : decode cX12_answer 20 = .ok (.imul, 1) := by decide +kernel
theorem dX12_answer_21 : decode cX12_answer 21 = .ok (.iload 5, 2) := by decide +kernel
theorem dX12_answer_23 : decode cX12_answer 23 = .ok (.iadd, 1) := by decide +kernel
theorem dX12_answer_24 : decode cX12_answer 24 = .ok (.iaload, 1) := by decide +kernel
theorem dX12_answer_25 : decode cX12_answer 25 = .ok (.istore 6, 2) := by decide +kernel
theorem dX12_answer_27 : decode cX12_answer 27 = .ok (.aload_n 0, 1) := by decide +kernel
theorem dX12_answer_28 : decode cX12_answer 28 = .ok (.getfield 99, 3) := by decide +kernel
theorem dX12_answer_31 : decode cX12_answer 31 = .ok (.sipush 300, 3) := by decide +kernel
theorem dX12_answer_34 : decode cX12_answer 34 = .ok (.iload_n 1, 1) := by decide +kernel
theorem dX12_answer_35 : decode cX12_answer 35 = .ok (.imul, 1) := by decide +kernel
theorem dX12_answer_36 : decode cX12_answer 36 = .ok (.iload 5, 2) := by decide +kernel
theorem dX12_answer_38 : decode cX12_answer 38 = .ok (.iadd, 1) := by decide +kernel
theorem dX12_answer_39 : decode cX12_answer 39 = .ok (.iaload, 1) := by decide +kernel
theorem dX12_answer_40 : decode cX12_answer 40 = .ok (.istore 7, 2) := by decide +kernel
theorem dX12_answer_42 : decode cX12_answer 42 = .ok (.iload 6, 2) := by decide +kernel
theorem dX12_answer_44 : decode cX12_answer 44 = .ok (.ifCond .eq 9, 3) := by decide +kernel
theorem dX12_answer_47 : decode cX12_answer 47 = .ok (.iload 6, 2) := by decide +kernel
theorem dX12_answer_49 : decode cX12_answer 49 = .ok (.iconst 1, 1) := by decide +kernel
theorem dX12_answer_50 : decode cX12_answer 50 = .ok (.if_icmp .ne 34, 3) := by decide +kernel
theorem dX12_answer_53 : decode cX12_answer 53 = .ok (.aload_n 0, 1) := by decide +kernel
theorem dX12_answer_54 : decode cX12_answer 54 = .ok (.getfield 121, 3) := by decide +kernel
theorem dX12_answer_57 : decode cX12_answer 57 = .ok (.iload 4, 2) := by decide +kernel
theorem dX12_answer_59 : decode cX12_answer 59 = .ok (.iload 6, 2) := by decide +kernel
theorem dX12_answer_61 : decode cX12_answer 61 = .ok (.ifCond .ne 9, 3) := by decide +kernel
theorem dX12_answer_64 : decode cX12_answer 64 = .ok (.iload 7, 2) := by decide +kernel
theorem dX12_answer_66 : decode cX12_answer 66 = .ok (.i2l, 1) := by decide +kernel
theorem dX12_answer_67 : decode cX12_answer 67 = .ok (.goto 10, 3) := by decide +kernel
theorem dX12_answer_70 : decode cX12_answer 70 = .ok (.aload_n 0, 1) := by decide +kernel
theorem dX12_answer_71 : decode cX12_answer 71 = .ok (.getfield 117, 3) := by decide +kernel
theorem dX12_answer_74 : decode cX12_answer 74 = .ok (.iload 7, 2) := by decide +kernel
theorem dX12_answer_76 : decode cX12_answer 76 = .ok (.laload, 1) := by decide +kernel
theorem dX12_answer_77 : decode cX12_answer 77 = .ok (.lastore, 1) := by decide +kernel
theorem dX12_answer_78 : decode cX12_answer 78 = .ok (.iinc 4 1, 3) := by decide +kernel
theorem dX12_answer_81 : decode cX12_answer 81 = .ok (.goto 66, 3) := by decide +kernel
theorem dX12_answer_84 : decode cX12_answer 84 = .ok (.iload 6, 2) := by decide +kernel
theorem dX12_answer_86 : decode cX12_answer 86 = .ok (.bipush 9, 2) := by decide +kernel
theorem dX12_answer_88 : decode cX12_answer 88 = .ok (.if_icmp .ne 26, 3) := by decide +kernel
theorem dX12_answer_91 : decode cX12_answer 91 = .ok (.aload_n 0, 1) := by decide +kernel
theorem dX12_answer_92 : decode cX12_answer 92 = .ok (.getfield 121, 3) := by decide +kernel
theorem dX12_answer_95 : decode cX12_answer 95 = .ok (.iload 4, 2) := by decide +kernel
theorem dX12_answer_97 : decode cX12_answer 97 = .ok (.iconst 1, 1) := by decide +kernel
theorem dX12_answer_98 : decode cX12_answer 98 = .ok (.isub, 1) := by decide +kernel
theorem dX12_answer_99 : decode cX12_answer 99 = .ok (.lconst 1, 1) := by decide +kernel
theorem dX12_answer_100 : decode cX12_answer 100 = .ok (.aload_n 0, 1) := by decide +kernel
theorem dX12_answer_101 : decode cX12_answer 101 = .ok (.getfield 121, 3) := by decide +kernel
theorem dX12_answer_104 : decode cX12_answer 104 = .ok (.iload 4, 2) := by decide +kernel
theorem dX12_answer_106 : decode cX12_answer 106 = .ok (.iconst 1, 1) := by decide +kernel
theorem dX12_answer_107 : decode cX12_answer 107 = .ok (.isub, 1) := by decide +kernel
theorem dX12_answer_108 : decode cX12_answer 108 = .ok (.laload, 1) := by decide +kernel
theorem dX12_answer_109 : decode cX12_answer 109 = .ok (.lsub, 1) := by decide +kernel
theorem dX12_answer_110 : decode cX12_answer 110 = .ok (.lastore, 1) := by decide +kernel
theorem dX12_answer_111 : decode cX12_answer 111 = .ok (.goto 36, 3) := by decide +kernel
theorem dX12_answer_114 : decode cX12_answer 114 = .ok (.iinc 4 (-1), 3) := by decide +kernel
theorem dX12_answer_117 : decode cX12_answer 117 = .ok (.aload_n 0, 1) := by decide +kernel
theorem dX12_answer_118 : decode cX12_answer 118 = .ok (.getfield 121, 3) := by decide +kernel
theorem dX12_answer_121 : decode cX12_answer 121 = .ok (.iload 4, 2) := by decide +kernel
theorem dX12_answer_123 : decode cX12_answer 123 = .ok (.iconst 1, 1) := by decide +kernel
theorem dX12_answer_124 : decode cX12_answer 124 = .ok (.isub, 1) := by decide +kernel
theorem dX12_answer_125 : decode cX12_answer 125 = .ok (.iload 6, 2) := by decide +kernel
theorem dX12_answer_127 : decode cX12_answer 127 = .ok (.aload_n 0, 1) := by decide +kernel
theorem dX12_answer_128 : decode cX12_answer 128 = .ok (.getfield 121, 3) := by decide +kernel
theorem dX12_answer_131 : decode cX12_answer 131 = .ok (.iload 4, 2) := by decide +kernel
theorem dX12_answer_133 : decode cX12_answer 133 = .ok (.iconst 1, 1) := by decide +kernel
theorem dX12_answer_134 : decode cX12_answer 134 = .ok (.isub, 1) := by decide +kernel
theorem dX12_answer_135 : decode cX12_answer 135 = .ok (.laload, 1) := by decide +kernel
theorem dX12_answer_136 : decode cX12_answer 136 = .ok (.aload_n 0, 1) := by decide +kernel
theorem dX12_answer_137 : decode cX12_answer 137 = .ok (.getfield 121, 3) := by decide +kernel
theorem dX12_answer_140 : decode cX12_answer 140 = .ok (.iload 4, 2) := by decide +kernel
theorem dX12_answer_142 : decode cX12_answer 142 = .ok (.laload, 1) := by decide +kernel
theorem dX12_answer_143 : decode cX12_answer 143 = .ok (.invokestatic 354, 3) := by decide +kernel
theorem dX12_answer_146 : decode cX12_answer 146 = .ok (.lastore, 1) := by decide +kernel
theorem dX12_answer_147 : decode cX12_answer 147 = .ok (.iinc 5 1, 3) := by decide +kernel
theorem dX12_answer_150 : decode cX12_answer 150 = .ok (.goto (-144), 3) := by decide +kernel
theorem dX12_answer_153 : decode cX12_answer 153 = .ok (.aload_n 0, 1) := by decide +kernel
theorem dX12_answer_154 : decode cX12_answer 154 = .ok (.getfield 121, 3) := by decide +kernel
theorem dX12_answer_157 : decode cX12_answer 157 = .ok (.iconst 0, 1) := by decide +kernel
theorem dX12_answer_158 : decode cX12_answer 158 = .ok (.laload, 1) := by decide +kernel
theorem dX12_answer_159 : decode cX12_answer 159 = .ok (.lreturn, 1) := by decide +kernel
theorem dX12_sinceOf_0 : decode cX12_sinceOf 0 = .ok (.aload_n 0, 1) := by decide +kernel
theorem dX12_sinceOf_1 : decode cX12_sinceOf 1 = .ok (.getfield 9, 3) := by decide +kernel
theorem dX12_sinceOf_4 : decode cX12_sinceOf 4 = .ok (.iconst 5, 1) := by decide +kernel
theorem dX12_sinceOf_5 : decode cX12_sinceOf 5 = .ok (.iaload, 1) := by decide +kernel
theorem dX12_sinceOf_6 : decode cX12_sinceOf 6 = .ok (.aload_n 0, 1) := by decide +kernel
theorem dX12_sinceOf_7 : decode cX12_sinceOf 7 = .ok (.getfield 25, 3) := by decide +kernel
theorem dX12_sinceOf_10 : decode cX12_sinceOf 10 = .ok (.iload_n 1, 1) := by decide +kernel
theorem dX12_sinceOf_11 : decode cX12_sinceOf 11 = .ok (.iaload, 1) := by decide +kernel
theorem dX12_sinceOf_12 : decode cX12_sinceOf 12 = .ok (.isub, 1) := by decide +kernel
theorem dX12_sinceOf_13 : decode cX12_sinceOf 13 = .ok (.bipush 99, 2) := by decide +kernel
theorem dX12_sinceOf_15 : decode cX12_sinceOf 15 = .ok (.if_icmp .le 8, 3) := by decide +kernel
theorem dX12_sinceOf_18 : decode cX12_sinceOf 18 = .ok (.bipush 99, 2) := by decide +kernel
theorem dX12_sinceOf_20 : decode cX12_sinceOf 20 = .ok (.goto 16, 3) := by decide +kernel
theorem dX12_sinceOf_23 : decode cX12_sinceOf 23 = .ok (.aload_n 0, 1) := by decide +kernel
theorem dX12_sinceOf_24 : decode cX12_sinceOf 24 = .ok (.getfield 9, 3) := by decide +kernel
theorem dX12_sinceOf_27 : decode cX12_sinceOf 27 = .ok (.iconst 5, 1) := by decide +kernel
theorem dX12_sinceOf_28 : decode cX12_sinceOf 28 = .ok (.iaload, 1) := by decide +kernel
theorem dX12_sinceOf_29 : decode cX12_sinceOf 29 = .ok (.aload_n 0, 1) := by decide +kernel
theorem dX12_sinceOf_30 : decode cX12_sinceOf 30 = .ok (.getfield 25, 3) := by decide +kernel
theorem dX12_sinceOf_33 : decode cX12_sinceOf 33 = .ok (.iload_n 1, 1) := by decide +kernel
theorem dX12_sinceOf_34 : decode cX12_sinceOf 34 = .ok (.iaload, 1) := by decide +kernel
theorem dX12_sinceOf_35 : decode cX12_sinceOf 35 = .ok (.isub, 1) := by decide +kernel
theorem dX12_sinceOf_36 : decode cX12_sinceOf 36 = .ok (.ireturn, 1) := by decide +kernel
theorem dX12_person_0 : decode cX12_person 0 = .ok (.aload_n 0, 1) := by decide +kernel
theorem dX12_person_1 : decode cX12_person 1 = .ok (.iload_n 1, 1) := by decide +kernel
theorem dX12_person_2 : decode cX12_person 2 = .ok (.invokevirtual 358, 3) := by decide +kernel
theorem dX12_person_5 : decode cX12_person 5 = .ok (.ifCond .ne 5, 3) := by decide +kernel
theorem dX12_person_8 : decode cX12_person 8 = .ok (.iconst (-1), 1) := by decide +kernel
theorem dX12_person_9 : decode cX12_person 9 = .ok (.ireturn, 1) := by decide +kernel
theorem dX12_person_10 : decode cX12_person 10 = .ok (.iload_n 2, 1) := by decide +kernel
theorem dX12_person_11 : decode cX12_person 11 = .ok (.tableswitch 78 0 5 #[37, 44, 51, 58, 65, 72], 37) := by decide +kernel
theorem dX12_person_48 : decode cX12_person 48 = .ok (.aload_n 0, 1) := by decide +kernel
theorem dX12_person_49 : decode cX12_person 49 = .ok (.getfield 13, 3) := by decide +kernel
theorem dX12_person_52 : decode cX12_person 52 = .ok (.iload_n 1, 1) := by decide +kernel
theorem dX12_person_53 : decode cX12_person 53 = .ok (.iaload, 1) := by decide +kernel
theorem dX12_person_54 : decode cX12_person 54 = .ok (.ireturn, 1) := by decide +kernel
theorem dX12_person_55 : decode cX12_person 55 = .ok (.aload_n 0, 1) := by decide +kernel
theorem dX12_person_56 : decode cX12_person 56 = .ok (.getfield 34, 3) := by decide +kernel
theorem dX12_person_59 : decode cX12_person 59 = .ok (.iload_n 1, 1) := by decide +kernel
theorem dX12_person_60 : decode cX12_person 60 = .ok (.iaload, 1) := by decide +kernel
theorem dX12_person_61 : decode cX12_person 61 = .ok (.ireturn, 1) := by decide +kernel
theorem dX12_person_62 : decode cX12_person 62 = .ok (.aload_n 0, 1) := by decide +kernel
theorem dX12_person_63 : decode cX12_person 63 = .ok (.getfield 16, 3) := by decide +kernel
theorem dX12_person_66 : decode cX12_person 66 = .ok (.iload_n 1, 1) := by decide +kernel
theorem dX12_person_67 : decode cX12_person 67 = .ok (.iaload, 1) := by decide +kernel
theorem dX12_person_68 : decode cX12_person 68 = .ok (.ireturn, 1) := by decide +kernel
theorem dX12_person_69 : decode cX12_person 69 = .ok (.aload_n 0, 1) := by decide +kernel
theorem dX12_person_70 : decode cX12_person 70 = .ok (.getfield 19, 3) := by decide +kernel
theorem dX12_person_73 : decode cX12_person 73 = .ok (.iload_n 1, 1) := by decide +kernel
theorem dX12_person_74 : decode cX12_person 74 = .ok (.iaload, 1) := by decide +kernel
theorem dX12_person_75 : decode cX12_person 75 = .ok (.ireturn, 1) := by decide +kernel
theorem dX12_person_76 : decode cX12_person 76 = .ok (.aload_n 0, 1) := by decide +kernel
theorem dX12_person_77 : decode cX12_person 77 = .ok (.getfield 22, 3) := by decide +kernel
theorem dX12_person_80 : decode cX12_person 80 = .ok (.iload_n 1, 1) := by decide +kernel
theorem dX12_person_81 : decode cX12_person 81 = .ok (.iaload, 1) := by decide +kernel
theorem dX12_person_82 : decode cX12_person 82 = .ok (.ireturn, 1) := by decide +kernel
theorem dX12_person_83 : decode cX12_person 83 = .ok (.aload_n 0, 1) := by decide +kernel
theorem dX12_person_84 : decode cX12_person 84 = .ok (.iload_n 1, 1) := by decide +kernel
theorem dX12_person_85 : decode cX12_person 85 = .ok (.invokevirtual 362, 3) := by decide +kernel
theorem dX12_person_88 : decode cX12_person 88 = .ok (.ireturn, 1) := by decide +kernel
theorem dX12_person_89 : decode cX12_person 89 = .ok (.iconst (-1), 1) := by decide +kernel
theorem dX12_person_90 : decode cX12_person 90 = .ok (.ireturn, 1) := by decide +kernel
theorem dX12_mill_0 : decode cX12_mill 0 = .ok (.aload_n 0, 1) := by decide +kernel
theorem dX12_mill_1 : decode cX12_mill 1 = .ok (.iload_n 1, 1) := by decide +kernel
theorem dX12_mill_2 : decode cX12_mill 2 = .ok (.invokevirtual 365, 3) := by decide +kernel
theorem dX12_mill_5 : decode cX12_mill 5 = .ok (.ifCond .eq 15, 3) := by decide +kernel
theorem dX12_mill_8 : decode cX12_mill 8 = .ok (.iload_n 2, 1) := by decide +kernel
theorem dX12_mill_9 : decode cX12_mill 9 = .ok (.i2l, 1) := by decide +kernel
theorem dX12_mill_10 : decode cX12_mill 10 = .ok (.lconst 0, 1) := by decide +kernel
theorem dX12_mill_11 : decode cX12_mill 11 = .ok (.ldc2_w 368, 3) := by decide +kernel
theorem dX12_mill_14 : decode cX12_mill 14 = .ok (.invokestatic 159, 3) := by decide +kernel
theorem dX12_mill_17 : decode cX12_mill 17 = .ok (.ifCond .ne 5, 3) := by decide +kernel
theorem dX12_mill_20 : decode cX12_mill 20 = .ok (.iconst (-1), 1) := by decide +kernel
theorem dX12_mill_21 : decode cX12_mill 21 = .ok (.ireturn, 1) := by decide +kernel
theorem dX12_mill_22 : decode cX12_mill 22 = .ok (.iload_n 2, 1) := by decide +kernel
theorem dX12_mill_23 : decode cX12_mill 23 = .ok (.ifCond .ne 12, 3) := by decide +kernel
theorem dX12_mill_26 : decode cX12_mill 26 = .ok (.aload_n 0, 1) := by decide +kernel
theorem dX12_mill_27 : decode cX12_mill 27 = .ok (.getfield 37, 3) := by decide +kernel
theorem dX12_mill_30 : decode cX12_mill 30 = .ok (.iload_n 1, 1) := by decide +kernel
theorem dX12_mill_31 : decode cX12_mill 31 = .ok (.iaload, 1) := by decide +kernel
theorem dX12_mill_32 : decode cX12_mill 32 = .ok (.goto 23, 3) := by decide +kernel
theorem dX12_mill_35 : decode cX12_mill 35 = .ok (.iload_n 2, 1) := by decide +kernel
theorem dX12_mill_36 : decode cX12_mill 36 = .ok (.iconst 1, 1) := by decide +kernel
theorem dX12_mill_37 : decode cX12_mill 37 = .ok (.if_icmp .ne 12, 3) := by decide +kernel
theorem dX12_mill_40 : decode cX12_mill 40 = .ok (.aload_n 0, 1) := by decide +kernel
theorem dX12_mill_41 : decode cX12_mill 41 = .ok (.getfield 40, 3) := by decide +kernel
theorem dX12_mill_44 : decode cX12_mill 44 = .ok (.iload_n 1, 1) := by decide +kernel
theorem dX12_mill_45 : decode cX12_mill 45 = .ok (.iaload, 1) := by decide +kernel
theorem dX12_mill_46 : decode cX12_mill 46 = .ok (.goto 9, 3) := by decide +kernel
theorem dX12_mill_49 : decode cX12_mill 49 = .ok (.aload_n 0, 1) := by decide +kernel
theorem dX12_mill_50 : decode cX12_mill 50 = .ok (.getfield 28, 3) := by decide +kernel
theorem dX12_mill_53 : decode cX12_mill 53 = .ok (.iload_n 1, 1) := by decide +kernel
theorem dX12_mill_54 : decode cX12_mill 54 = .ok (.iaload, 1) := by decide +kernel
theorem dX12_mill_55 : decode cX12_mill 55 = .ok (.ireturn, 1) := by decide +kernel
theorem dX12_roof_0 : decode cX12_roof 0 = .ok (.aload_n 0, 1) := by decide +kernel
theorem dX12_roof_1 : decode cX12_roof 1 = .ok (.iload_n 1, 1) := by decide +kernel
theorem dX12_roof_2 : decode cX12_roof 2 = .ok (.invokevirtual 370, 3) := by decide +kernel
theorem dX12_roof_5 : decode cX12_roof 5 = .ok (.ifCond .eq 15, 3) := by decide +kernel
theorem dX12_roof_8 : decode cX12_roof 8 = .ok (.iload_n 2, 1) := by decide +kernel
theorem dX12_roof_9 : decode cX12_roof 9 = .ok (.i2l, 1) := by decide +kernel
theorem dX12_roof_10 : decode cX12_roof 10 = .ok (.lconst 0, 1) := by decide +kernel
theorem dX12_roof_11 : decode cX12_roof 11 = .ok (.ldc2_w 368, 3) := by decide +kernel
theorem dX12_roof_14 : decode cX12_roof 14 = .ok (.invokestatic 159, 3) := by decide +kernel
theorem dX12_roof_17 : decode cX12_roof 17 = .ok (.ifCond .ne 5, 3) := by decide +kernel
theorem dX12_roof_20 : decode cX12_roof 20 = .ok (.iconst (-1), 1) := by decide +kernel
theorem dX12_roof_21 : decode cX12_roof 21 = .ok (.ireturn, 1) := by decide +kernel
theorem dX12_roof_22 : decode cX12_roof 22 = .ok (.iload_n 2, 1) := by decide +kernel
theorem dX12_roof_23 : decode cX12_roof 23 = .ok (.ifCond .ne 12, 3) := by decide +kernel
theorem dX12_roof_26 : decode cX12_roof 26 = .ok (.aload_n 0, 1) := by decide +kernel
theorem dX12_roof_27 : decode cX12_roof 27 = .ok (.getfield 43, 3) := by decide +kernel
theorem dX12_roof_30 : decode cX12_roof 30 = .ok (.iload_n 1, 1) := by decide +kernel
theorem dX12_roof_31 : decode cX12_roof 31 = .ok (.iaload, 1) := by decide +kernel
theorem dX12_roof_32 : decode cX12_roof 32 = .ok (.goto 28, 3) := by decide +kernel
theorem dX12_roof_35 : decode cX12_roof 35 = .ok (.iload_n 2, 1) := by decide +kernel
theorem dX12_roof_36 : decode cX12_roof 36 = .ok (.iconst 1, 1) := by decide +kernel
theorem dX12_roof_37 : decode cX12_roof 37 = .ok (.if_icmp .ne 12, 3) := by decide +kernel
theorem dX12_roof_40 : decode cX12_roof 40 = .ok (.aload_n 0, 1) := by decide +kernel
theorem dX12_roof_41 : decode cX12_roof 41 = .ok (.getfield 46, 3) := by decide +kernel
theorem dX12_roof_44 : decode cX12_roof 44 = .ok (.iload_n 1, 1) := by decide +kernel
theorem dX12_roof_45 : decode cX12_roof 45 = .ok (.iaload, 1) := by decide +kernel
theorem dX12_roof_46 : decode cX12_roof 46 = .ok (.goto 14, 3) := by decide +kernel
theorem dX12_roof_49 : decode cX12_roof 49 = .ok (.aload_n 0, 1) := by decide +kernel
theorem dX12_roof_50 : decode cX12_roof 50 = .ok (.getfield 9, 3) := by decide +kernel
theorem dX12_roof_53 : decode cX12_roof 53 = .ok (.bipush 6, 2) := by decide +kernel
theorem dX12_roof_55 : decode cX12_roof 55 = .ok (.iaload, 1) := by decide +kernel
theorem dX12_roof_56 : decode cX12_roof 56 = .ok (.iload_n 1, 1) := by decide +kernel
theorem dX12_roof_57 : decode cX12_roof 57 = .ok (.ishr, 1) := by decide +kernel
theorem dX12_roof_58 : decode cX12_roof 58 = .ok (.iconst 1, 1) := by decide +kernel
theorem dX12_roof_59 : decode cX12_roof 59 = .ok (.iand, 1) := by decide +kernel
theorem dX12_roof_60 : decode cX12_roof 60 = .ok (.ireturn, 1) := by decide +kernel
theorem dX12_wind_0 : decode cX12_wind 0 = .ok (.aload_n 0, 1) := by decide +kernel
theorem dX12_wind_1 : decode cX12_wind 1 = .ok (.iload_n 1, 1) := by decide +kernel
theorem dX12_wind_2 : decode cX12_wind 2 = .ok (.invokevirtual 373, 3) := by decide +kernel
theorem dX12_wind_5 : decode cX12_wind 5 = .ok (.ifCond .eq 12, 3) := by decide +kernel
theorem dX12_wind_8 : decode cX12_wind 8 = .ok (.aload_n 0, 1) := by decide +kernel
theorem dX12_wind_9 : decode cX12_wind 9 = .ok (.getfield 31, 3) := by decide +kernel
theorem dX12_wind_12 : decode cX12_wind 12 = .ok (.iload_n 1, 1) := by decide +kernel
theorem dX12_wind_13 : decode cX12_wind 13 = .ok (.iaload, 1) := by decide +kernel
theorem dX12_wind_14 : decode cX12_wind 14 = .ok (.goto 4, 3) := by decide +kernel
theorem dX12_wind_17 : decode cX12_wind 17 = .ok (.iconst (-1), 1) := by decide +kernel
theorem dX12_wind_18 : decode cX12_wind 18 = .ok (.ireturn, 1) := by decide +kernel
theorem dX12_allGround_0 : decode cX12_allGround 0 = .ok (.iconst 0, 1) := by decide +kernel
theorem dX12_allGround_1 : decode cX12_allGround 1 = .ok (.istore_n 1, 1) := by decide +kernel
theorem dX12_allGround_2 : decode cX12_allGround 2 = .ok (.iconst 0, 1) := by decide +kernel
theorem dX12_allGround_3 : decode cX12_allGround 3 = .ok (.istore_n 2, 1) := by decide +kernel
theorem dX12_allGround_4 : decode cX12_allGround 4 = .ok (.iload_n 2, 1) := by decide +kernel
theorem dX12_allGround_5 : decode cX12_allGround 5 = .ok (.aload_n 0, 1) := by decide +kernel
theorem dX12_allGround_6 : decode cX12_allGround 6 = .ok (.getfield 9, 3) := by decide +kernel
theorem dX12_allGround_9 : decode cX12_allGround 9 = .ok (.iconst 3, 1) := by decide +kernel
theorem dX12_allGround_10 : decode cX12_allGround 10 = .ok (.iaload, 1) := by decide +kernel
theorem dX12_allGround_11 : decode cX12_allGround 11 = .ok (.if_icmp .ge 18, 3) := by decide +kernel
theorem dX12_allGround_14 : decode cX12_allGround 14 = .ok (.iload_n 1, 1) := by decide +kernel
theorem dX12_allGround_15 : decode cX12_allGround 15 = .ok (.aload_n 0, 1) := by decide +kernel
theorem dX12_allGround_16 : decode cX12_allGround 16 = .ok (.getfield 28, 3) := by decide +kernel
theorem dX12_allGround_19 : decode cX12_allGround 19 = .ok (.iload_n 2, 1) := by decide +kernel
theorem dX12_allGround_20 : decode cX12_allGround 20 = .ok (.iaload, 1) := by decide +kernel
theorem dX12_allGround_21 : decode cX12_allGround 21 = .ok (.iadd, 1) := by decide +kernel
theorem dX12_allGround_22 : decode cX12_allGround 22 = .ok (.istore_n 1, 1) := by decide +kernel
theorem dX12_allGround_23 : decode cX12_allGround 23 = .ok (.iinc 2 1, 3) := by decide +kernel
theorem dX12_allGround_26 : decode cX12_allGround 26 = .ok (.goto (-22), 3) := by decide +kernel
theorem dX12_allGround_29 : decode cX12_allGround 29 = .ok (.iload_n 1, 1) := by decide +kernel
theorem dX12_allGround_30 : decode cX12_allGround 30 = .ok (.ireturn, 1) := by decide +kernel
theorem dX12_allWind_0 : decode cX12_allWind 0 = .ok (.iconst 0, 1) := by decide +kernel
theorem dX12_allWind_1 : decode cX12_allWind 1 = .ok (.istore_n 1, 1) := by decide +kernel
theorem dX12_allWind_2 : decode cX12_allWind 2 = .ok (.iconst 0, 1) := by decide +kernel
theorem dX12_allWind_3 : decode cX12_allWind 3 = .ok (.istore_n 2, 1) := by decide +kernel
theorem dX12_allWind_4 : decode cX12_allWind 4 = .ok (.iload_n 2, 1) := by decide +kernel
theorem dX12_allWind_5 : decode cX12_allWind 5 = .ok (.aload_n 0, 1) := by decide +kernel
theorem dX12_allWind_6 : decode cX12_allWind 6 = .ok (.invokevirtual 155, 3) := by decide +kernel
theorem dX12_allWind_9 : decode cX12_allWind 9 = .ok (.if_icmp .ge 18, 3) := by decide +kernel
theorem dX12_allWind_12 : decode cX12_allWind 12 = .ok (.iload_n 1, 1) := by decide +kernel
theorem dX12_allWind_13 : decode cX12_allWind 13 = .ok (.aload_n 0, 1) := by decide +kernel
theorem dX12_allWind_14 : decode cX12_allWind 14 = .ok (.getfield 31, 3) := by decide +kernel
theorem dX12_allWind_17 : decode cX12_allWind 17 = .ok (.iload_n 2, 1) := by decide +kernel
theorem dX12_allWind_18 : decode cX12_allWind 18 = .ok (.iaload, 1) := by decide +kernel
theorem dX12_allWind_19 : decode cX12_allWind 19 = .ok (.iadd, 1) := by decide +kernel
theorem dX12_allWind_20 : decode cX12_allWind 20 = .ok (.istore_n 1, 1) := by decide +kernel
theorem dX12_allWind_21 : decode cX12_allWind 21 = .ok (.iinc 2 1, 3) := by decide +kernel
theorem dX12_allWind_24 : decode cX12_allWind 24 = .ok (.goto (-20), 3) := by decide +kernel
theorem dX12_allWind_27 : decode cX12_allWind 27 = .ok (.iload_n 1, 1) := by decide +kernel
theorem dX12_allWind_28 : decode cX12_allWind 28 = .ok (.ireturn, 1) := by decide +kernel
theorem dX12_allActed_0 : decode cX12_allActed 0 = .ok (.iconst 0, 1) := by decide +kernel
theorem dX12_allActed_1 : decode cX12_allActed 1 = .ok (.istore_n 1, 1) := by decide +kernel
theorem dX12_allActed_2 : decode cX12_allActed 2 = .ok (.iconst 0, 1) := by decide +kernel
theorem dX12_allActed_3 : decode cX12_allActed 3 = .ok (.istore_n 2, 1) := by decide +kernel
theorem dX12_allActed_4 : decode cX12_allActed 4 = .ok (.iload_n 2, 1) := by decide +kernel
theorem dX12_allActed_5 : decode cX12_allActed 5 = .ok (.aload_n 0, 1) := by decide +kernel
theorem dX12_allActed_6 : decode cX12_allActed 6 = .ok (.getfield 9, 3) := by decide +kernel
theorem dX12_allActed_9 : decode cX12_allActed 9 = .ok (.iconst 2, 1) := by decide +kernel
theorem dX12_allActed_10 : decode cX12_allActed 10 = .ok (.iaload, 1) := by decide +kernel
theorem dX12_allActed_11 : decode cX12_allActed 11 = .ok (.if_icmp .ge 18, 3) := by decide +kernel
theorem dX12_allActed_14 : decode cX12_allActed 14 = .ok (.iload_n 1, 1) := by decide +kernel
theorem dX12_allActed_15 : decode cX12_allActed 15 = .ok (.aload_n 0, 1) := by decide +kernel
theorem dX12_allActed_16 : decode cX12_allActed 16 = .ok (.getfield 22, 3) := by decide +kernel
theorem dX12_allActed_19 : decode cX12_allActed 19 = .ok (.iload_n 2, 1) := by decide +kernel
theorem dX12_allActed_20 : decode cX12_allActed 20 = .ok (.iaload, 1) := by decide +kernel
theorem dX12_allActed_21 : decode cX12_allActed 21 = .ok (.iadd, 1) := by decide +kernel
theorem dX12_allActed_22 : decode cX12_allActed 22 = .ok (.istore_n 1, 1) := by decide +kernel
theorem dX12_allActed_23 : decode cX12_allActed 23 = .ok (.iinc 2 1, 3) := by decide +kernel
theorem dX12_allActed_26 : decode cX12_allActed 26 = .ok (.goto (-22), 3) := by decide +kernel
theorem dX12_allActed_29 : decode cX12_allActed 29 = .ok (.iload_n 1, 1) := by decide +kernel
theorem dX12_allActed_30 : decode cX12_allActed 30 = .ok (.ireturn, 1) := by decide +kernel
theorem dX12_upTo_0 : decode cX12_upTo 0 = .ok (.iload_n 0, 1) := by decide +kernel
theorem dX12_upTo_1 : decode cX12_upTo 1 = .ok (.iload_n 1, 1) := by decide +kernel
theorem dX12_upTo_2 : decode cX12_upTo 2 = .ok (.if_icmp .le 7, 3) := by decide +kernel
theorem dX12_upTo_5 : decode cX12_upTo 5 = .ok (.iload_n 1, 1) := by decide +kernel
theorem dX12_upTo_6 : decode cX12_upTo 6 = .ok (.goto 4, 3) := by decide +kernel
theorem dX12_upTo_9 : decode cX12_upTo 9 = .ok (.iload_n 0, 1) := by decide +kernel
theorem dX12_upTo_10 : decode cX12_upTo 10 = .ok (.ireturn, 1) := by decide +kernel
theorem dX12_before_0 : decode cX12_before 0 = .ok (.aload_n 0, 1) := by decide +kernel
theorem dX12_before_1 : decode cX12_before 1 = .ok (.getfield 9, 3) := by decide +kernel
theorem dX12_before_4 : decode cX12_before 4 = .ok (.iconst 0, 1) := by decide +kernel
theorem dX12_before_5 : decode cX12_before 5 = .ok (.iaload, 1) := by decide +kernel
theorem dX12_before_6 : decode cX12_before 6 = .ok (.istore_n 3, 1) := by decide +kernel
theorem dX12_before_7 : decode cX12_before 7 = .ok (.iload_n 1, 1) := by decide +kernel
theorem dX12_before_8 : decode cX12_before 8 = .ok (.iload_n 3, 1) := by decide +kernel
theorem dX12_before_9 : decode cX12_before 9 = .ok (.idiv, 1) := by decide +kernel
theorem dX12_before_10 : decode cX12_before 10 = .ok (.iload_n 2, 1) := by decide +kernel
theorem dX12_before_11 : decode cX12_before 11 = .ok (.ifCond .ne 7, 3) := by decide +kernel
theorem dX12_before_14 : decode cX12_before 14 = .ok (.iconst (-1), 1) := by decide +kernel
theorem dX12_before_15 : decode cX12_before 15 = .ok (.goto 13, 3) := by decide +kernel
theorem dX12_before_18 : decode cX12_before 18 = .ok (.iload_n 2, 1) := by decide +kernel
theorem dX12_before_19 : decode cX12_before 19 = .ok (.iconst 2, 1) := by decide +kernel
theorem dX12_before_20 : decode cX12_before 20 = .ok (.if_icmp .ne 7, 3) := by decide +kernel
theorem dX12_before_23 : decode cX12_before 23 = .ok (.iconst 1, 1) := by decide +kernel
theorem dX12_before_24 : decode cX12_before 24 = .ok (.goto 4, 3) := by decide +kernel
theorem dX12_before_27 : decode cX12_before 27 = .ok (.iconst 0, 1) := by decide +kernel
theorem dX12_before_28 : decode cX12_before 28 = .ok (.iadd, 1) := by decide +kernel
theorem dX12_before_29 : decode cX12_before 29 = .ok (.istore 4, 2) := by decide +kernel
theorem dX12_before_31 : decode cX12_before 31 = .ok (.iload_n 1, 1) := by decide +kernel
theorem dX12_before_32 : decode cX12_before 32 = .ok (.iload_n 3, 1) := by decide +kernel
theorem dX12_before_33 : decode cX12_before 33 = .ok (.irem, 1) := by decide +kernel
theorem dX12_before_34 : decode cX12_before 34 = .ok (.iload_n 2, 1) := by decide +kernel
theorem dX12_before_35 : decode cX12_before 35 = .ok (.iconst 1, 1) := by decide +kernel
theorem dX12_before_36 : decode cX12_before 36 = .ok (.if_icmp .ne 7, 3) := by decide +kernel
theorem dX12_before_39 : decode cX12_before 39 = .ok (.iconst 1, 1) := by decide +kernel
theorem dX12_before_40 : decode cX12_before 40 = .ok (.goto 13, 3) := by decide +kernel
theorem dX12_before_43 : decode cX12_before 43 = .ok (.iload_n 2, 1) := by decide +kernel
theorem dX12_before_44 : decode cX12_before 44 = .ok (.iconst 3, 1) := by decide +kernel
theorem dX12_before_45 : decode cX12_before 45 = .ok (.if_icmp .ne 7, 3) := by decide +kernel
theorem dX12_before_48 : decode cX12_before 48 = .ok (.iconst (-1), 1) := by decide +kernel
theorem dX12_before_49 : decode cX12_before 49 = .ok (.goto 4, 3) := by decide +kernel
theorem dX12_before_52 : decode cX12_before 52 = .ok (.iconst 0, 1) := by decide +kernel
theorem dX12_before_53 : decode cX12_before 53 = .ok (.iadd, 1) := by decide +kernel
theorem dX12_before_54 : decode cX12_before 54 = .ok (.istore 5, 2) := by decide +kernel
theorem dX12_before_56 : decode cX12_before 56 = .ok (.iload 4, 2) := by decide +kernel
theorem dX12_before_58 : decode cX12_before 58 = .ok (.ifCond .lt 20, 3) := by decide +kernel
theorem dX12_before_61 : decode cX12_before 61 = .ok (.iload 5, 2) := by decide +kernel
theorem dX12_before_63 : decode cX12_before 63 = .ok (.ifCond .lt 15, 3) := by decide +kernel
theorem dX12_before_66 : decode cX12_before 66 = .ok (.iload 4, 2) := by decide +kernel
theorem dX12_before_68 : decode cX12_before 68 = .ok (.iload_n 3, 1) := by decide +kernel
theorem dX12_before_69 : decode cX12_before 69 = .ok (.if_icmp .eq 9, 3) := by decide +kernel
theorem dX12_before_72 : decode cX12_before 72 = .ok (.iload 5, 2) := by decide +kernel
theorem dX12_before_74 : decode cX12_before 74 = .ok (.iload_n 3, 1) := by decide +kernel
theorem dX12_before_75 : decode cX12_before 75 = .ok (.if_icmp .ne 7, 3) := by decide +kernel
theorem dX12_before_78 : decode cX12_before 78 = .ok (.iconst (-1), 1) := by decide +kernel
theorem dX12_before_79 : decode cX12_before 79 = .ok (.goto 10, 3) := by decide +kernel
theorem dX12_before_82 : decode cX12_before 82 = .ok (.iload_n 3, 1) := by decide +kernel
theorem dX12_before_83 : decode cX12_before 83 = .ok (.iload 4, 2) := by decide +kernel
theorem dX12_before_85 : decode cX12_before 85 = .ok (.imul, 1) := by decide +kernel
theorem dX12_before_86 : decode cX12_before 86 = .ok (.iload 5, 2) := by decide +kernel
theorem dX12_before_88 : decode cX12_before 88 = .ok (.iadd, 1) := by decide +kernel
theorem dX12_before_89 : decode cX12_before 89 = .ok (.ireturn, 1) := by decide +kernel
theorem dX12_puffIn_0 : decode cX12_puffIn 0 = .ok (.aload_n 0, 1) := by decide +kernel
theorem dX12_puffIn_1 : decode cX12_puffIn 1 = .ok (.getfield 19, 3) := by decide +kernel
theorem dX12_puffIn_4 : decode cX12_puffIn 4 = .ok (.iload_n 1, 1) := by decide +kernel
theorem dX12_puffIn_5 : decode cX12_puffIn 5 = .ok (.iaload, 1) := by decide +kernel
theorem dX12_puffIn_6 : decode cX12_puffIn 6 = .ok (.istore_n 3, 1) := by decide +kernel
theorem dX12_puffIn_7 : decode cX12_puffIn 7 = .ok (.aload_n 0, 1) := by decide +kernel
theorem dX12_puffIn_8 : decode cX12_puffIn 8 = .ok (.aload_n 0, 1) := by decide +kernel
theorem dX12_puffIn_9 : decode cX12_puffIn 9 = .ok (.getfield 13, 3) := by decide +kernel
theorem dX12_puffIn_12 : decode cX12_puffIn 12 = .ok (.iload_n 1, 1) := by decide +kernel
theorem dX12_puffIn_13 : decode cX12_puffIn 13 = .ok (.iaload, 1) := by decide +kernel
theorem dX12_puffIn_14 : decode cX12_puffIn 14 = .ok (.aload_n 0, 1) := by decide +kernel
theorem dX12_puffIn_15 : decode cX12_puffIn 15 = .ok (.getfield 16, 3) := by decide +kernel
theorem dX12_puffIn_18 : decode cX12_puffIn 18 = .ok (.iload_n 1, 1) := by decide +kernel
theorem dX12_puffIn_19 : decode cX12_puffIn 19 = .ok (.iaload, 1) := by decide +kernel
theorem dX12_puffIn_20 : decode cX12_puffIn 20 = .ok (.invokevirtual 376, 3) := by decide +kernel
theorem dX12_puffIn_23 : decode cX12_puffIn 23 = .ok (.istore 4, 2) := by decide +kernel
theorem dX12_puffIn_25 : decode cX12_puffIn 25 = .ok (.iload 4, 2) := by decide +kernel
theorem dX12_puffIn_27 : decode cX12_puffIn 27 = .ok (.iconst (-1), 1) := by decide +kernel
theorem dX12_puffIn_28 : decode cX12_puffIn 28 = .ok (.if_icmp .eq 35, 3) := by decide +kernel
theorem dX12_puffIn_31 : decode cX12_puffIn 31 = .ok (.iload_n 3, 1) := by decide +kernel
theorem dX12_puffIn_32 : decode cX12_puffIn 32 = .ok (.ifCond .le 31, 3) := by decide +kernel
theorem dX12_puffIn_35 : decode cX12_puffIn 35 = .ok (.iload 4, 2) := by decide +kernel
theorem dX12_puffIn_37 : decode cX12_puffIn 37 = .ok (.iload_n 2, 1) := by decide +kernel
theorem dX12_puffIn_38 : decode cX12_puffIn 38 = .ok (.if_icmp .ne 5, 3) := by decide +kernel
theorem dX12_puffIn_41 : decode cX12_puffIn 41 = .ok (.iload_n 3, 1) := by decide +kernel
theorem dX12_puffIn_42 : decode cX12_puffIn 42 = .ok (.ireturn, 1) := by decide +kernel
theorem dX12_puffIn_43 : decode cX12_puffIn 43 = .ok (.iinc 3 (-1), 3) := by decide +kernel
theorem dX12_puffIn_46 : decode cX12_puffIn 46 = .ok (.aload_n 0, 1) := by decide +kernel
theorem dX12_puffIn_47 : decode cX12_puffIn 47 = .ok (.iload 4, 2) := by decide +kernel
theorem dX12_puffIn_49 : decode cX12_puffIn 49 = .ok (.aload_n 0, 1) := by decide +kernel
theorem dX12_puffIn_50 : decode cX12_puffIn 50 = .ok (.getfield 16, 3) := by decide +kernel
theorem dX12_puffIn_53 : decode cX12_puffIn 53 = .ok (.iload_n 1, 1) := by decide +kernel
theorem dX12_puffIn_54 : decode cX12_puffIn 54 = .ok (.iaload, 1) := by decide +kernel
theorem dX12_puffIn_55 : decode cX12_puffIn 55 = .ok (.invokevirtual 376, 3) := by decide +kernel
theorem dX12_puffIn_58 : decode cX12_puffIn 58 = .ok (.istore 4, 2) := by decide +kernel
theorem dX12_puffIn_60 : decode cX12_puffIn 60 = .ok (.goto (-35), 3) := by decide +kernel
theorem dX12_puffIn_63 : decode cX12_puffIn 63 = .ok (.iconst 0, 1) := by decide +kernel
theorem dX12_puffIn_64 : decode cX12_puffIn 64 = .ok (.ireturn, 1) := by decide +kernel
theorem dX12_givesWay_0 : decode cX12_givesWay 0 = .ok (.iload_n 1, 1) := by decide +kernel
theorem dX12_givesWay_1 : decode cX12_givesWay 1 = .ok (.aload_n 0, 1) := by decide +kernel
theorem dX12_givesWay_2 : decode cX12_givesWay 2 = .ok (.getfield 124, 3) := by decide +kernel
theorem dX12_givesWay_5 : decode cX12_givesWay 5 = .ok (.if_icmp .ne 5, 3) := by decide +kernel
theorem dX12_givesWay_8 : decode cX12_givesWay 8 = .ok (.iconst 0, 1) := by decide +kernel
theorem dX12_givesWay_9 : decode cX12_givesWay 9 = .ok (.ireturn, 1) := by decide +kernel
theorem dX12_givesWay_10 : decode cX12_givesWay 10 = .ok (.aload_n 0, 1) := by decide +kernel
theorem dX12_givesWay_11 : decode cX12_givesWay 11 = .ok (.getfield 9, 3) := by decide +kernel
theorem dX12_givesWay_14 : decode cX12_givesWay 14 = .ok (.bipush 9, 2) := by decide +kernel
theorem dX12_givesWay_16 : decode cX12_givesWay 16 = .ok (.iaload, 1) := by decide +kernel
theorem dX12_givesWay_17 : decode cX12_givesWay 17 = .ok (.iconst (-1), 1) := by decide +kernel
theorem dX12_givesWay_18 : decode cX12_givesWay 18 = .ok (.if_icmp .ne 24, 3) := by decide +kernel
theorem dX12_givesWay_21 : decode cX12_givesWay 21 = .ok (.aload_n 0, 1) := by decide +kernel
theorem dX12_givesWay_22 : decode cX12_givesWay 22 = .ok (.getfield 19, 3) := by decide +kernel
theorem dX12_givesWay_25 : decode cX12_givesWay 25 = .ok (.iload_n 1, 1) := by decide +kernel
theorem dX12_givesWay_26 : decode cX12_givesWay 26 = .ok (.iaload, 1) := by decide +kernel
theorem dX12_givesWay_27 : decode cX12_givesWay 27 = .ok (.aload_n 0, 1) := by decide +kernel
theorem dX12_givesWay_28 : decode cX12_givesWay 28 = .ok (.getfield 34, 3) := by decide +kernel
theorem dX12_givesWay_31 : decode cX12_givesWay 31 = .ok (.iload_n 1, 1) := by decide +kernel
theorem dX12_givesWay_32 : decode cX12_givesWay 32 = .ok (.iaload, 1) := by decide +kernel
theorem dX12_givesWay_33 : decode cX12_givesWay 33 = .ok (.if_icmp .le 7, 3) := by decide +kernel
theorem dX12_givesWay_36 : decode cX12_givesWay 36 = .ok (.iconst 1, 1) := by decide +kernel
theorem dX12_givesWay_37 : decode cX12_givesWay 37 = .ok (.goto 4, 3) := by decide +kernel
theorem dX12_givesWay_40 : decode cX12_givesWay 40 = .ok (.iconst 0, 1) := by decide +kernel
theorem dX12_givesWay_41 : decode cX12_givesWay 41 = .ok (.ireturn, 1) := by decide +kernel
theorem dX12_givesWay_42 : decode cX12_givesWay 42 = .ok (.aload_n 0, 1) := by decide +kernel
theorem dX12_givesWay_43 : decode cX12_givesWay 43 = .ok (.getfield 117, 3) := by decide +kernel
theorem dX12_givesWay_46 : decode cX12_givesWay 46 = .ok (.iconst 0, 1) := by decide +kernel
theorem dX12_givesWay_47 : decode cX12_givesWay 47 = .ok (.iload_n 1, 1) := by decide +kernel
theorem dX12_givesWay_48 : decode cX12_givesWay 48 = .ok (.i2l, 1) := by decide +kernel
theorem dX12_givesWay_49 : decode cX12_givesWay 49 = .ok (.lastore, 1) := by decide +kernel
theorem dX12_givesWay_50 : decode cX12_givesWay 50 = .ok (.aload_n 0, 1) := by decide +kernel
theorem dX12_givesWay_51 : decode cX12_givesWay 51 = .ok (.getfield 117, 3) := by decide +kernel
theorem dX12_givesWay_54 : decode cX12_givesWay 54 = .ok (.iconst 1, 1) := by decide +kernel
theorem dX12_givesWay_55 : decode cX12_givesWay 55 = .ok (.aload_n 0, 1) := by decide +kernel
theorem dX12_givesWay_56 : decode cX12_givesWay 56 = .ok (.getfield 19, 3) := by decide +kernel
theorem dX12_givesWay_59 : decode cX12_givesWay 59 = .ok (.iload_n 1, 1) := by decide +kernel
theorem dX12_givesWay_60 : decode cX12_givesWay 60 = .ok (.iaload, 1) := by decide +kernel
theorem dX12_givesWay_61 : decode cX12_givesWay 61 = .ok (.i2l, 1) := by decide +kernel
theorem dX12_givesWay_62 : decode cX12_givesWay 62 = .ok (.lastore, 1) := by decide +kernel
theorem dX12_givesWay_63 : decode cX12_givesWay 63 = .ok (.aload_n 0, 1) := by decide +kernel
theorem dX12_givesWay_64 : decode cX12_givesWay 64 = .ok (.getfield 117, 3) := by decide +kernel
theorem dX12_givesWay_67 : decode cX12_givesWay 67 = .ok (.iconst 2, 1) := by decide +kernel
theorem dX12_givesWay_68 : decode cX12_givesWay 68 = .ok (.aload_n 0, 1) := by decide +kernel
theorem dX12_givesWay_69 : decode cX12_givesWay 69 = .ok (.getfield 34, 3) := by decide +kernel
theorem dX12_givesWay_72 : decode cX12_givesWay 72 = .ok (.iload_n 1, 1) := by decide +kernel
theorem dX12_givesWay_73 : decode cX12_givesWay 73 = .ok (.iaload, 1) := by decide +kernel
theorem dX12_givesWay_74 : decode cX12_givesWay 74 = .ok (.i2l, 1) := by decide +kernel
theorem dX12_givesWay_75 : decode cX12_givesWay 75 = .ok (.lastore, 1) := by decide +kernel
theorem dX12_givesWay_76 : decode cX12_givesWay 76 = .ok (.aload_n 0, 1) := by decide +kernel
theorem dX12_givesWay_77 : decode cX12_givesWay 77 = .ok (.getfield 117, 3) := by decide +kernel
theorem dX12_givesWay_80 : decode cX12_givesWay 80 = .ok (.iconst 3, 1) := by decide +kernel
theorem dX12_givesWay_81 : decode cX12_givesWay 81 = .ok (.aload_n 0, 1) := by decide +kernel
theorem dX12_givesWay_82 : decode cX12_givesWay 82 = .ok (.getfield 16, 3) := by decide +kernel
theorem dX12_givesWay_85 : decode cX12_givesWay 85 = .ok (.iload_n 1, 1) := by decide +kernel
theorem dX12_givesWay_86 : decode cX12_givesWay 86 = .ok (.iaload, 1) := by decide +kernel
theorem dX12_givesWay_87 : decode cX12_givesWay 87 = .ok (.i2l, 1) := by decide +kernel
theorem dX12_givesWay_88 : decode cX12_givesWay 88 = .ok (.lastore, 1) := by decide +kernel
theorem dX12_givesWay_89 : decode cX12_givesWay 89 = .ok (.aload_n 0, 1) := by decide +kernel
theorem dX12_givesWay_90 : decode cX12_givesWay 90 = .ok (.getfield 117, 3) := by decide +kernel
theorem dX12_givesWay_93 : decode cX12_givesWay 93 = .ok (.iconst 4, 1) := by decide +kernel
theorem dX12_givesWay_94 : decode cX12_givesWay 94 = .ok (.aload_n 0, 1) := by decide +kernel
theorem dX12_givesWay_95 : decode cX12_givesWay 95 = .ok (.getfield 13, 3) := by decide +kernel
theorem dX12_givesWay_98 : decode cX12_givesWay 98 = .ok (.iload_n 1, 1) := by decide +kernel
theorem dX12_givesWay_99 : decode cX12_givesWay 99 = .ok (.iaload, 1) := by decide +kernel
theorem dX12_givesWay_100 : decode cX12_givesWay 100 = .ok (.aload_n 0, 1) := by decide +kernel
theorem dX12_givesWay_101 : decode cX12_givesWay 101 = .ok (.getfield 9, 3) := by decide +kernel
theorem dX12_givesWay_104 : decode cX12_givesWay 104 = .ok (.iconst 0, 1) := by decide +kernel
theorem dX12_givesWay_105 : decode cX12_givesWay 105 = .ok (.iaload, 1) := by decide +kernel
theorem dX12_givesWay_106 : decode cX12_givesWay 106 = .ok (.idiv, 1) := by decide +kernel
theorem dX12_givesWay_107 : decode cX12_givesWay 107 = .ok (.i2l, 1) := by decide +kernel
theorem dX12_givesWay_108 : decode cX12_givesWay 108 = .ok (.lastore, 1) := by decide +kernel
theorem dX12_givesWay_109 : decode cX12_givesWay 109 = .ok (.aload_n 0, 1) := by decide +kernel
theorem dX12_givesWay_110 : decode cX12_givesWay 110 = .ok (.getfield 117, 3) := by decide +kernel
theorem dX12_givesWay_113 : decode cX12_givesWay 113 = .ok (.iconst 5, 1) := by decide +kernel
theorem dX12_givesWay_114 : decode cX12_givesWay 114 = .ok (.aload_n 0, 1) := by decide +kernel
theorem dX12_givesWay_115 : decode cX12_givesWay 115 = .ok (.getfield 13, 3) := by decide +kernel
theorem dX12_givesWay_118 : decode cX12_givesWay 118 = .ok (.iload_n 1, 1) := by decide +kernel
theorem dX12_givesWay_119 : decode cX12_givesWay 119 = .ok (.iaload, 1) := by decide +kernel
theorem dX12_givesWay_120 : decode cX12_givesWay 120 = .ok (.aload_n 0, 1) := by decide +kernel
theorem dX12_givesWay_121 : decode cX12_givesWay 121 = .ok (.getfield 9, 3) := by decide +kernel
theorem dX12_givesWay_124 : decode cX12_givesWay 124 = .ok (.iconst 0, 1) := by decide +kernel
theorem dX12_givesWay_125 : decode cX12_givesWay 125 = .ok (.iaload, 1) := by decide +kernel
theorem dX12_givesWay_126 : decode cX12_givesWay 126 = .ok (.irem, 1) := by decide +kernel
theorem dX12_givesWay_127 : decode cX12_givesWay 127 = .ok (.i2l, 1) := by decide +kernel
theorem dX12_givesWay_128 : decode cX12_givesWay 128 = .ok (.lastore, 1) := by decide +kernel
theorem dX12_givesWay_129 : decode cX12_givesWay 129 = .ok (.aload_n 0, 1) := by decide +kernel
theorem dX12_givesWay_130 : decode cX12_givesWay 130 = .ok (.getfield 117, 3) := by decide +kernel
theorem dX12_givesWay_133 : decode cX12_givesWay 133 = .ok (.bipush 6, 2) := by decide +kernel
theorem dX12_givesWay_135 : decode cX12_givesWay 135 = .ok (.aload_n 0, 1) := by decide +kernel
theorem dX12_givesWay_136 : decode cX12_givesWay 136 = .ok (.getfield 31, 3) := by decide +kernel
theorem dX12_givesWay_139 : decode cX12_givesWay 139 = .ok (.aload_n 0, 1) := by decide +kernel
theorem dX12_givesWay_140 : decode cX12_givesWay 140 = .ok (.getfield 13, 3) := by decide +kernel
theorem dX12_givesWay_143 : decode cX12_givesWay 143 = .ok (.iload_n 1, 1) := by decide +kernel
theorem dX12_givesWay_144 : decode cX12_givesWay 144 = .ok (.iaload, 1) := by decide +kernel
theorem dX12_givesWay_145 : decode cX12_givesWay 145 = .ok (.iaload, 1) := by decide +kernel
theorem dX12_givesWay_146 : decode cX12_givesWay 146 = .ok (.i2l, 1) := by decide +kernel
theorem dX12_givesWay_147 : decode cX12_givesWay 147 = .ok (.lastore, 1) := by decide +kernel
theorem dX12_givesWay_148 : decode cX12_givesWay 148 = .ok (.aload_n 0, 1) := by decide +kernel
theorem dX12_givesWay_149 : decode cX12_givesWay 149 = .ok (.getfield 117, 3) := by decide +kernel
theorem dX12_givesWay_152 : decode cX12_givesWay 152 = .ok (.bipush 7, 2) := by decide +kernel
theorem dX12_givesWay_154 : decode cX12_givesWay 154 = .ok (.aload_n 0, 1) := by decide +kernel
theorem dX12_givesWay_155 : decode cX12_givesWay 155 = .ok (.getfield 22, 3) := by decide +kernel
theorem dX12_givesWay_158 : decode cX12_givesWay 158 = .ok (.iload_n 1, 1) := by decide +kernel
theorem dX12_givesWay_159 : decode cX12_givesWay 159 = .ok (.iaload, 1) := by decide +kernel
theorem dX12_givesWay_160 : decode cX12_givesWay 160 = .ok (.i2l, 1) := by decide +kernel
theorem dX12_givesWay_161 : decode cX12_givesWay 161 = .ok (.lastore, 1) := by decide +kernel
theorem dX12_givesWay_162 : decode cX12_givesWay 162 = .ok (.aload_n 0, 1) := by decide +kernel
theorem dX12_givesWay_163 : decode cX12_givesWay 163 = .ok (.getfield 117, 3) := by decide +kernel
theorem dX12_givesWay_166 : decode cX12_givesWay 166 = .ok (.bipush 8, 2) := by decide +kernel
theorem dX12_givesWay_168 : decode cX12_givesWay 168 = .ok (.aload_n 0, 1) := by decide +kernel
theorem dX12_givesWay_169 : decode cX12_givesWay 169 = .ok (.iload_n 1, 1) := by decide +kernel
theorem dX12_givesWay_170 : decode cX12_givesWay 170 = .ok (.invokevirtual 362, 3) := by decide +kernel
theorem dX12_givesWay_173 : decode cX12_givesWay 173 = .ok (.i2l, 1) := by decide +kernel
theorem dX12_givesWay_174 : decode cX12_givesWay 174 = .ok (.lastore, 1) := by decide +kernel
theorem dX12_givesWay_175 : decode cX12_givesWay 175 = .ok (.aload_n 0, 1) := by decide +kernel
theorem dX12_givesWay_176 : decode cX12_givesWay 176 = .ok (.getfield 117, 3) := by decide +kernel
theorem dX12_givesWay_179 : decode cX12_givesWay 179 = .ok (.bipush 9, 2) := by decide +kernel
theorem dX12_givesWay_181 : decode cX12_givesWay 181 = .ok (.aload_n 0, 1) := by decide +kernel
theorem dX12_givesWay_182 : decode cX12_givesWay 182 = .ok (.invokevirtual 379, 3) := by decide +kernel
theorem dX12_givesWay_185 : decode cX12_givesWay 185 = .ok (.i2l, 1) := by decide +kernel
theorem dX12_givesWay_186 : decode cX12_givesWay 186 = .ok (.lastore, 1) := by decide +kernel
theorem dX12_givesWay_187 : decode cX12_givesWay 187 = .ok (.aload_n 0, 1) := by decide +kernel
theorem dX12_givesWay_188 : decode cX12_givesWay 188 = .ok (.getfield 117, 3) := by decide +kernel
theorem dX12_givesWay_191 : decode cX12_givesWay 191 = .ok (.bipush 10, 2) := by decide +kernel
theorem dX12_givesWay_193 : decode cX12_givesWay 193 = .ok (.aload_n 0, 1) := by decide +kernel
theorem dX12_givesWay_194 : decode cX12_givesWay 194 = .ok (.getfield 9, 3) := by decide +kernel
theorem dX12_givesWay_197 : decode cX12_givesWay 197 = .ok (.bipush 6, 2) := by decide +kernel
theorem dX12_givesWay_199 : decode cX12_givesWay 199 = .ok (.iaload, 1) := by decide +kernel
theorem dX12_givesWay_200 : decode cX12_givesWay 200 = .ok (.invokestatic 382, 3) := by decide +kernel
theorem dX12_givesWay_203 : decode cX12_givesWay 203 = .ok (.i2l, 1) := by decide +kernel
theorem dX12_givesWay_204 : decode cX12_givesWay 204 = .ok (.lastore, 1) := by decide +kernel
theorem dX12_givesWay_205 : decode cX12_givesWay 205 = .ok (.aload_n 0, 1) := by decide +kernel
theorem dX12_givesWay_206 : decode cX12_givesWay 206 = .ok (.getfield 117, 3) := by decide +kernel
theorem dX12_givesWay_209 : decode cX12_givesWay 209 = .ok (.bipush 11, 2) := by decide +kernel
theorem dX12_givesWay_211 : decode cX12_givesWay 211 = .ok (.aload_n 0, 1) := by decide +kernel
theorem dX12_givesWay_212 : decode cX12_givesWay 212 = .ok (.getfield 9, 3) := by decide +kernel
theorem dX12_givesWay_215 : decode cX12_givesWay 215 = .ok (.iconst 5, 1) := by decide +kernel
theorem dX12_givesWay_216 : decode cX12_givesWay 216 = .ok (.iaload, 1) := by decide +kernel
theorem dX12_givesWay_217 : decode cX12_givesWay 217 = .ok (.i2l, 1) := by decide +kernel
theorem dX12_givesWay_218 : decode cX12_givesWay 218 = .ok (.lastore, 1) := by decide +kernel
theorem dX12_givesWay_219 : decode cX12_givesWay 219 = .ok (.aload_n 0, 1) := by decide +kernel
theorem dX12_givesWay_220 : decode cX12_givesWay 220 = .ok (.invokevirtual 385, 3) := by decide +kernel
theorem dX12_givesWay_223 : decode cX12_givesWay 223 = .ok (.lconst 0, 1) := by decide +kernel
theorem dX12_givesWay_224 : decode cX12_givesWay 224 = .ok (.lcmp, 1) := by decide +kernel
theorem dX12_givesWay_225 : decode cX12_givesWay 225 = .ok (.ifCond .le 7, 3) := by decide +kernel
theorem dX12_givesWay_228 : decode cX12_givesWay 228 = .ok (.iconst 1, 1) := by decide +kernel
theorem dX12_givesWay_229 : decode cX12_givesWay 229 = .ok (.goto 4, 3) := by decide +kernel
theorem dX12_givesWay_232 : decode cX12_givesWay 232 = .ok (.iconst 0, 1) := by decide +kernel
theorem dX12_givesWay_233 : decode cX12_givesWay 233 = .ok (.ireturn, 1) := by decide +kernel
theorem dX12_blows_0 : decode cX12_blows 0 = .ok (.iconst 0, 1) := by decide +kernel
theorem dX12_blows_1 : decode cX12_blows 1 = .ok (.istore_n 2, 1) := by decide +kernel
theorem dX12_blows_2 : decode cX12_blows 2 = .ok (.iload_n 2, 1) := by decide +kernel
theorem dX12_blows_3 : decode cX12_blows 3 = .ok (.aload_n 0, 1) := by decide +kernel
theorem dX12_blows_4 : decode cX12_blows 4 = .ok (.invokevirtual 155, 3) := by decide +kernel
theorem dX12_blows_7 : decode cX12_blows 7 = .ok (.if_icmp .ge 61, 3) := by decide +kernel
theorem dX12_blows_10 : decode cX12_blows 10 = .ok (.aload_n 0, 1) := by decide +kernel
theorem dX12_blows_11 : decode cX12_blows 11 = .ok (.getfield 31, 3) := by decide +kernel
theorem dX12_blows_14 : decode cX12_blows 14 = .ok (.iload_n 2, 1) := by decide +kernel
theorem dX12_blows_15 : decode cX12_blows 15 = .ok (.iconst 0, 1) := by decide +kernel
theorem dX12_blows_16 : decode cX12_blows 16 = .ok (.iastore, 1) := by decide +kernel
theorem dX12_blows_17 : decode cX12_blows 17 = .ok (.iconst 0, 1) := by decide +kernel
theorem dX12_blows_18 : decode cX12_blows 18 = .ok (.istore_n 3, 1) := by decide +kernel
theorem dX12_blows_19 : decode cX12_blows 19 = .ok (.iload_n 3, 1) := by decide +kernel
theorem dX12_blows_20 : decode cX12_blows 20 = .ok (.aload_n 0, 1) := by decide +kernel
theorem dX12_blows_21 : decode cX12_blows 21 = .ok (.getfield 9, 3) := by decide +kernel
theorem dX12_blows_24 : decode cX12_blows 24 = .ok (.iconst 2, 1) := by decide +kernel
theorem dX12_blows_25 : decode cX12_blows 25 = .ok (.iaload, 1) := by decide +kernel
theorem dX12_blows_26 : decode cX12_blows 26 = .ok (.if_icmp .ge 36, 3) := by decide +kernel
theorem dX12_blows_29 : decode cX12_blows 29 = .ok (.aload_n 0, 1) := by decide +kernel
theorem dX12_blows_30 : decode cX12_blows 30 = .ok (.getfield 31, 3) := by decide +kernel
theorem dX12_blows_33 : decode cX12_blows 33 = .ok (.iload_n 2, 1) := by decide +kernel
theorem dX12_blows_34 : decode cX12_blows 34 = .ok (.dup2, 1) := by decide +kernel
theorem dX12_blows_35 : decode cX12_blows 35 = .ok (.iaload, 1) := by decide +kernel
theorem dX12_blows_36 : decode cX12_blows 36 = .ok (.iload_n 1, 1) := by decide +kernel
theorem dX12_blows_37 : decode cX12_blows 37 = .ok (.iload_n 3, 1) := by decide +kernel
theorem dX12_blows_38 : decode cX12_blows 38 = .ok (.invokestatic 389, 3) := by decide +kernel
theorem dX12_blows_41 : decode cX12_blows 41 = .ok (.ifCond .eq 12, 3) := by decide +kernel
theorem dX12_blows_44 : decode cX12_blows 44 = .ok (.aload_n 0, 1) := by decide +kernel
theorem dX12_blows_45 : decode cX12_blows 45 = .ok (.iload_n 3, 1) := by decide +kernel
theorem dX12_blows_46 : decode cX12_blows 46 = .ok (.iload_n 2, 1) := by decide +kernel
theorem dX12_blows_47 : decode cX12_blows 47 = .ok (.invokevirtual 392, 3) := by decide +kernel
theorem dX12_blows_50 : decode cX12_blows 50 = .ok (.goto 4, 3) := by decide +kernel
theorem dX12_blows_53 : decode cX12_blows 53 = .ok (.iconst 0, 1) := by decide +kernel
theorem dX12_blows_54 : decode cX12_blows 54 = .ok (.iadd, 1) := by decide +kernel
theorem dX12_blows_55 : decode cX12_blows 55 = .ok (.iastore, 1) := by decide +kernel
theorem dX12_blows_56 : decode cX12_blows 56 = .ok (.iinc 3 1, 3) := by decide +kernel
theorem dX12_blows_59 : decode cX12_blows 59 = .ok (.goto (-40), 3) := by decide +kernel
theorem dX12_blows_62 : decode cX12_blows 62 = .ok (.iinc 2 1, 3) := by decide +kernel
theorem dX12_blows_65 : decode cX12_blows 65 = .ok (.goto (-63), 3) := by decide +kernel
theorem dX12_blows_68 : decode cX12_blows 68 = .ok (.iconst 0, 1) := by decide +kernel
theorem dX12_blows_69 : decode cX12_blows 69 = .ok (.istore_n 2, 1) := by decide +kernel
theorem dX12_blows_70 : decode cX12_blows 70 = .ok (.iload_n 2, 1) := by decide +kernel
theorem dX12_blows_71 : decode cX12_blows 71 = .ok (.aload_n 0, 1) := by decide +kernel
theorem dX12_blows_72 : decode cX12_blows 72 = .ok (.getfield 9, 3) := by decide +kernel
theorem dX12_blows_75 : decode cX12_blows 75 = .ok (.iconst 2, 1) := by decide +kernel
theorem dX12_blows_76 : decode cX12_blows 76 = .ok (.iaload, 1) := by decide +kernel
theorem dX12_blows_77 : decode cX12_blows 77 = .ok (.if_icmp .ge 46, 3) := by decide +kernel
theorem dX12_blows_80 : decode cX12_blows 80 = .ok (.iload_n 1, 1) := by decide +kernel
theorem dX12_blows_81 : decode cX12_blows 81 = .ok (.iload_n 2, 1) := by decide +kernel
theorem dX12_blows_82 : decode cX12_blows 82 = .ok (.invokestatic 389, 3) := by decide +kernel
theorem dX12_blows_85 : decode cX12_blows 85 = .ok (.ifCond .eq 32, 3) := by decide +kernel
theorem dX12_blows_88 : decode cX12_blows 88 = .ok (.aload_n 0, 1) := by decide +kernel
theorem dX12_blows_89 : decode cX12_blows 89 = .ok (.getfield 19, 3) := by decide +kernel
theorem dX12_blows_92 : decode cX12_blows 92 = .ok (.iload_n 2, 1) := by decide +kernel
theorem dX12_blows_93 : decode cX12_blows 93 = .ok (.iconst 0, 1) := by decide +kernel
theorem dX12_blows_94 : decode cX12_blows 94 = .ok (.iastore, 1) := by decide +kernel
theorem dX12_blows_95 : decode cX12_blows 95 = .ok (.aload_n 0, 1) := by decide +kernel
theorem dX12_blows_96 : decode cX12_blows 96 = .ok (.getfield 22, 3) := by decide +kernel
theorem dX12_blows_99 : decode cX12_blows 99 = .ok (.iload_n 2, 1) := by decide +kernel
theorem dX12_blows_100 : decode cX12_blows 100 = .ok (.dup2, 1) := by decide +kernel
theorem dX12_blows_101 : decode cX12_blows 101 = .ok (.iaload, 1) := by decide +kernel
theorem dX12_blows_102 : decode cX12_blows 102 = .ok (.iconst 1, 1) := by decide +kernel
theorem dX12_blows_103 : decode cX12_blows 103 = .ok (.iadd, 1) := by decide +kernel
theorem dX12_blows_104 : decode cX12_blows 104 = .ok (.iastore, 1) := by decide +kernel
theorem dX12_blows_105 : decode cX12_blows 105 = .ok (.aload_n 0, 1) := by decide +kernel
theorem dX12_blows_106 : decode cX12_blows 106 = .ok (.getfield 25, 3) := by decide +kernel
theorem dX12_blows_109 : decode cX12_blows 109 = .ok (.iload_n 2, 1) := by decide +kernel
theorem dX12_blows_110 : decode cX12_blows 110 = .ok (.aload_n 0, 1) := by decide +kernel
theorem dX12_blows_111 : decode cX12_blows 111 = .ok (.getfield 9, 3) := by decide +kernel
theorem dX12_blows_114 : decode cX12_blows 114 = .ok (.iconst 5, 1) := by decide +kernel
theorem dX12_blows_115 : decode cX12_blows 115 = .ok (.iaload, 1) := by decide +kernel
theorem dX12_blows_116 : decode cX12_blows 116 = .ok (.iastore, 1) := by decide +kernel
theorem dX12_blows_117 : decode cX12_blows 117 = .ok (.iinc 2 1, 3) := by decide +kernel
theorem dX12_blows_120 : decode cX12_blows 120 = .ok (.goto (-50), 3) := by decide +kernel
theorem dX12_blows_123 : decode cX12_blows 123 = .ok (.return_, 1) := by decide +kernel
theorem dX12_works_0 : decode cX12_works 0 = .ok (.iconst 0, 1) := by decide +kernel
theorem dX12_works_1 : decode cX12_works 1 = .ok (.istore_n 1, 1) := by decide +kernel
theorem dX12_works_2 : decode cX12_works 2 = .ok (.iload_n 1, 1) := by decide +kernel
theorem dX12_works_3 : decode cX12_works 3 = .ok (.aload_n 0, 1) := by decide +kernel
theorem dX12_works_4 : decode cX12_works 4 = .ok (.getfield 9, 3) := by decide +kernel
theorem dX12_works_7 : decode cX12_works 7 = .ok (.iconst 3, 1) := by decide +kernel
theorem dX12_works_8 : decode cX12_works 8 = .ok (.iaload, 1) := by decide +kernel
theorem dX12_works_9 : decode cX12_works 9 = .ok (.if_icmp .ge 48, 3) := by decide +kernel
theorem dX12_works_12 : decode cX12_works 12 = .ok (.aload_n 0, 1) := by decide +kernel
theorem dX12_works_13 : decode cX12_works 13 = .ok (.getfield 28, 3) := by decide +kernel
theorem dX12_works_16 : decode cX12_works 16 = .ok (.iload_n 1, 1) := by decide +kernel
theorem dX12_works_17 : decode cX12_works 17 = .ok (.aload_n 0, 1) := by decide +kernel
theorem dX12_works_18 : decode cX12_works 18 = .ok (.getfield 28, 3) := by decide +kernel
theorem dX12_works_21 : decode cX12_works 21 = .ok (.iload_n 1, 1) := by decide +kernel
theorem dX12_works_22 : decode cX12_works 22 = .ok (.iaload, 1) := by decide +kernel
theorem dX12_works_23 : decode cX12_works 23 = .ok (.aload_n 0, 1) := by decide +kernel
theorem dX12_works_24 : decode cX12_works 24 = .ok (.getfield 31, 3) := by decide +kernel
theorem dX12_works_27 : decode cX12_works 27 = .ok (.aload_n 0, 1) := by decide +kernel
theorem dX12_works_28 : decode cX12_works 28 = .ok (.getfield 37, 3) := by decide +kernel
theorem dX12_works_31 : decode cX12_works 31 = .ok (.iload_n 1, 1) := by decide +kernel
theorem dX12_works_32 : decode cX12_works 32 = .ok (.iaload, 1) := by decide +kernel
theorem dX12_works_33 : decode cX12_works 33 = .ok (.iaload, 1) := by decide +kernel
theorem dX12_works_34 : decode cX12_works 34 = .ok (.aload_n 0, 1) := by decide +kernel
theorem dX12_works_35 : decode cX12_works 35 = .ok (.getfield 40, 3) := by decide +kernel
theorem dX12_works_38 : decode cX12_works 38 = .ok (.iload_n 1, 1) := by decide +kernel
theorem dX12_works_39 : decode cX12_works 39 = .ok (.iaload, 1) := by decide +kernel
theorem dX12_works_40 : decode cX12_works 40 = .ok (.invokestatic 395, 3) := by decide +kernel
theorem dX12_works_43 : decode cX12_works 43 = .ok (.iadd, 1) := by decide +kernel
theorem dX12_works_44 : decode cX12_works 44 = .ok (.sipush 9999, 3) := by decide +kernel
theorem dX12_works_47 : decode cX12_works 47 = .ok (.invokestatic 395, 3) := by decide +kernel
theorem dX12_works_50 : decode cX12_works 50 = .ok (.iastore, 1) := by decide +kernel
theorem dX12_works_51 : decode cX12_works 51 = .ok (.iinc 1 1, 3) := by decide +kernel
theorem dX12_works_54 : decode cX12_works 54 = .ok (.goto (-52), 3) := by decide +kernel
theorem dX12_works_57 : decode cX12_works 57 = .ok (.iconst 0, 1) := by decide +kernel
theorem dX12_works_58 : decode cX12_works 58 = .ok (.istore_n 1, 1) := by decide +kernel
theorem dX12_works_59 : decode cX12_works 59 = .ok (.iload_n 1, 1) := by decide +kernel
theorem dX12_works_60 : decode cX12_works 60 = .ok (.aload_n 0, 1) := by decide +kernel
theorem dX12_works_61 : decode cX12_works 61 = .ok (.getfield 9, 3) := by decide +kernel
theorem dX12_works_64 : decode cX12_works 64 = .ok (.iconst 4, 1) := by decide +kernel
theorem dX12_works_65 : decode cX12_works 65 = .ok (.iaload, 1) := by decide +kernel
theorem dX12_works_66 : decode cX12_works 66 = .ok (.if_icmp .ge 46, 3) := by decide +kernel
theorem dX12_works_69 : decode cX12_works 69 = .ok (.aload_n 0, 1) := by decide +kernel
theorem dX12_works_70 : decode cX12_works 70 = .ok (.getfield 9, 3) := by decide +kernel
theorem dX12_works_73 : decode cX12_works 73 = .ok (.bipush 6, 2) := by decide +kernel
theorem dX12_works_75 : decode cX12_works 75 = .ok (.dup2, 1) := by decide +kernel
theorem dX12_works_76 : decode cX12_works 76 = .ok (.iaload, 1) := by decide +kernel
theorem dX12_works_77 : decode cX12_works 77 = .ok (.aload_n 0, 1) := by decide +kernel
theorem dX12_works_78 : decode cX12_works 78 = .ok (.getfield 31, 3) := by decide +kernel
theorem dX12_works_81 : decode cX12_works 81 = .ok (.aload_n 0, 1) := by decide +kernel
theorem dX12_works_82 : decode cX12_works 82 = .ok (.getfield 43, 3) := by decide +kernel
theorem dX12_works_85 : decode cX12_works 85 = .ok (.iload_n 1, 1) := by decide +kernel
theorem dX12_works_86 : decode cX12_works 86 = .ok (.iaload, 1) := by decide +kernel
theorem dX12_works_87 : decode cX12_works 87 = .ok (.iaload, 1) := by decide +kernel
theorem dX12_works_88 : decode cX12_works 88 = .ok (.aload_n 0, 1) := by decide +kernel
theorem dX12_works_89 : decode cX12_works 89 = .ok (.getfield 46, 3) := by decide +kernel
theorem dX12_works_92 : decode cX12_works 92 = .ok (.iload_n 1, 1) := by decide +kernel
theorem dX12_works_93 : decode cX12_works 93 = .ok (.iaload, 1) := by decide +kernel
theorem dX12_works_94 : decode cX12_works 94 = .ok (.if_icmp .le 9, 3) := by decide +kernel
theorem dX12_works_97 : decode cX12_works 97 = .ok (.iconst 1, 1) := by decide +kernel
theorem dX12_works_98 : decode cX12_works 98 = .ok (.iload_n 1, 1) := by decide +kernel
theorem dX12_works_99 : decode cX12_works 99 = .ok (.ishl, 1) := by decide +kernel
theorem dX12_works_100 : decode cX12_works 100 = .ok (.goto 4, 3) := by decide +kernel
theorem dX12_works_103 : decode cX12_works 103 = .ok (.iconst 0, 1) := by decide +kernel
theorem dX12_works_104 : decode cX12_works 104 = .ok (.ior, 1) := by decide +kernel
theorem dX12_works_105 : decode cX12_works 105 = .ok (.iastore, 1) := by decide +kernel
theorem dX12_works_106 : decode cX12_works 106 = .ok (.iinc 1 1, 3) := by decide +kernel
theorem dX12_works_109 : decode cX12_works 109 = .ok (.goto (-50), 3) := by decide +kernel
theorem dX12_works_112 : decode cX12_works 112 = .ok (.iconst 0, 1) := by decide +kernel
theorem dX12_works_113 : decode cX12_works 113 = .ok (.istore_n 1, 1) := by decide +kernel
theorem dX12_works_114 : decode cX12_works 114 = .ok (.iload_n 1, 1) := by decide +kernel
theorem dX12_works_115 : decode cX12_works 115 = .ok (.aload_n 0, 1) := by decide +kernel
theorem dX12_works_116 : decode cX12_works 116 = .ok (.getfield 9, 3) := by decide +kernel
theorem dX12_works_119 : decode cX12_works 119 = .ok (.iconst 2, 1) := by decide +kernel
theorem dX12_works_120 : decode cX12_works 120 = .ok (.iaload, 1) := by decide +kernel
theorem dX12_works_121 : decode cX12_works 121 = .ok (.if_icmp .ge 45, 3) := by decide +kernel
theorem dX12_works_124 : decode cX12_works 124 = .ok (.aload_n 0, 1) := by decide +kernel
theorem dX12_works_125 : decode cX12_works 125 = .ok (.getfield 19, 3) := by decide +kernel
theorem dX12_works_128 : decode cX12_works 128 = .ok (.iload_n 1, 1) := by decide +kernel
theorem dX12_works_129 : decode cX12_works 129 = .ok (.aload_n 0, 1) := by decide +kernel
theorem dX12_works_130 : decode cX12_works 130 = .ok (.getfield 19, 3) := by decide +kernel
theorem dX12_works_133 : decode cX12_works 133 = .ok (.iload_n 1, 1) := by decide +kernel
theorem dX12_works_134 : decode cX12_works 134 = .ok (.iaload, 1) := by decide +kernel
theorem dX12_works_135 : decode cX12_works 135 = .ok (.aload_n 0, 1) := by decide +kernel
theorem dX12_works_136 : decode cX12_works 136 = .ok (.getfield 31, 3) := by decide +kernel
theorem dX12_works_139 : decode cX12_works 139 = .ok (.aload_n 0, 1) := by decide +kernel
theorem dX12_works_140 : decode cX12_works 140 = .ok (.getfield 13, 3) := by decide +kernel
theorem dX12_works_143 : decode cX12_works 143 = .ok (.iload_n 1, 1) := by decide +kernel
theorem dX12_works_144 : decode cX12_works 144 = .ok (.iaload, 1) := by decide +kernel
theorem dX12_works_145 : decode cX12_works 145 = .ok (.iaload, 1) := by decide +kernel
theorem dX12_works_146 : decode cX12_works 146 = .ok (.aload_n 0, 1) := by decide +kernel
theorem dX12_works_147 : decode cX12_works 147 = .ok (.getfield 9, 3) := by decide +kernel
theorem dX12_works_150 : decode cX12_works 150 = .ok (.iconst 1, 1) := by decide +kernel
theorem dX12_works_151 : decode cX12_works 151 = .ok (.iaload, 1) := by decide +kernel
theorem dX12_works_152 : decode cX12_works 152 = .ok (.idiv, 1) := by decide +kernel
theorem dX12_works_153 : decode cX12_works 153 = .ok (.iadd, 1) := by decide +kernel
theorem dX12_works_154 : decode cX12_works 154 = .ok (.bipush 99, 2) := by decide +kernel
theorem dX12_works_156 : decode cX12_works 156 = .ok (.invokestatic 395, 3) := by decide +kernel
theorem dX12_works_159 : decode cX12_works 159 = .ok (.iastore, 1) := by decide +kernel
theorem dX12_works_160 : decode cX12_works 160 = .ok (.iinc 1 1, 3) := by decide +kernel
theorem dX12_works_163 : decode cX12_works 163 = .ok (.goto (-49), 3) := by decide +kernel
theorem dX12_works_166 : decode cX12_works 166 = .ok (.return_, 1) := by decide +kernel
theorem dX12_goes_0 : decode cX12_goes 0 = .ok (.iconst 0, 1) := by decide +kernel
theorem dX12_goes_1 : decode cX12_goes 1 = .ok (.istore_n 1, 1) := by decide +kernel
theorem dX12_goes_2 : decode cX12_goes 2 = .ok (.iconst 0, 1) := by decide +kernel
theorem dX12_goes_3 : decode cX12_goes 3 = .ok (.istore_n 2, 1) := by decide +kernel
theorem dX12_goes_4 : decode cX12_goes 4 = .ok (.iload_n 2, 1) := by decide +kernel
theorem dX12_goes_5 : decode cX12_goes 5 = .ok (.aload_n 0, 1) := by decide +kernel
theorem dX12_goes_6 : decode cX12_goes 6 = .ok (.getfield 9, 3) := by decide +kernel
theorem dX12_goes_9 : decode cX12_goes 9 = .ok (.iconst 2, 1) := by decide +kernel
theorem dX12_goes_10 : decode cX12_goes 10 = .ok (.iaload, 1) := by decide +kernel
theorem dX12_goes_11 : decode cX12_goes 11 = .ok (.if_icmp .ge 28, 3) := by decide +kernel
theorem dX12_goes_14 : decode cX12_goes 14 = .ok (.aload_n 0, 1) := by decide +kernel
theorem dX12_goes_15 : decode cX12_goes 15 = .ok (.getfield 19, 3) := by decide +kernel
theorem dX12_goes_18 : decode cX12_goes 18 = .ok (.iload_n 2, 1) := by decide +kernel
theorem dX12_goes_19 : decode cX12_goes 19 = .ok (.aload_n 0, 1) := by decide +kernel
theorem dX12_goes_20 : decode cX12_goes 20 = .ok (.getfield 19, 3) := by decide +kernel
theorem dX12_goes_23 : decode cX12_goes 23 = .ok (.iload_n 2, 1) := by decide +kernel
theorem dX12_goes_24 : decode cX12_goes 24 = .ok (.iaload, 1) := by decide +kernel
theorem dX12_goes_25 : decode cX12_goes 25 = .ok (.iconst 1, 1) := by decide +kernel
theorem dX12_goes_26 : decode cX12_goes 26 = .ok (.iadd, 1) := by decide +kernel
theorem dX12_goes_27 : decode cX12_goes 27 = .ok (.bipush 99, 2) := by decide +kernel
theorem dX12_goes_29 : decode cX12_goes 29 = .ok (.invokestatic 395, 3) := by decide +kernel
theorem dX12_goes_32 : decode cX12_goes 32 = .ok (.iastore, 1) := by decide +kernel
theorem dX12_goes_33 : decode cX12_goes 33 = .ok (.iinc 2 1, 3) := by decide +kernel
theorem dX12_goes_36 : decode cX12_goes 36 = .ok (.goto (-32), 3) := by decide +kernel
theorem dX12_goes_39 : decode cX12_goes 39 = .ok (.iconst 0, 1) := by decide +kernel
theorem dX12_goes_40 : decode cX12_goes 40 = .ok (.istore_n 2, 1) := by decide +kernel
theorem dX12_goes_41 : decode cX12_goes 41 = .ok (.iload_n 2, 1) := by decide +kernel
theorem dX12_goes_42 : decode cX12_goes 42 = .ok (.aload_n 0, 1) := by decide +kernel
theorem dX12_goes_43 : decode cX12_goes 43 = .ok (.getfield 9, 3) := by decide +kernel
theorem dX12_goes_46 : decode cX12_goes 46 = .ok (.iconst 2, 1) := by decide +kernel
theorem dX12_goes_47 : decode cX12_goes 47 = .ok (.iaload, 1) := by decide +kernel
theorem dX12_goes_48 : decode cX12_goes 48 = .ok (.if_icmp .ge 27, 3) := by decide +kernel
theorem dX12_goes_51 : decode cX12_goes 51 = .ok (.iload_n 1, 1) := by decide +kernel
theorem dX12_goes_52 : decode cX12_goes 52 = .ok (.aload_n 0, 1) := by decide +kernel
theorem dX12_goes_53 : decode cX12_goes 53 = .ok (.iload_n 2, 1) := by decide +kernel
theorem dX12_goes_54 : decode cX12_goes 54 = .ok (.invokevirtual 398, 3) := by decide +kernel
theorem dX12_goes_57 : decode cX12_goes 57 = .ok (.ifCond .eq 9, 3) := by decide +kernel
theorem dX12_goes_60 : decode cX12_goes 60 = .ok (.iconst 1, 1) := by decide +kernel
theorem dX12_goes_61 : decode cX12_goes 61 = .ok (.iload_n 2, 1) := by decide +kernel
theorem dX12_goes_62 : decode cX12_goes 62 = .ok (.ishl, 1) := by decide +kernel
theorem dX12_goes_63 : decode cX12_goes 63 = .ok (.goto 4, 3) := by decide +kernel
theorem dX12_goes_66 : decode cX12_goes 66 = .ok (.iconst 0, 1) := by decide +kernel
theorem dX12_goes_67 : decode cX12_goes 67 = .ok (.ior, 1) := by decide +kernel
theorem dX12_goes_68 : decode cX12_goes 68 = .ok (.istore_n 1, 1) := by decide +kernel
theorem dX12_goes_69 : decode cX12_goes 69 = .ok (.iinc 2 1, 3) := by decide +kernel
theorem dX12_goes_72 : decode cX12_goes 72 = .ok (.goto (-31), 3) := by decide +kernel
theorem dX12_goes_75 : decode cX12_goes 75 = .ok (.aload_n 0, 1) := by decide +kernel
theorem dX12_goes_76 : decode cX12_goes 76 = .ok (.iload_n 1, 1) := by decide +kernel
theorem dX12_goes_77 : decode cX12_goes 77 = .ok (.invokevirtual 401, 3) := by decide +kernel
theorem dX12_goes_80 : decode cX12_goes 80 = .ok (.aload_n 0, 1) := by decide +kernel
theorem dX12_goes_81 : decode cX12_goes 81 = .ok (.invokevirtual 404, 3) := by decide +kernel
theorem dX12_goes_84 : decode cX12_goes 84 = .ok (.aload_n 0, 1) := by decide +kernel
theorem dX12_goes_85 : decode cX12_goes 85 = .ok (.getfield 9, 3) := by decide +kernel
theorem dX12_goes_88 : decode cX12_goes 88 = .ok (.iconst 5, 1) := by decide +kernel
theorem dX12_goes_89 : decode cX12_goes 89 = .ok (.dup2, 1) := by decide +kernel
theorem dX12_goes_90 : decode cX12_goes 90 = .ok (.iaload, 1) := by decide +kernel
theorem dX12_goes_91 : decode cX12_goes 91 = .ok (.iconst 1, 1) := by decide +kernel
theorem dX12_goes_92 : decode cX12_goes 92 = .ok (.iadd, 1) := by decide +kernel
theorem dX12_goes_93 : decode cX12_goes 93 = .ok (.iastore, 1) := by decide +kernel
theorem dX12_goes_94 : decode cX12_goes 94 = .ok (.iload_n 1, 1) := by decide +kernel
theorem dX12_goes_95 : decode cX12_goes 95 = .ok (.ireturn, 1) := by decide +kernel
theorem dX12_goFor_0 : decode cX12_goFor 0 = .ok (.iconst 0, 1) := by decide +kernel
theorem dX12_goFor_1 : decode cX12_goFor 1 = .ok (.istore_n 2, 1) := by decide +kernel
theorem dX12_goFor_2 : decode cX12_goFor 2 = .ok (.iload_n 2, 1) := by decide +kernel
theorem dX12_goFor_3 : decode cX12_goFor 3 = .ok (.iload_n 1, 1) := by decide +kernel
theorem dX12_goFor_4 : decode cX12_goFor 4 = .ok (.if_icmp .ge 14, 3) := by decide +kernel
theorem dX12_goFor_7 : decode cX12_goFor 7 = .ok (.aload_n 0, 1) := by decide +kernel
theorem dX12_goFor_8 : decode cX12_goFor 8 = .ok (.invokevirtual 407, 3) := by decide +kernel
theorem dX12_goFor_11 : decode cX12_goFor 11 = .ok (.pop, 1) := by decide +kernel
theorem dX12_goFor_12 : decode cX12_goFor 12 = .ok (.iinc 2 1, 3) := by decide +kernel
theorem dX12_goFor_15 : decode cX12_goFor 15 = .ok (.goto (-13), 3) := by decide +kernel
theorem dX12_goFor_18 : decode cX12_goFor 18 = .ok (.return_, 1) := by decide +kernel
theorem dX12_moves_0 : decode cX12_moves 0 = .ok (.aload_n 0, 1) := by decide +kernel
theorem dX12_moves_1 : decode cX12_moves 1 = .ok (.getfield 410, 3) := by decide +kernel
theorem dX12_moves_4 : decode cX12_moves 4 = .ok (.ifCond .eq 15, 3) := by decide +kernel
theorem dX12_moves_7 : decode cX12_moves 7 = .ok (.aload_n 0, 1) := by decide +kernel
theorem dX12_moves_8 : decode cX12_moves 8 = .ok (.getfield 127, 3) := by decide +kernel
theorem dX12_moves_11 : decode cX12_moves 11 = .ok (.aload_n 0, 1) := by decide +kernel
theorem dX12_moves_12 : decode cX12_moves 12 = .ok (.getfield 414, 3) := by decide +kernel
theorem dX12_moves_15 : decode cX12_moves 15 = .ok (.iaload, 1) := by decide +kernel
theorem dX12_moves_16 : decode cX12_moves 16 = .ok (.goto 4, 3) := by decide +kernel
theorem dX12_moves_19 : decode cX12_moves 19 = .ok (.iload_n 1, 1) := by decide +kernel
theorem dX12_moves_20 : decode cX12_moves 20 = .ok (.istore_n 2, 1) := by decide +kernel
theorem dX12_moves_21 : decode cX12_moves 21 = .ok (.aload_n 0, 1) := by decide +kernel
theorem dX12_moves_22 : decode cX12_moves 22 = .ok (.getfield 127, 3) := by decide +kernel
theorem dX12_moves_25 : decode cX12_moves 25 = .ok (.aload_n 0, 1) := by decide +kernel
theorem dX12_moves_26 : decode cX12_moves 26 = .ok (.getfield 414, 3) := by decide +kernel
theorem dX12_moves_29 : decode cX12_moves 29 = .ok (.iload_n 2, 1) := by decide +kernel
theorem dX12_moves_30 : decode cX12_moves 30 = .ok (.iastore, 1) := by decide +kernel
theorem dX12_moves_31 : decode cX12_moves 31 = .ok (.aload_n 0, 1) := by decide +kernel
theorem dX12_moves_32 : decode cX12_moves 32 = .ok (.dup, 1) := by decide +kernel
theorem dX12_moves_33 : decode cX12_moves 33 = .ok (.getfield 414, 3) := by decide +kernel
theorem dX12_moves_36 : decode cX12_moves 36 = .ok (.iconst 1, 1) := by decide +kernel
theorem dX12_moves_37 : decode cX12_moves 37 = .ok (.iadd, 1) := by decide +kernel
theorem dX12_moves_38 : decode cX12_moves 38 = .ok (.putfield 414, 3) := by decide +kernel
theorem dX12_moves_41 : decode cX12_moves 41 = .ok (.iload_n 2, 1) := by decide +kernel
theorem dX12_moves_42 : decode cX12_moves 42 = .ok (.ireturn, 1) := by decide +kernel
theorem dX12_movesRow_0 : decode cX12_movesRow 0 = .ok (.iconst 0, 1) := by decide +kernel
theorem dX12_movesRow_1 : decode cX12_movesRow 1 = .ok (.istore_n 2, 1) := by decide +kernel
theorem dX12_movesRow_2 : decode cX12_movesRow 2 = .ok (.iload_n 2, 1) := by decide +kernel
theorem dX12_movesRow_3 : decode cX12_movesRow 3 = .ok (.aload_n 1, 1) := by decide +kernel
theorem dX12_movesRow_4 : decode cX12_movesRow 4 = .ok (.arraylength, 1) := by decide +kernel
theorem dX12_movesRow_5 : decode cX12_movesRow 5 = .ok (.if_icmp .ge 19, 3) := by decide +kernel
theorem dX12_movesRow_8 : decode cX12_movesRow 8 = .ok (.aload_n 1, 1) := by decide +kernel
theorem dX12_movesRow_9 : decode cX12_movesRow 9 = .ok (.iload_n 2, 1) := by decide +kernel
theorem dX12_movesRow_10 : decode cX12_movesRow 10 = .ok (.aload_n 0, 1) := by decide +kernel
theorem dX12_movesRow_11 : decode cX12_movesRow 11 = .ok (.aload_n 1, 1) := by decide +kernel
theorem dX12_movesRow_12 : decode cX12_movesRow 12 = .ok (.iload_n 2, 1) := by decide +kernel
theorem dX12_movesRow_13 : decode cX12_movesRow 13 = .ok (.iaload, 1) := by decide +kernel
theorem dX12_movesRow_14 : decode cX12_movesRow 14 = .ok (.invokevirtual 417, 3) := by decide +kernel
theorem dX12_movesRow_17 : decode cX12_movesRow 17 = .ok (.iastore, 1) := by decide +kernel
theorem dX12_movesRow_18 : decode cX12_movesRow 18 = .ok (.iinc 2 1, 3) := by decide +kernel
theorem dX12_movesRow_21 : decode cX12_movesRow 21 = .ok (.goto (-19), 3) := by decide +kernel
theorem dX12_movesRow_24 : decode cX12_movesRow 24 = .ok (.return_, 1) := by decide +kernel
theorem dX12_movesAll_0 : decode cX12_movesAll 0 = .ok (.aload_n 0, 1) := by decide +kernel
theorem dX12_movesAll_1 : decode cX12_movesAll 1 = .ok (.bipush 72, 2) := by decide +kernel
theorem dX12_movesAll_3 : decode cX12_movesAll 3 = .ok (.iload_n 1, 1) := by decide +kernel
theorem dX12_movesAll_4 : decode cX12_movesAll 4 = .ok (.imul, 1) := by decide +kernel
theorem dX12_movesAll_5 : decode cX12_movesAll 5 = .ok (.putfield 414, 3) := by decide +kernel
theorem dX12_movesAll_8 : decode cX12_movesAll 8 = .ok (.aload_n 0, 1) := by decide +kernel
theorem dX12_movesAll_9 : decode cX12_movesAll 9 = .ok (.iload_n 2, 1) := by decide +kernel
theorem dX12_movesAll_10 : decode cX12_movesAll 10 = .ok (.putfield 410, 3) := by decide +kernel
theorem dX12_movesAll_13 : decode cX12_movesAll 13 = .ok (.aload_n 0, 1) := by decide +kernel
theorem dX12_movesAll_14 : decode cX12_movesAll 14 = .ok (.getfield 9, 3) := by decide +kernel
theorem dX12_movesAll_17 : decode cX12_movesAll 17 = .ok (.iconst 5, 1) := by decide +kernel
theorem dX12_movesAll_18 : decode cX12_movesAll 18 = .ok (.aload_n 0, 1) := by decide +kernel
theorem dX12_movesAll_19 : decode cX12_movesAll 19 = .ok (.aload_n 0, 1) := by decide +kernel
theorem dX12_movesAll_20 : decode cX12_movesAll 20 = .ok (.getfield 9, 3) := by decide +kernel
theorem dX12_movesAll_23 : decode cX12_movesAll 23 = .ok (.iconst 5, 1) := by decide +kernel
theorem dX12_movesAll_24 : decode cX12_movesAll 24 = .ok (.iaload, 1) := by decide +kernel
theorem dX12_movesAll_25 : decode cX12_movesAll 25 = .ok (.invokevirtual 417, 3) := by decide +kernel
theorem dX12_movesAll_28 : decode cX12_movesAll 28 = .ok (.iastore, 1) := by decide +kernel
theorem dX12_movesAll_29 : decode cX12_movesAll 29 = .ok (.aload_n 0, 1) := by decide +kernel
theorem dX12_movesAll_30 : decode cX12_movesAll 30 = .ok (.getfield 9, 3) := by decide +kernel
theorem dX12_movesAll_33 : decode cX12_movesAll 33 = .ok (.bipush 6, 2) := by decide +kernel
theorem dX12_movesAll_35 : decode cX12_movesAll 35 = .ok (.aload_n 0, 1) := by decide +kernel
theorem dX12_movesAll_36 : decode cX12_movesAll 36 = .ok (.aload_n 0, 1) := by decide +kernel
theorem dX12_movesAll_37 : decode cX12_movesAll 37 = .ok (.getfield 9, 3) := by decide +kernel
theorem dX12_movesAll_40 : decode cX12_movesAll 40 = .ok (.bipush 6, 2) := by decide +kernel
theorem dX12_movesAll_42 : decode cX12_movesAll 42 = .ok (.iaload, 1) := by decide +kernel
theorem dX12_movesAll_43 : decode cX12_movesAll 43 = .ok (.invokevirtual 417, 3) := by decide +kernel
theorem dX12_movesAll_46 : decode cX12_movesAll 46 = .ok (.iastore, 1) := by decide +kernel
theorem dX12_movesAll_47 : decode cX12_movesAll 47 = .ok (.aload_n 0, 1) := by decide +kernel
theorem dX12_movesAll_48 : decode cX12_movesAll 48 = .ok (.aload_n 0, 1) := by decide +kernel
theorem dX12_movesAll_49 : decode cX12_movesAll 49 = .ok (.getfield 13, 3) := by decide +kernel
theorem dX12_movesAll_52 : decode cX12_movesAll 52 = .ok (.invokevirtual 420, 3) := by decide +kernel
theorem dX12_movesAll_55 : decode cX12_movesAll 55 = .ok (.aload_n 0, 1) := by decide +kernel
theorem dX12_movesAll_56 : decode cX12_movesAll 56 = .ok (.aload_n 0, 1) := by decide +kernel
theorem dX12_movesAll_57 : decode cX12_movesAll 57 = .ok (.getfield 16, 3) := by decide +kernel
theorem dX12_movesAll_60 : decode cX12_movesAll 60 = .ok (.invokevirtual 420, 3) := by decide +kernel
theorem dX12_movesAll_63 : decode cX12_movesAll 63 = .ok (.aload_n 0, 1) := by decide +kernel
theorem dX12_movesAll_64 : decode cX12_movesAll 64 = .ok (.aload_n 0, 1) := by decide +kernel
theorem dX12_movesAll_65 : decode cX12_movesAll 65 = .ok (.getfield 19, 3) := by decide +kernel
theorem dX12_movesAll_68 : decode cX12_movesAll 68 = .ok (.invokevirtual 420, 3) := by decide +kernel
theorem dX12_movesAll_71 : decode cX12_movesAll 71 = .ok (.aload_n 0, 1) := by decide +kernel
theorem dX12_movesAll_72 : decode cX12_movesAll 72 = .ok (.aload_n 0, 1) := by decide +kernel
theorem dX12_movesAll_73 : decode cX12_movesAll 73 = .ok (.getfield 22, 3) := by decide +kernel
theorem dX12_movesAll_76 : decode cX12_movesAll 76 = .ok (.invokevirtual 420, 3) := by decide +kernel
theorem dX12_movesAll_79 : decode cX12_movesAll 79 = .ok (.aload_n 0, 1) := by decide +kernel
theorem dX12_movesAll_80 : decode cX12_movesAll 80 = .ok (.aload_n 0, 1) := by decide +kernel
theorem dX12_movesAll_81 : decode cX12_movesAll 81 = .ok (.getfield 25, 3) := by decide +kernel
theorem dX12_movesAll_84 : decode cX12_movesAll 84 = .ok (.invokevirtual 420, 3) := by decide +kernel
theorem dX12_movesAll_87 : decode cX12_movesAll 87 = .ok (.aload_n 0, 1) := by decide +kernel
theorem dX12_movesAll_88 : decode cX12_movesAll 88 = .ok (.aload_n 0, 1) := by decide +kernel
theorem dX12_movesAll_89 : decode cX12_movesAll 89 = .ok (.getfield 28, 3) := by decide +kernel
theorem dX12_movesAll_92 : decode cX12_movesAll 92 = .ok (.invokevirtual 420, 3) := by decide +kernel
theorem dX12_movesAll_95 : decode cX12_movesAll 95 = .ok (.aload_n 0, 1) := by decide +kernel
theorem dX12_movesAll_96 : decode cX12_movesAll 96 = .ok (.aload_n 0, 1) := by decide +kernel
theorem dX12_movesAll_97 : decode cX12_movesAll 97 = .ok (.getfield 31, 3) := by decide +kernel
theorem dX12_movesAll_100 : decode cX12_movesAll 100 = .ok (.invokevirtual 420, 3) := by decide +kernel
theorem dX12_movesAll_103 : decode cX12_movesAll 103 = .ok (.return_, 1) := by decide +kernel
theorem dX12_keepsAct_0 : decode cX12_keepsAct 0 = .ok (.aload_n 0, 1) := by decide +kernel
theorem dX12_keepsAct_1 : decode cX12_keepsAct 1 = .ok (.getfield 325, 3) := by decide +kernel
theorem dX12_keepsAct_4 : decode cX12_keepsAct 4 = .ok (.bipush 20, 2) := by decide +kernel
theorem dX12_keepsAct_6 : decode cX12_keepsAct 6 = .ok (.if_icmp .ne 44, 3) := by decide +kernel
theorem dX12_keepsAct_9 : decode cX12_keepsAct 9 = .ok (.bipush 72, 2) := by decide +kernel
theorem dX12_keepsAct_11 : decode cX12_keepsAct 11 = .ok (.istore_n 1, 1) := by decide +kernel
theorem dX12_keepsAct_12 : decode cX12_keepsAct 12 = .ok (.iload_n 1, 1) := by decide +kernel
theorem dX12_keepsAct_13 : decode cX12_keepsAct 13 = .ok (.sipush 1440, 3) := by decide +kernel
theorem dX12_keepsAct_16 : decode cX12_keepsAct 16 = .ok (.if_icmp .ge 24, 3) := by decide +kernel
theorem dX12_keepsAct_19 : decode cX12_keepsAct 19 = .ok (.aload_n 0, 1) := by decide +kernel
theorem dX12_keepsAct_20 : decode cX12_keepsAct 20 = .ok (.getfield 127, 3) := by decide +kernel
theorem dX12_keepsAct_23 : decode cX12_keepsAct 23 = .ok (.iload_n 1, 1) := by decide +kernel
theorem dX12_keepsAct_24 : decode cX12_keepsAct 24 = .ok (.bipush 72, 2) := by decide +kernel
theorem dX12_keepsAct_26 : decode cX12_keepsAct 26 = .ok (.isub, 1) := by decide +kernel
theorem dX12_keepsAct_27 : decode cX12_keepsAct 27 = .ok (.aload_n 0, 1) := by decide +kernel
theorem dX12_keepsAct_28 : decode cX12_keepsAct 28 = .ok (.getfield 127, 3) := by decide +kernel
theorem dX12_keepsAct_31 : decode cX12_keepsAct 31 = .ok (.iload_n 1, 1) := by decide +kernel
theorem dX12_keepsAct_32 : decode cX12_keepsAct 32 = .ok (.iaload, 1) := by decide +kernel
theorem dX12_keepsAct_33 : decode cX12_keepsAct 33 = .ok (.iastore, 1) := by decide +kernel
theorem dX12_keepsAct_34 : decode cX12_keepsAct 34 = .ok (.iinc 1 1, 3) := by decide +kernel
theorem dX12_keepsAct_37 : decode cX12_keepsAct 37 = .ok (.goto (-25), 3) := by decide +kernel
theorem dX12_keepsAct_40 : decode cX12_keepsAct 40 = .ok (.aload_n 0, 1) := by decide +kernel
theorem dX12_keepsAct_41 : decode cX12_keepsAct 41 = .ok (.dup, 1) := by decide +kernel
theorem dX12_keepsAct_42 : decode cX12_keepsAct 42 = .ok (.getfield 325, 3) := by decide +kernel
theorem dX12_keepsAct_45 : decode cX12_keepsAct 45 = .ok (.iconst 1, 1) := by decide +kernel
theorem dX12_keepsAct_46 : decode cX12_keepsAct 46 = .ok (.isub, 1) := by decide +kernel
theorem dX12_keepsAct_47 : decode cX12_keepsAct 47 = .ok (.putfield 325, 3) := by decide +kernel
theorem dX12_keepsAct_50 : decode cX12_keepsAct 50 = .ok (.aload_n 0, 1) := by decide +kernel
theorem dX12_keepsAct_51 : decode cX12_keepsAct 51 = .ok (.aload_n 0, 1) := by decide +kernel
theorem dX12_keepsAct_52 : decode cX12_keepsAct 52 = .ok (.getfield 325, 3) := by decide +kernel
theorem dX12_keepsAct_55 : decode cX12_keepsAct 55 = .ok (.iconst 0, 1) := by decide +kernel
theorem dX12_keepsAct_56 : decode cX12_keepsAct 56 = .ok (.invokevirtual 424, 3) := by decide +kernel
theorem dX12_keepsAct_59 : decode cX12_keepsAct 59 = .ok (.aload_n 0, 1) := by decide +kernel
theorem dX12_keepsAct_60 : decode cX12_keepsAct 60 = .ok (.dup, 1) := by decide +kernel
theorem dX12_keepsAct_61 : decode cX12_keepsAct 61 = .ok (.getfield 325, 3) := by decide +kernel
theorem dX12_keepsAct_64 : decode cX12_keepsAct 64 = .ok (.iconst 1, 1) := by decide +kernel
theorem dX12_keepsAct_65 : decode cX12_keepsAct 65 = .ok (.iadd, 1) := by decide +kernel
theorem dX12_keepsAct_66 : decode cX12_keepsAct 66 = .ok (.putfield 325, 3) := by decide +kernel
theorem dX12_keepsAct_69 : decode cX12_keepsAct 69 = .ok (.return_, 1) := by decide +kernel
theorem dX12_undo_0 : decode cX12_undo 0 = .ok (.aload_n 0, 1) := by decide +kernel
theorem dX12_undo_1 : decode cX12_undo 1 = .ok (.getfield 325, 3) := by decide +kernel
theorem dX12_undo_4 : decode cX12_undo 4 = .ok (.ifCond .ne 6, 3) := by decide +kernel
theorem dX12_undo_7 : decode cX12_undo 7 = .ok (.bipush (-2), 2) := by decide +kernel
theorem dX12_undo_9 : decode cX12_undo 9 = .ok (.ireturn, 1) := by decide +kernel
theorem dX12_undo_10 : decode cX12_undo 10 = .ok (.aload_n 0, 1) := by decide +kernel
theorem dX12_undo_11 : decode cX12_undo 11 = .ok (.dup, 1) := by decide +kernel
theorem dX12_undo_12 : decode cX12_undo 12 = .ok (.getfield 325, 3) := by decide +kernel
theorem dX12_undo_15 : decode cX12_undo 15 = .ok (.iconst 1, 1) := by decide +kernel
theorem dX12_undo_16 : decode cX12_undo 16 = .ok (.isub, 1) := by decide +kernel
theorem dX12_undo_17 : decode cX12_undo 17 = .ok (.putfield 325, 3) := by decide +kernel
theorem dX12_undo_20 : decode cX12_undo 20 = .ok (.aload_n 0, 1) := by decide +kernel
theorem dX12_undo_21 : decode cX12_undo 21 = .ok (.aload_n 0, 1) := by decide +kernel
theorem dX12_undo_22 : decode cX12_undo 22 = .ok (.getfield 325, 3) := by decide +kernel
theorem dX12_undo_25 : decode cX12_undo 25 = .ok (.iconst 1, 1) := by decide +kernel
theorem dX12_undo_26 : decode cX12_undo 26 = .ok (.invokevirtual 424, 3) := by decide +kernel
theorem dX12_undo_29 : decode cX12_undo 29 = .ok (.aload_n 0, 1) := by decide +kernel
theorem dX12_undo_30 : decode cX12_undo 30 = .ok (.getfield 325, 3) := by decide +kernel
theorem dX12_undo_33 : decode cX12_undo 33 = .ok (.ireturn, 1) := by decide +kernel
theorem dX12_hour_0 : decode cX12_hour 0 = .ok (.aload_n 0, 1) := by decide +kernel
theorem dX12_hour_1 : decode cX12_hour 1 = .ok (.invokevirtual 428, 3) := by decide +kernel
theorem dX12_hour_4 : decode cX12_hour 4 = .ok (.ifCond .eq 15, 3) := by decide +kernel
theorem dX12_hour_7 : decode cX12_hour 7 = .ok (.aload_n 0, 1) := by decide +kernel
theorem dX12_hour_8 : decode cX12_hour 8 = .ok (.getfield 9, 3) := by decide +kernel
theorem dX12_hour_11 : decode cX12_hour 11 = .ok (.iconst 5, 1) := by decide +kernel
theorem dX12_hour_12 : decode cX12_hour 12 = .ok (.iaload, 1) := by decide +kernel
theorem dX12_hour_13 : decode cX12_hour 13 = .ok (.sipush 999, 3) := by decide +kernel
theorem dX12_hour_16 : decode cX12_hour 16 = .ok (.if_icmp .ne 5, 3) := by decide +kernel
theorem dX12_hour_19 : decode cX12_hour 19 = .ok (.iconst (-1), 1) := by decide +kernel
theorem dX12_hour_20 : decode cX12_hour 20 = .ok (.ireturn, 1) := by decide +kernel
theorem dX12_hour_21 : decode cX12_hour 21 = .ok (.aload_n 0, 1) := by decide +kernel
theorem dX12_hour_22 : decode cX12_hour 22 = .ok (.invokevirtual 431, 3) := by decide +kernel
theorem dX12_hour_25 : decode cX12_hour 25 = .ok (.aload_n 0, 1) := by decide +kernel
theorem dX12_hour_26 : decode cX12_hour 26 = .ok (.invokevirtual 407, 3) := by decide +kernel
theorem dX12_hour_29 : decode cX12_hour 29 = .ok (.ireturn, 1) := by decide +kernel
theorem dX12_wine_0 : decode cX12_wine 0 = .ok (.aload_n 0, 1) := by decide +kernel
theorem dX12_wine_1 : decode cX12_wine 1 = .ok (.iload_n 1, 1) := by decide +kernel
theorem dX12_wine_2 : decode cX12_wine 2 = .ok (.invokevirtual 358, 3) := by decide +kernel
theorem dX12_wine_5 : decode cX12_wine 5 = .ok (.ifCond .eq 15, 3) := by decide +kernel
theorem dX12_wine_8 : decode cX12_wine 8 = .ok (.iload_n 2, 1) := by decide +kernel
theorem dX12_wine_9 : decode cX12_wine 9 = .ok (.i2l, 1) := by decide +kernel
theorem dX12_wine_10 : decode cX12_wine 10 = .ok (.lconst 1, 1) := by decide +kernel
theorem dX12_wine_11 : decode cX12_wine 11 = .ok (.ldc2_w 434, 3) := by decide +kernel
theorem dX12_wine_14 : decode cX12_wine 14 = .ok (.invokestatic 159, 3) := by decide +kernel
theorem dX12_wine_17 : decode cX12_wine 17 = .ok (.ifCond .ne 5, 3) := by decide +kernel
theorem dX12_wine_20 : decode cX12_wine 20 = .ok (.iconst (-1), 1) := by decide +kernel
theorem dX12_wine_21 : decode cX12_wine 21 = .ok (.ireturn, 1) := by decide +kernel
theorem dX12_wine_22 : decode cX12_wine 22 = .ok (.aload_n 0, 1) := by decide +kernel
theorem dX12_wine_23 : decode cX12_wine 23 = .ok (.invokevirtual 431, 3) := by decide +kernel
theorem dX12_wine_26 : decode cX12_wine 26 = .ok (.aload_n 0, 1) := by decide +kernel
theorem dX12_wine_27 : decode cX12_wine 27 = .ok (.getfield 19, 3) := by decide +kernel
theorem dX12_wine_30 : decode cX12_wine 30 = .ok (.iload_n 1, 1) := by decide +kernel
theorem dX12_wine_31 : decode cX12_wine 31 = .ok (.aload_n 0, 1) := by decide +kernel
theorem dX12_wine_32 : decode cX12_wine 32 = .ok (.getfield 19, 3) := by decide +kernel
theorem dX12_wine_35 : decode cX12_wine 35 = .ok (.iload_n 1, 1) := by decide +kernel
theorem dX12_wine_36 : decode cX12_wine 36 = .ok (.iaload, 1) := by decide +kernel
theorem dX12_wine_37 : decode cX12_wine 37 = .ok (.iload_n 2, 1) := by decide +kernel
theorem dX12_wine_38 : decode cX12_wine 38 = .ok (.iadd, 1) := by decide +kernel
theorem dX12_wine_39 : decode cX12_wine 39 = .ok (.bipush 99, 2) := by decide +kernel
theorem dX12_wine_41 : decode cX12_wine 41 = .ok (.invokestatic 395, 3) := by decide +kernel
theorem dX12_wine_44 : decode cX12_wine 44 = .ok (.iastore, 1) := by decide +kernel
theorem dX12_wine_45 : decode cX12_wine 45 = .ok (.aload_n 0, 1) := by decide +kernel
theorem dX12_wine_46 : decode cX12_wine 46 = .ok (.getfield 19, 3) := by decide +kernel
theorem dX12_wine_49 : decode cX12_wine 49 = .ok (.iload_n 1, 1) := by decide +kernel
theorem dX12_wine_50 : decode cX12_wine 50 = .ok (.iaload, 1) := by decide +kernel
theorem dX12_wine_51 : decode cX12_wine 51 = .ok (.ireturn, 1) := by decide +kernel
theorem dX12_place_0 : decode cX12_place 0 = .ok (.aload_n 0, 1) := by decide +kernel
theorem dX12_place_1 : decode cX12_place 1 = .ok (.iload_n 1, 1) := by decide +kernel
theorem dX12_place_2 : decode cX12_place 2 = .ok (.invokevirtual 358, 3) := by decide +kernel
theorem dX12_place_5 : decode cX12_place 5 = .ok (.ifCond .eq 21, 3) := by decide +kernel
theorem dX12_place_8 : decode cX12_place 8 = .ok (.aload_n 0, 1) := by decide +kernel
theorem dX12_place_9 : decode cX12_place 9 = .ok (.iload_n 2, 1) := by decide +kernel
theorem dX12_place_10 : decode cX12_place 10 = .ok (.invokevirtual 373, 3) := by decide +kernel
theorem dX12_place_13 : decode cX12_place 13 = .ok (.ifCond .eq 13, 3) := by decide +kernel
theorem dX12_place_16 : decode cX12_place 16 = .ok (.aload_n 0, 1) := by decide +kernel
theorem dX12_place_17 : decode cX12_place 17 = .ok (.getfield 13, 3) := by decide +kernel
theorem dX12_place_20 : decode cX12_place 20 = .ok (.iload_n 1, 1) := by decide +kernel
theorem dX12_place_21 : decode cX12_place 21 = .ok (.iaload, 1) := by decide +kernel
theorem dX12_place_22 : decode cX12_place 22 = .ok (.iload_n 2, 1) := by decide +kernel
theorem dX12_place_23 : decode cX12_place 23 = .ok (.if_icmp .ne 5, 3) := by decide +kernel
theorem dX12_place_26 : decode cX12_place 26 = .ok (.iconst (-1), 1) := by decide +kernel
theorem dX12_place_27 : decode cX12_place 27 = .ok (.ireturn, 1) := by decide +kernel
theorem dX12_place_28 : decode cX12_place 28 = .ok (.aload_n 0, 1) := by decide +kernel
theorem dX12_place_29 : decode cX12_place 29 = .ok (.invokevirtual 431, 3) := by decide +kernel
theorem dX12_place_32 : decode cX12_place 32 = .ok (.aload_n 0, 1) := by decide +kernel
theorem dX12_place_33 : decode cX12_place 33 = .ok (.getfield 13, 3) := by decide +kernel
theorem dX12_place_36 : decode cX12_place 36 = .ok (.iload_n 1, 1) := by decide +kernel
theorem dX12_place_37 : decode cX12_place 37 = .ok (.iaload, 1) := by decide +kernel
theorem dX12_place_38 : decode cX12_place 38 = .ok (.istore_n 3, 1) := by decide +kernel
theorem dX12_place_39 : decode cX12_place 39 = .ok (.aload_n 0, 1) := by decide +kernel
theorem dX12_place_40 : decode cX12_place 40 = .ok (.getfield 13, 3) := by decide +kernel
theorem dX12_place_43 : decode cX12_place 43 = .ok (.iload_n 1, 1) := by decide +kernel
theorem dX12_place_44 : decode cX12_place 44 = .ok (.iload_n 2, 1) := by decide +kernel
theorem dX12_place_45 : decode cX12_place 45 = .ok (.iastore, 1) := by decide +kernel
theorem dX12_place_46 : decode cX12_place 46 = .ok (.iload_n 3, 1) := by decide +kernel
theorem dX12_place_47 : decode cX12_place 47 = .ok (.ireturn, 1) := by decide +kernel
theorem dX12_face_0 : decode cX12_face 0 = .ok (.aload_n 0, 1) := by decide +kernel
theorem dX12_face_1 : decode cX12_face 1 = .ok (.iload_n 1, 1) := by decide +kernel
theorem dX12_face_2 : decode cX12_face 2 = .ok (.invokevirtual 358, 3) := by decide +kernel
theorem dX12_face_5 : decode cX12_face 5 = .ok (.ifCond .eq 25, 3) := by decide +kernel
theorem dX12_face_8 : decode cX12_face 8 = .ok (.iload_n 2, 1) := by decide +kernel
theorem dX12_face_9 : decode cX12_face 9 = .ok (.i2l, 1) := by decide +kernel
theorem dX12_face_10 : decode cX12_face 10 = .ok (.lconst 0, 1) := by decide +kernel
theorem dX12_face_11 : decode cX12_face 11 = .ok (.ldc2_w 436, 3) := by decide +kernel
theorem dX12_face_14 : decode cX12_face 14 = .ok (.invokestatic 159, 3) := by decide +kernel
theorem dX12_face_17 : decode cX12_face 17 = .ok (.ifCond .eq 13, 3) := by decide +kernel
theorem dX12_face_20 : decode cX12_face 20 = .ok (.aload_n 0, 1) := by decide +kernel
theorem dX12_face_21 : decode cX12_face 21 = .ok (.getfield 16, 3) := by decide +kernel
theorem dX12_face_24 : decode cX12_face 24 = .ok (.iload_n 1, 1) := by decide +kernel
theorem dX12_face_25 : decode cX12_face 25 = .ok (.iaload, 1) := by decide +kernel
theorem dX12_face_26 : decode cX12_face 26 = .ok (.iload_n 2, 1) := by decide +kernel
theorem dX12_face_27 : decode cX12_face 27 = .ok (.if_icmp .ne 5, 3) := by decide +kernel
theorem dX12_face_30 : decode cX12_face 30 = .ok (.iconst (-1), 1) := by decide +kernel
theorem dX12_face_31 : decode cX12_face 31 = .ok (.ireturn, 1) := by decide +kernel
theorem dX12_face_32 : decode cX12_face 32 = .ok (.aload_n 0, 1) := by decide +kernel
theorem dX12_face_33 : decode cX12_face 33 = .ok (.invokevirtual 431, 3) := by decide +kernel
theorem dX12_face_36 : decode cX12_face 36 = .ok (.aload_n 0, 1) := by decide +kernel
theorem dX12_face_37 : decode cX12_face 37 = .ok (.getfield 16, 3) := by decide +kernel
theorem dX12_face_40 : decode cX12_face 40 = .ok (.iload_n 1, 1) := by decide +kernel
theorem dX12_face_41 : decode cX12_face 41 = .ok (.iaload, 1) := by decide +kernel
theorem dX12_face_42 : decode cX12_face 42 = .ok (.istore_n 3, 1) := by decide +kernel
theorem dX12_face_43 : decode cX12_face 43 = .ok (.aload_n 0, 1) := by decide +kernel
theorem dX12_face_44 : decode cX12_face 44 = .ok (.getfield 16, 3) := by decide +kernel
theorem dX12_face_47 : decode cX12_face 47 = .ok (.iload_n 1, 1) := by decide +kernel
theorem dX12_face_48 : decode cX12_face 48 = .ok (.iload_n 2, 1) := by decide +kernel
theorem dX12_face_49 : decode cX12_face 49 = .ok (.iastore, 1) := by decide +kernel
theorem dX12_face_50 : decode cX12_face 50 = .ok (.iload_n 3, 1) := by decide +kernel
theorem dX12_face_51 : decode cX12_face 51 = .ok (.ireturn, 1) := by decide +kernel
theorem dX12_mend_0 : decode cX12_mend 0 = .ok (.aload_n 0, 1) := by decide +kernel
theorem dX12_mend_1 : decode cX12_mend 1 = .ok (.iload_n 1, 1) := by decide +kernel
theorem dX12_mend_2 : decode cX12_mend 2 = .ok (.invokevirtual 370, 3) := by decide +kernel
theorem dX12_mend_5 : decode cX12_mend 5 = .ok (.ifCond .eq 17, 3) := by decide +kernel
theorem dX12_mend_8 : decode cX12_mend 8 = .ok (.aload_n 0, 1) := by decide +kernel
theorem dX12_mend_9 : decode cX12_mend 9 = .ok (.getfield 9, 3) := by decide +kernel
theorem dX12_mend_12 : decode cX12_mend 12 = .ok (.bipush 6, 2) := by decide +kernel
theorem dX12_mend_14 : decode cX12_mend 14 = .ok (.iaload, 1) := by decide +kernel
theorem dX12_mend_15 : decode cX12_mend 15 = .ok (.iload_n 1, 1) := by decide +kernel
theorem dX12_mend_16 : decode cX12_mend 16 = .ok (.invokestatic 389, 3) := by decide +kernel
theorem dX12_mend_19 : decode cX12_mend 19 = .ok (.ifCond .ne 5, 3) := by decide +kernel
theorem dX12_mend_22 : decode cX12_mend 22 = .ok (.iconst (-1), 1) := by decide +kernel
theorem dX12_mend_23 : decode cX12_mend 23 = .ok (.ireturn, 1) := by decide +kernel
theorem dX12_mend_24 : decode cX12_mend 24 = .ok (.aload_n 0, 1) := by decide +kernel
theorem dX12_mend_25 : decode cX12_mend 25 = .ok (.invokevirtual 431, 3) := by decide +kernel
theorem dX12_mend_28 : decode cX12_mend 28 = .ok (.aload_n 0, 1) := by decide +kernel
theorem dX12_mend_29 : decode cX12_mend 29 = .ok (.getfield 9, 3) := by decide +kernel
theorem dX12_mend_32 : decode cX12_mend 32 = .ok (.bipush 6, 2) := by decide +kernel
theorem dX12_mend_34 : decode cX12_mend 34 = .ok (.dup2, 1) := by decide +kernel
theorem dX12_mend_35 : decode cX12_mend 35 = .ok (.iaload, 1) := by decide +kernel
theorem dX12_mend_36 : decode cX12_mend 36 = .ok (.iconst 1, 1) := by decide +kernel
theorem dX12_mend_37 : decode cX12_mend 37 = .ok (.iload_n 1, 1) := by decide +kernel
theorem dX12_mend_38 : decode cX12_mend 38 = .ok (.ishl, 1) := by decide +kernel
theorem dX12_mend_39 : decode cX12_mend 39 = .ok (.iconst (-1), 1) := by decide +kernel
theorem dX12_mend_40 : decode cX12_mend 40 = .ok (.ixor, 1) := by decide +kernel
theorem dX12_mend_41 : decode cX12_mend 41 = .ok (.iand, 1) := by decide +kernel
theorem dX12_mend_42 : decode cX12_mend 42 = .ok (.iastore, 1) := by decide +kernel
theorem dX12_mend_43 : decode cX12_mend 43 = .ok (.aload_n 0, 1) := by decide +kernel
theorem dX12_mend_44 : decode cX12_mend 44 = .ok (.getfield 9, 3) := by decide +kernel
theorem dX12_mend_47 : decode cX12_mend 47 = .ok (.bipush 6, 2) := by decide +kernel
theorem dX12_mend_49 : decode cX12_mend 49 = .ok (.iaload, 1) := by decide +kernel
theorem dX12_mend_50 : decode cX12_mend 50 = .ok (.invokestatic 382, 3) := by decide +kernel
theorem dX12_mend_53 : decode cX12_mend 53 = .ok (.ireturn, 1) := by decide +kernel
theorem dX12_keepsAll_0 : decode cX12_keepsAll 0 = .ok (.aload_n 0, 1) := by decide +kernel
theorem dX12_keepsAll_1 : decode cX12_keepsAll 1 = .ok (.iconst 4, 1) := by decide +kernel
theorem dX12_keepsAll_2 : decode cX12_keepsAll 2 = .ok (.iconst 0, 1) := by decide +kernel
theorem dX12_keepsAll_3 : decode cX12_keepsAll 3 = .ok (.invokevirtual 438, 3) := by decide +kernel
theorem dX12_keepsAll_6 : decode cX12_keepsAll 6 = .ok (.return_, 1) := by decide +kernel
theorem dX12_laysBack_0 : decode cX12_laysBack 0 = .ok (.aload_n 0, 1) := by decide +kernel
theorem dX12_laysBack_1 : decode cX12_laysBack 1 = .ok (.iconst 4, 1) := by decide +kernel
theorem dX12_laysBack_2 : decode cX12_laysBack 2 = .ok (.iconst 1, 1) := by decide +kernel
theorem dX12_laysBack_3 : decode cX12_laysBack 3 = .ok (.invokevirtual 438, 3) := by decide +kernel
theorem dX12_laysBack_6 : decode cX12_laysBack 6 = .ok (.return_, 1) := by decide +kernel
theorem dX12_ahead_0 : decode cX12_ahead 0 = .ok (.iload_n 3, 1) := by decide +kernel
theorem dX12_ahead_1 : decode cX12_ahead 1 = .ok (.ifCond .ne 11, 3) := by decide +kernel
theorem dX12_ahead_4 : decode cX12_ahead 4 = .ok (.aload_n 0, 1) := by decide +kernel
theorem dX12_ahead_5 : decode cX12_ahead 5 = .ok (.iload_n 1, 1) := by decide +kernel
theorem dX12_ahead_6 : decode cX12_ahead 6 = .ok (.invokevirtual 358, 3) := by decide +kernel
theorem dX12_ahead_9 : decode cX12_ahead 9 = .ok (.ifCond .ne 34, 3) := by decide +kernel
theorem dX12_ahead_12 : decode cX12_ahead 12 = .ok (.iload_n 3, 1) := by decide +kernel
theorem dX12_ahead_13 : decode cX12_ahead 13 = .ok (.iconst 1, 1) := by decide +kernel
theorem dX12_ahead_14 : decode cX12_ahead 14 = .ok (.if_icmp .ne 11, 3) := by decide +kernel
theorem dX12_ahead_17 : decode cX12_ahead 17 = .ok (.aload_n 0, 1) := by decide +kernel
theorem dX12_ahead_18 : decode cX12_ahead 18 = .ok (.iload_n 1, 1) := by decide +kernel
theorem dX12_ahead_19 : decode cX12_ahead 19 = .ok (.invokevirtual 365, 3) := by decide +kernel
theorem dX12_ahead_22 : decode cX12_ahead 22 = .ok (.ifCond .ne 21, 3) := by decide +kernel
theorem dX12_ahead_25 : decode cX12_ahead 25 = .ok (.iload_n 3, 1) := by decide +kernel
theorem dX12_ahead_26 : decode cX12_ahead 26 = .ok (.iconst 2, 1) := by decide +kernel
theorem dX12_ahead_27 : decode cX12_ahead 27 = .ok (.if_icmp .ne 11, 3) := by decide +kernel
theorem dX12_ahead_30 : decode cX12_ahead 30 = .ok (.aload_n 0, 1) := by decide +kernel
theorem dX12_ahead_31 : decode cX12_ahead 31 = .ok (.iload_n 1, 1) := by decide +kernel
theorem dX12_ahead_32 : decode cX12_ahead 32 = .ok (.invokevirtual 373, 3) := by decide +kernel
theorem dX12_ahead_35 : decode cX12_ahead 35 = .ok (.ifCond .ne 8, 3) := by decide +kernel
theorem dX12_ahead_38 : decode cX12_ahead 38 = .ok (.iload_n 3, 1) := by decide +kernel
theorem dX12_ahead_39 : decode cX12_ahead 39 = .ok (.iconst 3, 1) := by decide +kernel
theorem dX12_ahead_40 : decode cX12_ahead 40 = .ok (.if_icmp .ne 7, 3) := by decide +kernel
theorem dX12_ahead_43 : decode cX12_ahead 43 = .ok (.iconst 1, 1) := by decide +kernel
theorem dX12_ahead_44 : decode cX12_ahead 44 = .ok (.goto 4, 3) := by decide +kernel
theorem dX12_ahead_47 : decode cX12_ahead 47 = .ok (.iconst 0, 1) := by decide +kernel
theorem dX12_ahead_48 : decode cX12_ahead 48 = .ok (.istore 4, 2) := by decide +kernel
theorem dX12_ahead_50 : decode cX12_ahead 50 = .ok (.aload_n 0, 1) := by decide +kernel
theorem dX12_ahead_51 : decode cX12_ahead 51 = .ok (.invokevirtual 428, 3) := by decide +kernel
theorem dX12_ahead_54 : decode cX12_ahead 54 = .ok (.ifCond .eq 20, 3) := by decide +kernel
theorem dX12_ahead_57 : decode cX12_ahead 57 = .ok (.iload 4, 2) := by decide +kernel
theorem dX12_ahead_59 : decode cX12_ahead 59 = .ok (.ifCond .eq 15, 3) := by decide +kernel
theorem dX12_ahead_62 : decode cX12_ahead 62 = .ok (.iload_n 2, 1) := by decide +kernel
theorem dX12_ahead_63 : decode cX12_ahead 63 = .ok (.i2l, 1) := by decide +kernel
theorem dX12_ahead_64 : decode cX12_ahead 64 = .ok (.lconst 0, 1) := by decide +kernel
theorem dX12_ahead_65 : decode cX12_ahead 65 = .ok (.ldc2_w 441, 3) := by decide +kernel
theorem dX12_ahead_68 : decode cX12_ahead 68 = .ok (.invokestatic 159, 3) := by decide +kernel
theorem dX12_ahead_71 : decode cX12_ahead 71 = .ok (.ifCond .ne 5, 3) := by decide +kernel
theorem dX12_ahead_74 : decode cX12_ahead 74 = .ok (.iconst (-1), 1) := by decide +kernel
theorem dX12_ahead_75 : decode cX12_ahead 75 = .ok (.ireturn, 1) := by decide +kernel
theorem dX12_ahead_76 : decode cX12_ahead 76 = .ok (.aload_n 0, 1) := by decide +kernel
theorem dX12_ahead_77 : decode cX12_ahead 77 = .ok (.invokevirtual 443, 3) := by decide +kernel
theorem dX12_ahead_80 : decode cX12_ahead 80 = .ok (.aload_n 0, 1) := by decide +kernel
theorem dX12_ahead_81 : decode cX12_ahead 81 = .ok (.iload_n 2, 1) := by decide +kernel
theorem dX12_ahead_82 : decode cX12_ahead 82 = .ok (.invokevirtual 446, 3) := by decide +kernel
theorem dX12_ahead_85 : decode cX12_ahead 85 = .ok (.iload_n 3, 1) := by decide +kernel
theorem dX12_ahead_86 : decode cX12_ahead 86 = .ok (.ifCond .ne 12, 3) := by decide +kernel
theorem dX12_ahead_89 : decode cX12_ahead 89 = .ok (.aload_n 0, 1) := by decide +kernel
theorem dX12_ahead_90 : decode cX12_ahead 90 = .ok (.getfield 19, 3) := by decide +kernel
theorem dX12_ahead_93 : decode cX12_ahead 93 = .ok (.iload_n 1, 1) := by decide +kernel
theorem dX12_ahead_94 : decode cX12_ahead 94 = .ok (.iaload, 1) := by decide +kernel
theorem dX12_ahead_95 : decode cX12_ahead 95 = .ok (.goto 38, 3) := by decide +kernel
theorem dX12_ahead_98 : decode cX12_ahead 98 = .ok (.iload_n 3, 1) := by decide +kernel
theorem dX12_ahead_99 : decode cX12_ahead 99 = .ok (.iconst 1, 1) := by decide +kernel
theorem dX12_ahead_100 : decode cX12_ahead 100 = .ok (.if_icmp .ne 12, 3) := by decide +kernel
theorem dX12_ahead_103 : decode cX12_ahead 103 = .ok (.aload_n 0, 1) := by decide +kernel
theorem dX12_ahead_104 : decode cX12_ahead 104 = .ok (.getfield 28, 3) := by decide +kernel
theorem dX12_ahead_107 : decode cX12_ahead 107 = .ok (.iload_n 1, 1) := by decide +kernel
theorem dX12_ahead_108 : decode cX12_ahead 108 = .ok (.iaload, 1) := by decide +kernel
theorem dX12_ahead_109 : decode cX12_ahead 109 = .ok (.goto 24, 3) := by decide +kernel
theorem dX12_ahead_112 : decode cX12_ahead 112 = .ok (.iload_n 3, 1) := by decide +kernel
theorem dX12_ahead_113 : decode cX12_ahead 113 = .ok (.iconst 2, 1) := by decide +kernel
theorem dX12_ahead_114 : decode cX12_ahead 114 = .ok (.if_icmp .ne 12, 3) := by decide +kernel
theorem dX12_ahead_117 : decode cX12_ahead 117 = .ok (.aload_n 0, 1) := by decide +kernel
theorem dX12_ahead_118 : decode cX12_ahead 118 = .ok (.getfield 31, 3) := by decide +kernel
theorem dX12_ahead_121 : decode cX12_ahead 121 = .ok (.iload_n 1, 1) := by decide +kernel
theorem dX12_ahead_122 : decode cX12_ahead 122 = .ok (.iaload, 1) := by decide +kernel
theorem dX12_ahead_123 : decode cX12_ahead 123 = .ok (.goto 10, 3) := by decide +kernel
theorem dX12_ahead_126 : decode cX12_ahead 126 = .ok (.aload_n 0, 1) := by decide +kernel
theorem dX12_ahead_127 : decode cX12_ahead 127 = .ok (.getfield 9, 3) := by decide +kernel
theorem dX12_ahead_130 : decode cX12_ahead 130 = .ok (.bipush 6, 2) := by decide +kernel
theorem dX12_ahead_132 : decode cX12_ahead 132 = .ok (.iaload, 1) := by decide +kernel
theorem dX12_ahead_133 : decode cX12_ahead 133 = .ok (.istore 5, 2) := by decide +kernel
theorem dX12_ahead_135 : decode cX12_ahead 135 = .ok (.aload_n 0, 1) := by decide +kernel
theorem dX12_ahead_136 : decode cX12_ahead 136 = .ok (.invokevirtual 449, 3) := by decide +kernel
theorem dX12_ahead_139 : decode cX12_ahead 139 = .ok (.iload 5, 2) := by decide +kernel
theorem dX12_ahead_141 : decode cX12_ahead 141 = .ok (.ireturn, 1) := by decide +kernel
theorem dX12_whim_0 : decode cX12_whim 0 = .ok (.aload_n 0, 1) := by decide +kernel
theorem dX12_whim_1 : decode cX12_whim 1 = .ok (.iload_n 1, 1) := by decide +kernel
theorem dX12_whim_2 : decode cX12_whim 2 = .ok (.invokevirtual 358, 3) := by decide +kernel
theorem dX12_whim_5 : decode cX12_whim 5 = .ok (.ifCond .ne 5, 3) := by decide +kernel
theorem dX12_whim_8 : decode cX12_whim 8 = .ok (.iconst (-1), 1) := by decide +kernel
theorem dX12_whim_9 : decode cX12_whim 9 = .ok (.ireturn, 1) := by decide +kernel
theorem dX12_whim_10 : decode cX12_whim 10 = .ok (.aload_n 0, 1) := by decide +kernel
theorem dX12_whim_11 : decode cX12_whim 11 = .ok (.invokevirtual 443, 3) := by decide +kernel
theorem dX12_whim_14 : decode cX12_whim 14 = .ok (.bipush (-2), 2) := by decide +kernel
theorem dX12_whim_16 : decode cX12_whim 16 = .ok (.istore_n 2, 1) := by decide +kernel
theorem dX12_whim_17 : decode cX12_whim 17 = .ok (.iconst 0, 1) := by decide +kernel
theorem dX12_whim_18 : decode cX12_whim 18 = .ok (.istore_n 3, 1) := by decide +kernel
theorem dX12_whim_19 : decode cX12_whim 19 = .ok (.iload_n 3, 1) := by decide +kernel
theorem dX12_whim_20 : decode cX12_whim 20 = .ok (.bipush 100, 2) := by decide +kernel
theorem dX12_whim_22 : decode cX12_whim 22 = .ok (.if_icmp .ge 40, 3) := by decide +kernel
theorem dX12_whim_25 : decode cX12_whim 25 = .ok (.iload_n 2, 1) := by decide +kernel
theorem dX12_whim_26 : decode cX12_whim 26 = .ok (.bipush (-2), 2) := by decide +kernel
theorem dX12_whim_28 : decode cX12_whim 28 = .ok (.if_icmp .ne 34, 3) := by decide +kernel
theorem dX12_whim_31 : decode cX12_whim 31 = .ok (.aload_n 0, 1) := by decide +kernel
theorem dX12_whim_32 : decode cX12_whim 32 = .ok (.invokevirtual 407, 3) := by decide +kernel
theorem dX12_whim_35 : decode cX12_whim 35 = .ok (.iload_n 1, 1) := by decide +kernel
theorem dX12_whim_36 : decode cX12_whim 36 = .ok (.invokestatic 389, 3) := by decide +kernel
theorem dX12_whim_39 : decode cX12_whim 39 = .ok (.ifCond .eq 14, 3) := by decide +kernel
theorem dX12_whim_42 : decode cX12_whim 42 = .ok (.aload_n 0, 1) := by decide +kernel
theorem dX12_whim_43 : decode cX12_whim 43 = .ok (.getfield 9, 3) := by decide +kernel
theorem dX12_whim_46 : decode cX12_whim 46 = .ok (.iconst 5, 1) := by decide +kernel
theorem dX12_whim_47 : decode cX12_whim 47 = .ok (.iaload, 1) := by decide +kernel
theorem dX12_whim_48 : decode cX12_whim 48 = .ok (.iconst 1, 1) := by decide +kernel
theorem dX12_whim_49 : decode cX12_whim 49 = .ok (.isub, 1) := by decide +kernel
theorem dX12_whim_50 : decode cX12_whim 50 = .ok (.goto 5, 3) := by decide +kernel
theorem dX12_whim_53 : decode cX12_whim 53 = .ok (.bipush (-2), 2) := by decide +kernel
theorem dX12_whim_55 : decode cX12_whim 55 = .ok (.istore_n 2, 1) := by decide +kernel
theorem dX12_whim_56 : decode cX12_whim 56 = .ok (.iinc 3 1, 3) := by decide +kernel
theorem dX12_whim_59 : decode cX12_whim 59 = .ok (.goto (-40), 3) := by decide +kernel
theorem dX12_whim_62 : decode cX12_whim 62 = .ok (.aload_n 0, 1) := by decide +kernel
theorem dX12_whim_63 : decode cX12_whim 63 = .ok (.invokevirtual 449, 3) := by decide +kernel
theorem dX12_whim_66 : decode cX12_whim 66 = .ok (.iload_n 2, 1) := by decide +kernel
theorem dX12_whim_67 : decode cX12_whim 67 = .ok (.ireturn, 1) := by decide +kernel
theorem dX12_storm_0 : decode cX12_storm 0 = .ok (.aload_n 0, 1) := by decide +kernel
theorem dX12_storm_1 : decode cX12_storm 1 = .ok (.invokevirtual 428, 3) := by decide +kernel
theorem dX12_storm_4 : decode cX12_storm 4 = .ok (.ifCond .eq 15, 3) := by decide +kernel
theorem dX12_storm_7 : decode cX12_storm 7 = .ok (.iload_n 1, 1) := by decide +kernel
theorem dX12_storm_8 : decode cX12_storm 8 = .ok (.i2l, 1) := by decide +kernel
theorem dX12_storm_9 : decode cX12_storm 9 = .ok (.lconst 1, 1) := by decide +kernel
theorem dX12_storm_10 : decode cX12_storm 10 = .ok (.ldc2_w 452, 3) := by decide +kernel
theorem dX12_storm_13 : decode cX12_storm 13 = .ok (.invokestatic 159, 3) := by decide +kernel
theorem dX12_storm_16 : decode cX12_storm 16 = .ok (.ifCond .ne 5, 3) := by decide +kernel
theorem dX12_storm_19 : decode cX12_storm 19 = .ok (.iconst (-1), 1) := by decide +kernel
theorem dX12_storm_20 : decode cX12_storm 20 = .ok (.ireturn, 1) := by decide +kernel
theorem dX12_storm_21 : decode cX12_storm 21 = .ok (.aload_n 0, 1) := by decide +kernel
theorem dX12_storm_22 : decode cX12_storm 22 = .ok (.invokevirtual 443, 3) := by decide +kernel
theorem dX12_storm_25 : decode cX12_storm 25 = .ok (.bipush (-2), 2) := by decide +kernel
theorem dX12_storm_27 : decode cX12_storm 27 = .ok (.istore_n 2, 1) := by decide +kernel
theorem dX12_storm_28 : decode cX12_storm 28 = .ok (.iconst 0, 1) := by decide +kernel
theorem dX12_storm_29 : decode cX12_storm 29 = .ok (.istore_n 3, 1) := by decide +kernel
theorem dX12_storm_30 : decode cX12_storm 30 = .ok (.iload_n 3, 1) := by decide +kernel
theorem dX12_storm_31 : decode cX12_storm 31 = .ok (.bipush 100, 2) := by decide +kernel
theorem dX12_storm_33 : decode cX12_storm 33 = .ok (.if_icmp .ge 40, 3) := by decide +kernel
theorem dX12_storm_36 : decode cX12_storm 36 = .ok (.iload_n 2, 1) := by decide +kernel
theorem dX12_storm_37 : decode cX12_storm 37 = .ok (.bipush (-2), 2) := by decide +kernel
theorem dX12_storm_39 : decode cX12_storm 39 = .ok (.if_icmp .ne 34, 3) := by decide +kernel
theorem dX12_storm_42 : decode cX12_storm 42 = .ok (.aload_n 0, 1) := by decide +kernel
theorem dX12_storm_43 : decode cX12_storm 43 = .ok (.invokevirtual 407, 3) := by decide +kernel
theorem dX12_storm_46 : decode cX12_storm 46 = .ok (.invokestatic 382, 3) := by decide +kernel
theorem dX12_storm_49 : decode cX12_storm 49 = .ok (.iload_n 1, 1) := by decide +kernel
theorem dX12_storm_50 : decode cX12_storm 50 = .ok (.if_icmp .lt 14, 3) := by decide +kernel
theorem dX12_storm_53 : decode cX12_storm 53 = .ok (.aload_n 0, 1) := by decide +kernel
theorem dX12_storm_54 : decode cX12_storm 54 = .ok (.getfield 9, 3) := by decide +kernel
theorem dX12_storm_57 : decode cX12_storm 57 = .ok (.iconst 5, 1) := by decide +kernel
theorem dX12_storm_58 : decode cX12_storm 58 = .ok (.iaload, 1) := by decide +kernel
theorem dX12_storm_59 : decode cX12_storm 59 = .ok (.iconst 1, 1) := by decide +kernel
theorem dX12_storm_60 : decode cX12_storm 60 = .ok (.isub, 1) := by decide +kernel
theorem dX12_storm_61 : decode cX12_storm 61 = .ok (.goto 5, 3) := by decide +kernel
theorem dX12_storm_64 : decode cX12_storm 64 = .ok (.bipush (-2), 2) := by decide +kernel
theorem dX12_storm_66 : decode cX12_storm 66 = .ok (.istore_n 2, 1) := by decide +kernel
theorem dX12_storm_67 : decode cX12_storm 67 = .ok (.iinc 3 1, 3) := by decide +kernel
theorem dX12_storm_70 : decode cX12_storm 70 = .ok (.goto (-40), 3) := by decide +kernel
theorem dX12_storm_73 : decode cX12_storm 73 = .ok (.aload_n 0, 1) := by decide +kernel
theorem dX12_storm_74 : decode cX12_storm 74 = .ok (.invokevirtual 449, 3) := by decide +kernel
theorem dX12_storm_77 : decode cX12_storm 77 = .ok (.iload_n 2, 1) := by decide +kernel
theorem dX12_storm_78 : decode cX12_storm 78 = .ok (.ireturn, 1) := by decide +kernel
theorem dX12_startsWays_0 : decode cX12_startsWays 0 = .ok (.aload_n 0, 1) := by decide +kernel
theorem dX12_startsWays_1 : decode cX12_startsWays 1 = .ok (.bipush (-2), 2) := by decide +kernel
theorem dX12_startsWays_3 : decode cX12_startsWays 3 = .ok (.putfield 454, 3) := by decide +kernel
theorem dX12_startsWays_6 : decode cX12_startsWays 6 = .ok (.aload_n 0, 1) := by decide +kernel
theorem dX12_startsWays_7 : decode cX12_startsWays 7 = .ok (.iconst 5, 1) := by decide +kernel
theorem dX12_startsWays_8 : decode cX12_startsWays 8 = .ok (.putfield 457, 3) := by decide +kernel
theorem dX12_startsWays_11 : decode cX12_startsWays 11 = .ok (.aload_n 0, 1) := by decide +kernel
theorem dX12_startsWays_12 : decode cX12_startsWays 12 = .ok (.iconst (-1), 1) := by decide +kernel
theorem dX12_startsWays_13 : decode cX12_startsWays 13 = .ok (.putfield 460, 3) := by decide +kernel
theorem dX12_startsWays_16 : decode cX12_startsWays 16 = .ok (.return_, 1) := by decide +kernel
theorem dX12_tries_0 : decode cX12_tries 0 = .ok (.aload_n 0, 1) := by decide +kernel
theorem dX12_tries_1 : decode cX12_tries 1 = .ok (.iload_n 2, 1) := by decide +kernel
theorem dX12_tries_2 : decode cX12_tries 2 = .ok (.invokevirtual 446, 3) := by decide +kernel
theorem dX12_tries_5 : decode cX12_tries 5 = .ok (.aload_n 0, 1) := by decide +kernel
theorem dX12_tries_6 : decode cX12_tries 6 = .ok (.getfield 9, 3) := by decide +kernel
theorem dX12_tries_9 : decode cX12_tries 9 = .ok (.bipush 6, 2) := by decide +kernel
theorem dX12_tries_11 : decode cX12_tries 11 = .ok (.iaload, 1) := by decide +kernel
theorem dX12_tries_12 : decode cX12_tries 12 = .ok (.invokestatic 382, 3) := by decide +kernel
theorem dX12_tries_15 : decode cX12_tries 15 = .ok (.istore_n 3, 1) := by decide +kernel
theorem dX12_tries_16 : decode cX12_tries 16 = .ok (.aload_n 0, 1) := by decide +kernel
theorem dX12_tries_17 : decode cX12_tries 17 = .ok (.invokevirtual 379, 3) := by decide +kernel
theorem dX12_tries_20 : decode cX12_tries 20 = .ok (.istore 4, 2) := by decide +kernel
theorem dX12_tries_22 : decode cX12_tries 22 = .ok (.aload_n 0, 1) := by decide +kernel
theorem dX12_tries_23 : decode cX12_tries 23 = .ok (.invokevirtual 449, 3) := by decide +kernel
theorem dX12_tries_26 : decode cX12_tries 26 = .ok (.iload_n 3, 1) := by decide +kernel
theorem dX12_tries_27 : decode cX12_tries 27 = .ok (.aload_n 0, 1) := by decide +kernel
theorem dX12_tries_28 : decode cX12_tries 28 = .ok (.getfield 457, 3) := by decide +kernel
theorem dX12_tries_31 : decode cX12_tries 31 = .ok (.if_icmp .lt 20, 3) := by decide +kernel
theorem dX12_tries_34 : decode cX12_tries 34 = .ok (.iload_n 3, 1) := by decide +kernel
theorem dX12_tries_35 : decode cX12_tries 35 = .ok (.aload_n 0, 1) := by decide +kernel
theorem dX12_tries_36 : decode cX12_tries 36 = .ok (.getfield 457, 3) := by decide +kernel
theorem dX12_tries_39 : decode cX12_tries 39 = .ok (.if_icmp .ne 28, 3) := by decide +kernel
theorem dX12_tries_42 : decode cX12_tries 42 = .ok (.iload 4, 2) := by decide +kernel
theorem dX12_tries_44 : decode cX12_tries 44 = .ok (.aload_n 0, 1) := by decide +kernel
theorem dX12_tries_45 : decode cX12_tries 45 = .ok (.getfield 460, 3) := by decide +kernel
theorem dX12_tries_48 : decode cX12_tries 48 = .ok (.if_icmp .le 19, 3) := by decide +kernel
theorem dX12_tries_51 : decode cX12_tries 51 = .ok (.aload_n 0, 1) := by decide +kernel
theorem dX12_tries_52 : decode cX12_tries 52 = .ok (.iload_n 1, 1) := by decide +kernel
theorem dX12_tries_53 : decode cX12_tries 53 = .ok (.putfield 454, 3) := by decide +kernel
