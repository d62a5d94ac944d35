theorem d_Mod_gap_24 : decode prog_10_method_21_code 24 = .ok (.invokestatic 123, 3) := by decide +kernel
theorem d_Mod_gap_27 : decode prog_10_method_21_code 27 = .ok (.istore_n 3, 1) := by decide +kernel
theorem d_Mod_gap_28 : decode prog_10_method_21_code 28 = .ok (.aload_n 0, 1) := by decide +kernel
theorem d_Mod_gap_29 : decode prog_10_method_21_code 29 = .ok (.getfield 54, 3) := by decide +kernel
theorem d_Mod_gap_32 : decode prog_10_method_21_code 32 = .ok (.iload_n 1, 1) := by decide +kernel
theorem d_Mod_gap_33 : decode prog_10_method_21_code 33 = .ok (.iaload, 1) := by decide +kernel
theorem d_Mod_gap_34 : decode prog_10_method_21_code 34 = .ok (.aload_n 0, 1) := by decide +kernel
theorem d_Mod_gap_35 : decode prog_10_method_21_code 35 = .ok (.getfield 20, 3) := by decide +kernel
theorem d_Mod_gap_38 : decode prog_10_method_21_code 38 = .ok (.iload_n 1, 1) := by decide +kernel
theorem d_Mod_gap_39 : decode prog_10_method_21_code 39 = .ok (.iaload, 1) := by decide +kernel
theorem d_Mod_gap_40 : decode prog_10_method_21_code 40 = .ok (.aload_n 0, 1) := by decide +kernel
theorem d_Mod_gap_41 : decode prog_10_method_21_code 41 = .ok (.getfield 54, 3) := by decide +kernel
theorem d_Mod_gap_44 : decode prog_10_method_21_code 44 = .ok (.iload_n 2, 1) := by decide +kernel
theorem d_Mod_gap_45 : decode prog_10_method_21_code 45 = .ok (.iaload, 1) := by decide +kernel
theorem d_Mod_gap_46 : decode prog_10_method_21_code 46 = .ok (.aload_n 0, 1) := by decide +kernel
theorem d_Mod_gap_47 : decode prog_10_method_21_code 47 = .ok (.getfield 20, 3) := by decide +kernel
theorem d_Mod_gap_50 : decode prog_10_method_21_code 50 = .ok (.iload_n 2, 1) := by decide +kernel
theorem d_Mod_gap_51 : decode prog_10_method_21_code 51 = .ok (.iaload, 1) := by decide +kernel
theorem d_Mod_gap_52 : decode prog_10_method_21_code 52 = .ok (.invokestatic 123, 3) := by decide +kernel
theorem d_Mod_gap_55 : decode prog_10_method_21_code 55 = .ok (.istore 4, 2) := by decide +kernel
theorem d_Mod_gap_57 : decode prog_10_method_21_code 57 = .ok (.iload_n 3, 1) := by decide +kernel
theorem d_Mod_gap_58 : decode prog_10_method_21_code 58 = .ok (.iload 4, 2) := by decide +kernel
theorem d_Mod_gap_60 : decode prog_10_method_21_code 60 = .ok (.if_icmp .le 7, 3) := by decide +kernel
theorem d_Mod_gap_63 : decode prog_10_method_21_code 63 = .ok (.iload_n 3, 1) := by decide +kernel
theorem d_Mod_gap_64 : decode prog_10_method_21_code 64 = .ok (.goto 5, 3) := by decide +kernel
theorem d_Mod_gap_67 : decode prog_10_method_21_code 67 = .ok (.iload 4, 2) := by decide +kernel
theorem d_Mod_gap_69 : decode prog_10_method_21_code 69 = .ok (.ireturn, 1) := by decide +kernel
theorem d_Mod_between_0 : decode prog_10_method_20_code 0 = .ok (.iload_n 0, 1) := by decide +kernel
theorem d_Mod_between_1 : decode prog_10_method_20_code 1 = .ok (.iload_n 1, 1) := by decide +kernel
theorem d_Mod_between_2 : decode prog_10_method_20_code 2 = .ok (.iadd, 1) := by decide +kernel
theorem d_Mod_between_3 : decode prog_10_method_20_code 3 = .ok (.iload_n 2, 1) := by decide +kernel
theorem d_Mod_between_4 : decode prog_10_method_20_code 4 = .ok (.if_icmp .gt 9, 3) := by decide +kernel
theorem d_Mod_between_7 : decode prog_10_method_20_code 7 = .ok (.iload_n 2, 1) := by decide +kernel
theorem d_Mod_between_8 : decode prog_10_method_20_code 8 = .ok (.iload_n 0, 1) := by decide +kernel
theorem d_Mod_between_9 : decode prog_10_method_20_code 9 = .ok (.isub, 1) := by decide +kernel
theorem d_Mod_between_10 : decode prog_10_method_20_code 10 = .ok (.iload_n 1, 1) := by decide +kernel
theorem d_Mod_between_11 : decode prog_10_method_20_code 11 = .ok (.isub, 1) := by decide +kernel
theorem d_Mod_between_12 : decode prog_10_method_20_code 12 = .ok (.ireturn, 1) := by decide +kernel
theorem d_Mod_between_13 : decode prog_10_method_20_code 13 = .ok (.iload_n 2, 1) := by decide +kernel
theorem d_Mod_between_14 : decode prog_10_method_20_code 14 = .ok (.iload_n 3, 1) := by decide +kernel
theorem d_Mod_between_15 : decode prog_10_method_20_code 15 = .ok (.iadd, 1) := by decide +kernel
theorem d_Mod_between_16 : decode prog_10_method_20_code 16 = .ok (.iload_n 0, 1) := by decide +kernel
theorem d_Mod_between_17 : decode prog_10_method_20_code 17 = .ok (.if_icmp .gt 11, 3) := by decide +kernel
theorem d_Mod_between_20 : decode prog_10_method_20_code 20 = .ok (.iload_n 0, 1) := by decide +kernel
theorem d_Mod_between_21 : decode prog_10_method_20_code 21 = .ok (.iload_n 2, 1) := by decide +kernel
theorem d_Mod_between_22 : decode prog_10_method_20_code 22 = .ok (.isub, 1) := by decide +kernel
theorem d_Mod_between_23 : decode prog_10_method_20_code 23 = .ok (.iload_n 3, 1) := by decide +kernel
theorem d_Mod_between_24 : decode prog_10_method_20_code 24 = .ok (.isub, 1) := by decide +kernel
theorem d_Mod_between_25 : decode prog_10_method_20_code 25 = .ok (.goto 4, 3) := by decide +kernel
theorem d_Mod_between_28 : decode prog_10_method_20_code 28 = .ok (.iconst 0, 1) := by decide +kernel
theorem d_Mod_between_29 : decode prog_10_method_20_code 29 = .ok (.ireturn, 1) := by decide +kernel
theorem d_Mod_isLayout_0 : decode prog_10_method_32_code 0 = .ok (.iconst 1, 1) := by decide +kernel
theorem d_Mod_isLayout_1 : decode prog_10_method_32_code 1 = .ok (.istore_n 1, 1) := by decide +kernel
theorem d_Mod_isLayout_2 : decode prog_10_method_32_code 2 = .ok (.iconst 0, 1) := by decide +kernel
theorem d_Mod_isLayout_3 : decode prog_10_method_32_code 3 = .ok (.istore_n 2, 1) := by decide +kernel
theorem d_Mod_isLayout_4 : decode prog_10_method_32_code 4 = .ok (.iload_n 2, 1) := by decide +kernel
theorem d_Mod_isLayout_5 : decode prog_10_method_32_code 5 = .ok (.bipush 7, 2) := by decide +kernel
theorem d_Mod_isLayout_7 : decode prog_10_method_32_code 7 = .ok (.aload_n 0, 1) := by decide +kernel
theorem d_Mod_isLayout_8 : decode prog_10_method_32_code 8 = .ok (.getfield 99, 3) := by decide +kernel
theorem d_Mod_isLayout_11 : decode prog_10_method_32_code 11 = .ok (.imul, 1) := by decide +kernel
theorem d_Mod_isLayout_12 : decode prog_10_method_32_code 12 = .ok (.if_icmp .ge 43, 3) := by decide +kernel
theorem d_Mod_isLayout_15 : decode prog_10_method_32_code 15 = .ok (.iload_n 1, 1) := by decide +kernel
theorem d_Mod_isLayout_16 : decode prog_10_method_32_code 16 = .ok (.ifCond .eq 39, 3) := by decide +kernel
theorem d_Mod_isLayout_19 : decode prog_10_method_32_code 19 = .ok (.aload_n 0, 1) := by decide +kernel
theorem d_Mod_isLayout_20 : decode prog_10_method_32_code 20 = .ok (.getfield 38, 3) := by decide +kernel
theorem d_Mod_isLayout_23 : decode prog_10_method_32_code 23 = .ok (.iload_n 2, 1) := by decide +kernel
theorem d_Mod_isLayout_24 : decode prog_10_method_32_code 24 = .ok (.baload, 1) := by decide +kernel
theorem d_Mod_isLayout_25 : decode prog_10_method_32_code 25 = .ok (.ifCond .eq 18, 3) := by decide +kernel
theorem d_Mod_isLayout_28 : decode prog_10_method_32_code 28 = .ok (.aload_n 0, 1) := by decide +kernel
theorem d_Mod_isLayout_29 : decode prog_10_method_32_code 29 = .ok (.iload_n 2, 1) := by decide +kernel
theorem d_Mod_isLayout_30 : decode prog_10_method_32_code 30 = .ok (.bipush 7, 2) := by decide +kernel
theorem d_Mod_isLayout_32 : decode prog_10_method_32_code 32 = .ok (.idiv, 1) := by decide +kernel
theorem d_Mod_isLayout_33 : decode prog_10_method_32_code 33 = .ok (.iload_n 2, 1) := by decide +kernel
theorem d_Mod_isLayout_34 : decode prog_10_method_32_code 34 = .ok (.bipush 7, 2) := by decide +kernel
theorem d_Mod_isLayout_36 : decode prog_10_method_32_code 36 = .ok (.irem, 1) := by decide +kernel
theorem d_Mod_isLayout_37 : decode prog_10_method_32_code 37 = .ok (.invokevirtual 150, 3) := by decide +kernel
theorem d_Mod_isLayout_40 : decode prog_10_method_32_code 40 = .ok (.ifCond .eq 7, 3) := by decide +kernel
theorem d_Mod_isLayout_43 : decode prog_10_method_32_code 43 = .ok (.iconst 1, 1) := by decide +kernel
theorem d_Mod_isLayout_44 : decode prog_10_method_32_code 44 = .ok (.goto 4, 3) := by decide +kernel
theorem d_Mod_isLayout_47 : decode prog_10_method_32_code 47 = .ok (.iconst 0, 1) := by decide +kernel
theorem d_Mod_isLayout_48 : decode prog_10_method_32_code 48 = .ok (.istore_n 1, 1) := by decide +kernel
theorem d_Mod_isLayout_49 : decode prog_10_method_32_code 49 = .ok (.iinc 2 1, 3) := by decide +kernel
theorem d_Mod_isLayout_52 : decode prog_10_method_32_code 52 = .ok (.goto (-48), 3) := by decide +kernel
theorem d_Mod_isLayout_55 : decode prog_10_method_32_code 55 = .ok (.iload_n 1, 1) := by decide +kernel
theorem d_Mod_isLayout_56 : decode prog_10_method_32_code 56 = .ok (.ifCond .eq 10, 3) := by decide +kernel
theorem d_Mod_isLayout_59 : decode prog_10_method_32_code 59 = .ok (.aload_n 0, 1) := by decide +kernel
theorem d_Mod_isLayout_60 : decode prog_10_method_32_code 60 = .ok (.getfield 96, 3) := by decide +kernel
theorem d_Mod_isLayout_63 : decode prog_10_method_32_code 63 = .ok (.ifCond .ne 5, 3) := by decide +kernel
theorem d_Mod_isLayout_66 : decode prog_10_method_32_code 66 = .ok (.iload_n 1, 1) := by decide +kernel
theorem d_Mod_isLayout_67 : decode prog_10_method_32_code 67 = .ok (.ireturn, 1) := by decide +kernel
theorem d_Mod_isLayout_68 : decode prog_10_method_32_code 68 = .ok (.aload_n 0, 1) := by decide +kernel
theorem d_Mod_isLayout_69 : decode prog_10_method_32_code 69 = .ok (.invokevirtual 153, 3) := by decide +kernel
theorem d_Mod_isLayout_72 : decode prog_10_method_32_code 72 = .ok (.iconst 0, 1) := by decide +kernel
theorem d_Mod_isLayout_73 : decode prog_10_method_32_code 73 = .ok (.istore_n 2, 1) := by decide +kernel
theorem d_Mod_isLayout_74 : decode prog_10_method_32_code 74 = .ok (.iload_n 2, 1) := by decide +kernel
theorem d_Mod_isLayout_75 : decode prog_10_method_32_code 75 = .ok (.aload_n 0, 1) := by decide +kernel
theorem d_Mod_isLayout_76 : decode prog_10_method_32_code 76 = .ok (.getfield 86, 3) := by decide +kernel
theorem d_Mod_isLayout_79 : decode prog_10_method_32_code 79 = .ok (.if_icmp .ge 27, 3) := by decide +kernel
theorem d_Mod_isLayout_82 : decode prog_10_method_32_code 82 = .ok (.iload_n 1, 1) := by decide +kernel
theorem d_Mod_isLayout_83 : decode prog_10_method_32_code 83 = .ok (.ifCond .eq 15, 3) := by decide +kernel
theorem d_Mod_isLayout_86 : decode prog_10_method_32_code 86 = .ok (.aload_n 0, 1) := by decide +kernel
theorem d_Mod_isLayout_87 : decode prog_10_method_32_code 87 = .ok (.iload_n 2, 1) := by decide +kernel
theorem d_Mod_isLayout_88 : decode prog_10_method_32_code 88 = .ok (.invokevirtual 156, 3) := by decide +kernel
theorem d_Mod_isLayout_91 : decode prog_10_method_32_code 91 = .ok (.ifCond .eq 7, 3) := by decide +kernel
theorem d_Mod_isLayout_94 : decode prog_10_method_32_code 94 = .ok (.iconst 1, 1) := by decide +kernel
theorem d_Mod_isLayout_95 : decode prog_10_method_32_code 95 = .ok (.goto 4, 3) := by decide +kernel
theorem d_Mod_isLayout_98 : decode prog_10_method_32_code 98 = .ok (.iconst 0, 1) := by decide +kernel
theorem d_Mod_isLayout_99 : decode prog_10_method_32_code 99 = .ok (.istore_n 1, 1) := by decide +kernel
theorem d_Mod_isLayout_100 : decode prog_10_method_32_code 100 = .ok (.iinc 2 1, 3) := by decide +kernel
theorem d_Mod_isLayout_103 : decode prog_10_method_32_code 103 = .ok (.goto (-29), 3) := by decide +kernel
theorem d_Mod_isLayout_106 : decode prog_10_method_32_code 106 = .ok (.iload_n 1, 1) := by decide +kernel
theorem d_Mod_isLayout_107 : decode prog_10_method_32_code 107 = .ok (.ireturn, 1) := by decide +kernel
theorem d_Mod_isSeen_0 : decode prog_10_method_27_code 0 = .ok (.iconst 2, 1) := by decide +kernel
theorem d_Mod_isSeen_1 : decode prog_10_method_27_code 1 = .ok (.aload_n 0, 1) := by decide +kernel
theorem d_Mod_isSeen_2 : decode prog_10_method_27_code 2 = .ok (.getfield 32, 3) := by decide +kernel
theorem d_Mod_isSeen_5 : decode prog_10_method_27_code 5 = .ok (.iload_n 1, 1) := by decide +kernel
theorem d_Mod_isSeen_6 : decode prog_10_method_27_code 6 = .ok (.iaload, 1) := by decide +kernel
theorem d_Mod_isSeen_7 : decode prog_10_method_27_code 7 = .ok (.imul, 1) := by decide +kernel
theorem d_Mod_isSeen_8 : decode prog_10_method_27_code 8 = .ok (.iconst 1, 1) := by decide +kernel
theorem d_Mod_isSeen_9 : decode prog_10_method_27_code 9 = .ok (.iadd, 1) := by decide +kernel
theorem d_Mod_isSeen_10 : decode prog_10_method_27_code 10 = .ok (.istore_n 3, 1) := by decide +kernel
theorem d_Mod_isSeen_11 : decode prog_10_method_27_code 11 = .ok (.iconst 2, 1) := by decide +kernel
theorem d_Mod_isSeen_12 : decode prog_10_method_27_code 12 = .ok (.aload_n 0, 1) := by decide +kernel
theorem d_Mod_isSeen_13 : decode prog_10_method_27_code 13 = .ok (.getfield 35, 3) := by decide +kernel
theorem d_Mod_isSeen_16 : decode prog_10_method_27_code 16 = .ok (.iload_n 1, 1) := by decide +kernel
theorem d_Mod_isSeen_17 : decode prog_10_method_27_code 17 = .ok (.iaload, 1) := by decide +kernel
theorem d_Mod_isSeen_18 : decode prog_10_method_27_code 18 = .ok (.imul, 1) := by decide +kernel
theorem d_Mod_isSeen_19 : decode prog_10_method_27_code 19 = .ok (.iconst 1, 1) := by decide +kernel
theorem d_Mod_isSeen_20 : decode prog_10_method_27_code 20 = .ok (.iadd, 1) := by decide +kernel
theorem d_Mod_isSeen_21 : decode prog_10_method_27_code 21 = .ok (.istore 4, 2) := by decide +kernel
theorem d_Mod_isSeen_23 : decode prog_10_method_27_code 23 = .ok (.iconst 2, 1) := by decide +kernel
theorem d_Mod_isSeen_24 : decode prog_10_method_27_code 24 = .ok (.aload_n 0, 1) := by decide +kernel
theorem d_Mod_isSeen_25 : decode prog_10_method_27_code 25 = .ok (.getfield 51, 3) := by decide +kernel
theorem d_Mod_isSeen_28 : decode prog_10_method_27_code 28 = .ok (.iload_n 2, 1) := by decide +kernel
theorem d_Mod_isSeen_29 : decode prog_10_method_27_code 29 = .ok (.iaload, 1) := by decide +kernel
theorem d_Mod_isSeen_30 : decode prog_10_method_27_code 30 = .ok (.imul, 1) := by decide +kernel
theorem d_Mod_isSeen_31 : decode prog_10_method_27_code 31 = .ok (.iconst 1, 1) := by decide +kernel
theorem d_Mod_isSeen_32 : decode prog_10_method_27_code 32 = .ok (.iadd, 1) := by decide +kernel
theorem d_Mod_isSeen_33 : decode prog_10_method_27_code 33 = .ok (.istore 5, 2) := by decide +kernel
theorem d_Mod_isSeen_35 : decode prog_10_method_27_code 35 = .ok (.iconst 2, 1) := by decide +kernel
theorem d_Mod_isSeen_36 : decode prog_10_method_27_code 36 = .ok (.aload_n 0, 1) := by decide +kernel
theorem d_Mod_isSeen_37 : decode prog_10_method_27_code 37 = .ok (.getfield 54, 3) := by decide +kernel
theorem d_Mod_isSeen_40 : decode prog_10_method_27_code 40 = .ok (.iload_n 2, 1) := by decide +kernel
theorem d_Mod_isSeen_41 : decode prog_10_method_27_code 41 = .ok (.iaload, 1) := by decide +kernel
theorem d_Mod_isSeen_42 : decode prog_10_method_27_code 42 = .ok (.imul, 1) := by decide +kernel
theorem d_Mod_isSeen_43 : decode prog_10_method_27_code 43 = .ok (.iconst 1, 1) := by decide +kernel
theorem d_Mod_isSeen_44 : decode prog_10_method_27_code 44 = .ok (.iadd, 1) := by decide +kernel
theorem d_Mod_isSeen_45 : decode prog_10_method_27_code 45 = .ok (.istore 6, 2) := by decide +kernel
theorem d_Mod_isSeen_47 : decode prog_10_method_27_code 47 = .ok (.iconst 1, 1) := by decide +kernel
theorem d_Mod_isSeen_48 : decode prog_10_method_27_code 48 = .ok (.istore 7, 2) := by decide +kernel
theorem d_Mod_isSeen_50 : decode prog_10_method_27_code 50 = .ok (.iconst 0, 1) := by decide +kernel
theorem d_Mod_isSeen_51 : decode prog_10_method_27_code 51 = .ok (.istore 8, 2) := by decide +kernel
theorem d_Mod_isSeen_53 : decode prog_10_method_27_code 53 = .ok (.iload 8, 2) := by decide +kernel
theorem d_Mod_isSeen_55 : decode prog_10_method_27_code 55 = .ok (.aload_n 0, 1) := by decide +kernel
theorem d_Mod_isSeen_56 : decode prog_10_method_27_code 56 = .ok (.getfield 73, 3) := by decide +kernel
theorem d_Mod_isSeen_59 : decode prog_10_method_27_code 59 = .ok (.aload_n 0, 1) := by decide +kernel
theorem d_Mod_isSeen_60 : decode prog_10_method_27_code 60 = .ok (.getfield 76, 3) := by decide +kernel
theorem d_Mod_isSeen_63 : decode prog_10_method_27_code 63 = .ok (.imul, 1) := by decide +kernel
theorem d_Mod_isSeen_64 : decode prog_10_method_27_code 64 = .ok (.if_icmp .ge 125, 3) := by decide +kernel
theorem d_Mod_isSeen_67 : decode prog_10_method_27_code 67 = .ok (.iload 7, 2) := by decide +kernel
theorem d_Mod_isSeen_69 : decode prog_10_method_27_code 69 = .ok (.ifCond .eq 120, 3) := by decide +kernel
theorem d_Mod_isSeen_72 : decode prog_10_method_27_code 72 = .ok (.iload 8, 2) := by decide +kernel
theorem d_Mod_isSeen_74 : decode prog_10_method_27_code 74 = .ok (.aload_n 0, 1) := by decide +kernel
theorem d_Mod_isSeen_75 : decode prog_10_method_27_code 75 = .ok (.getfield 73, 3) := by decide +kernel
theorem d_Mod_isSeen_78 : decode prog_10_method_27_code 78 = .ok (.irem, 1) := by decide +kernel
theorem d_Mod_isSeen_79 : decode prog_10_method_27_code 79 = .ok (.istore 9, 2) := by decide +kernel
theorem d_Mod_isSeen_81 : decode prog_10_method_27_code 81 = .ok (.iload 8, 2) := by decide +kernel
theorem d_Mod_isSeen_83 : decode prog_10_method_27_code 83 = .ok (.aload_n 0, 1) := by decide +kernel
theorem d_Mod_isSeen_84 : decode prog_10_method_27_code 84 = .ok (.getfield 73, 3) := by decide +kernel
theorem d_Mod_isSeen_87 : decode prog_10_method_27_code 87 = .ok (.idiv, 1) := by decide +kernel
theorem d_Mod_isSeen_88 : decode prog_10_method_27_code 88 = .ok (.istore 10, 2) := by decide +kernel
theorem d_Mod_isSeen_90 : decode prog_10_method_27_code 90 = .ok (.aload_n 0, 1) := by decide +kernel
theorem d_Mod_isSeen_91 : decode prog_10_method_27_code 91 = .ok (.getfield 7, 3) := by decide +kernel
theorem d_Mod_isSeen_94 : decode prog_10_method_27_code 94 = .ok (.bipush 9, 2) := by decide +kernel
theorem d_Mod_isSeen_96 : decode prog_10_method_27_code 96 = .ok (.iload 10, 2) := by decide +kernel
theorem d_Mod_isSeen_98 : decode prog_10_method_27_code 98 = .ok (.imul, 1) := by decide +kernel
theorem d_Mod_isSeen_99 : decode prog_10_method_27_code 99 = .ok (.iload 9, 2) := by decide +kernel
theorem d_Mod_isSeen_101 : decode prog_10_method_27_code 101 = .ok (.iadd, 1) := by decide +kernel
theorem d_Mod_isSeen_102 : decode prog_10_method_27_code 102 = .ok (.baload, 1) := by decide +kernel
theorem d_Mod_isSeen_103 : decode prog_10_method_27_code 103 = .ok (.istore 11, 2) := by decide +kernel
theorem d_Mod_isSeen_105 : decode prog_10_method_27_code 105 = .ok (.iconst 0, 1) := by decide +kernel
theorem d_Mod_isSeen_106 : decode prog_10_method_27_code 106 = .ok (.istore 12, 2) := by decide +kernel
theorem d_Mod_isSeen_108 : decode prog_10_method_27_code 108 = .ok (.iload 12, 2) := by decide +kernel
theorem d_Mod_isSeen_110 : decode prog_10_method_27_code 110 = .ok (.aload_n 0, 1) := by decide +kernel
theorem d_Mod_isSeen_111 : decode prog_10_method_27_code 111 = .ok (.getfield 86, 3) := by decide +kernel
theorem d_Mod_isSeen_114 : decode prog_10_method_27_code 114 = .ok (.if_icmp .ge 40, 3) := by decide +kernel
theorem d_Mod_isSeen_117 : decode prog_10_method_27_code 117 = .ok (.iload 11, 2) := by decide +kernel
theorem d_Mod_isSeen_119 : decode prog_10_method_27_code 119 = .ok (.ifCond .ne 22, 3) := by decide +kernel
theorem d_Mod_isSeen_122 : decode prog_10_method_27_code 122 = .ok (.iload 12, 2) := by decide +kernel
theorem d_Mod_isSeen_124 : decode prog_10_method_27_code 124 = .ok (.iload_n 2, 1) := by decide +kernel
theorem d_Mod_isSeen_125 : decode prog_10_method_27_code 125 = .ok (.if_icmp .eq 20, 3) := by decide +kernel
theorem d_Mod_isSeen_128 : decode prog_10_method_27_code 128 = .ok (.aload_n 0, 1) := by decide +kernel
theorem d_Mod_isSeen_129 : decode prog_10_method_27_code 129 = .ok (.iload 12, 2) := by decide +kernel
theorem d_Mod_isSeen_131 : decode prog_10_method_27_code 131 = .ok (.iload 9, 2) := by decide +kernel
theorem d_Mod_isSeen_133 : decode prog_10_method_27_code 133 = .ok (.iload 10, 2) := by decide +kernel
theorem d_Mod_isSeen_135 : decode prog_10_method_27_code 135 = .ok (.invokevirtual 137, 3) := by decide +kernel
theorem d_Mod_isSeen_138 : decode prog_10_method_27_code 138 = .ok (.ifCond .eq 7, 3) := by decide +kernel
theorem d_Mod_isSeen_141 : decode prog_10_method_27_code 141 = .ok (.iconst 1, 1) := by decide +kernel
theorem d_Mod_isSeen_142 : decode prog_10_method_27_code 142 = .ok (.goto 4, 3) := by decide +kernel
theorem d_Mod_isSeen_145 : decode prog_10_method_27_code 145 = .ok (.iconst 0, 1) := by decide +kernel
theorem d_Mod_isSeen_146 : decode prog_10_method_27_code 146 = .ok (.istore 11, 2) := by decide +kernel
theorem d_Mod_isSeen_148 : decode prog_10_method_27_code 148 = .ok (.iinc 12 1, 3) := by decide +kernel
theorem d_Mod_isSeen_151 : decode prog_10_method_27_code 151 = .ok (.goto (-43), 3) := by decide +kernel
theorem d_Mod_isSeen_154 : decode prog_10_method_27_code 154 = .ok (.iload 11, 2) := by decide +kernel
theorem d_Mod_isSeen_156 : decode prog_10_method_27_code 156 = .ok (.ifCond .eq 20, 3) := by decide +kernel
theorem d_Mod_isSeen_159 : decode prog_10_method_27_code 159 = .ok (.iload_n 3, 1) := by decide +kernel
theorem d_Mod_isSeen_160 : decode prog_10_method_27_code 160 = .ok (.iload 4, 2) := by decide +kernel
theorem d_Mod_isSeen_162 : decode prog_10_method_27_code 162 = .ok (.iload 5, 2) := by decide +kernel
theorem d_Mod_isSeen_164 : decode prog_10_method_27_code 164 = .ok (.iload 6, 2) := by decide +kernel
theorem d_Mod_isSeen_166 : decode prog_10_method_27_code 166 = .ok (.iload 9, 2) := by decide +kernel
theorem d_Mod_isSeen_168 : decode prog_10_method_27_code 168 = .ok (.iload 10, 2) := by decide +kernel
theorem d_Mod_isSeen_170 : decode prog_10_method_27_code 170 = .ok (.invokestatic 140, 3) := by decide +kernel
theorem d_Mod_isSeen_173 : decode prog_10_method_27_code 173 = .ok (.ifCond .ne 7, 3) := by decide +kernel
theorem d_Mod_isSeen_176 : decode prog_10_method_27_code 176 = .ok (.iconst 1, 1) := by decide +kernel
theorem d_Mod_isSeen_177 : decode prog_10_method_27_code 177 = .ok (.goto 4, 3) := by decide +kernel
theorem d_Mod_isSeen_180 : decode prog_10_method_27_code 180 = .ok (.iconst 0, 1) := by decide +kernel
theorem d_Mod_isSeen_181 : decode prog_10_method_27_code 181 = .ok (.istore 7, 2) := by decide +kernel
theorem d_Mod_isSeen_183 : decode prog_10_method_27_code 183 = .ok (.iinc 8 1, 3) := by decide +kernel
theorem d_Mod_isSeen_186 : decode prog_10_method_27_code 186 = .ok (.goto (-133), 3) := by decide +kernel
theorem d_Mod_isSeen_189 : decode prog_10_method_27_code 189 = .ok (.iload 7, 2) := by decide +kernel
theorem d_Mod_isSeen_191 : decode prog_10_method_27_code 191 = .ok (.ireturn, 1) := by decide +kernel
theorem d_Mod_covers_0 : decode prog_10_method_23_code 0 = .ok (.iload_n 2, 1) := by decide +kernel
theorem d_Mod_covers_1 : decode prog_10_method_23_code 1 = .ok (.aload_n 0, 1) := by decide +kernel
theorem d_Mod_covers_2 : decode prog_10_method_23_code 2 = .ok (.getfield 51, 3) := by decide +kernel
theorem d_Mod_covers_5 : decode prog_10_method_23_code 5 = .ok (.iload_n 1, 1) := by decide +kernel
theorem d_Mod_covers_6 : decode prog_10_method_23_code 6 = .ok (.iaload, 1) := by decide +kernel
theorem d_Mod_covers_7 : decode prog_10_method_23_code 7 = .ok (.isub, 1) := by decide +kernel
theorem d_Mod_covers_8 : decode prog_10_method_23_code 8 = .ok (.iconst 0, 1) := by decide +kernel
theorem d_Mod_covers_9 : decode prog_10_method_23_code 9 = .ok (.aload_n 0, 1) := by decide +kernel
theorem d_Mod_covers_10 : decode prog_10_method_23_code 10 = .ok (.getfield 17, 3) := by decide +kernel
theorem d_Mod_covers_13 : decode prog_10_method_23_code 13 = .ok (.iload_n 1, 1) := by decide +kernel
theorem d_Mod_covers_14 : decode prog_10_method_23_code 14 = .ok (.iaload, 1) := by decide +kernel
theorem d_Mod_covers_15 : decode prog_10_method_23_code 15 = .ok (.iconst 1, 1) := by decide +kernel
theorem d_Mod_covers_16 : decode prog_10_method_23_code 16 = .ok (.isub, 1) := by decide +kernel
theorem d_Mod_covers_17 : decode prog_10_method_23_code 17 = .ok (.invokestatic 82, 3) := by decide +kernel
theorem d_Mod_covers_20 : decode prog_10_method_23_code 20 = .ok (.ifCond .eq 30, 3) := by decide +kernel
theorem d_Mod_covers_23 : decode prog_10_method_23_code 23 = .ok (.iload_n 3, 1) := by decide +kernel
theorem d_Mod_covers_24 : decode prog_10_method_23_code 24 = .ok (.aload_n 0, 1) := by decide +kernel
theorem d_Mod_covers_25 : decode prog_10_method_23_code 25 = .ok (.getfield 54, 3) := by decide +kernel
theorem d_Mod_covers_28 : decode prog_10_method_23_code 28 = .ok (.iload_n 1, 1) := by decide +kernel
theorem d_Mod_covers_29 : decode prog_10_method_23_code 29 = .ok (.iaload, 1) := by decide +kernel
theorem d_Mod_covers_30 : decode prog_10_method_23_code 30 = .ok (.isub, 1) := by decide +kernel
theorem d_Mod_covers_31 : decode prog_10_method_23_code 31 = .ok (.iconst 0, 1) := by decide +kernel
theorem d_Mod_covers_32 : decode prog_10_method_23_code 32 = .ok (.aload_n 0, 1) := by decide +kernel
theorem d_Mod_covers_33 : decode prog_10_method_23_code 33 = .ok (.getfield 20, 3) := by decide +kernel
theorem d_Mod_covers_36 : decode prog_10_method_23_code 36 = .ok (.iload_n 1, 1) := by decide +kernel
theorem d_Mod_covers_37 : decode prog_10_method_23_code 37 = .ok (.iaload, 1) := by decide +kernel
theorem d_Mod_covers_38 : decode prog_10_method_23_code 38 = .ok (.iconst 1, 1) := by decide +kernel
theorem d_Mod_covers_39 : decode prog_10_method_23_code 39 = .ok (.isub, 1) := by decide +kernel
theorem d_Mod_covers_40 : decode prog_10_method_23_code 40 = .ok (.invokestatic 82, 3) := by decide +kernel
theorem d_Mod_covers_43 : decode prog_10_method_23_code 43 = .ok (.ifCond .eq 7, 3) := by decide +kernel
theorem d_Mod_covers_46 : decode prog_10_method_23_code 46 = .ok (.iconst 1, 1) := by decide +kernel
theorem d_Mod_covers_47 : decode prog_10_method_23_code 47 = .ok (.goto 4, 3) := by decide +kernel
theorem d_Mod_covers_50 : decode prog_10_method_23_code 50 = .ok (.iconst 0, 1) := by decide +kernel
theorem d_Mod_covers_51 : decode prog_10_method_23_code 51 = .ok (.ireturn, 1) := by decide +kernel
theorem d_Mod_goesThrough_0 : decode prog_10_method_26_code 0 = .ok (.iload_n 0, 1) := by decide +kernel
theorem d_Mod_goesThrough_1 : decode prog_10_method_26_code 1 = .ok (.iload_n 2, 1) := by decide +kernel
theorem d_Mod_goesThrough_2 : decode prog_10_method_26_code 2 = .ok (.if_icmp .ge 7, 3) := by decide +kernel
theorem d_Mod_goesThrough_5 : decode prog_10_method_26_code 5 = .ok (.iload_n 0, 1) := by decide +kernel
theorem d_Mod_goesThrough_6 : decode prog_10_method_26_code 6 = .ok (.goto 4, 3) := by decide +kernel
theorem d_Mod_goesThrough_9 : decode prog_10_method_26_code 9 = .ok (.iload_n 2, 1) := by decide +kernel
theorem d_Mod_goesThrough_10 : decode prog_10_method_26_code 10 = .ok (.istore 6, 2) := by decide +kernel
theorem d_Mod_goesThrough_12 : decode prog_10_method_26_code 12 = .ok (.iload_n 0, 1) := by decide +kernel
theorem d_Mod_goesThrough_13 : decode prog_10_method_26_code 13 = .ok (.iload_n 2, 1) := by decide +kernel
theorem d_Mod_goesThrough_14 : decode prog_10_method_26_code 14 = .ok (.if_icmp .ge 7, 3) := by decide +kernel
theorem d_Mod_goesThrough_17 : decode prog_10_method_26_code 17 = .ok (.iload_n 2, 1) := by decide +kernel
theorem d_Mod_goesThrough_18 : decode prog_10_method_26_code 18 = .ok (.goto 4, 3) := by decide +kernel
theorem d_Mod_goesThrough_21 : decode prog_10_method_26_code 21 = .ok (.iload_n 0, 1) := by decide +kernel
theorem d_Mod_goesThrough_22 : decode prog_10_method_26_code 22 = .ok (.istore 7, 2) := by decide +kernel
theorem d_Mod_goesThrough_24 : decode prog_10_method_26_code 24 = .ok (.iload_n 1, 1) := by decide +kernel
theorem d_Mod_goesThrough_25 : decode prog_10_method_26_code 25 = .ok (.iload_n 3, 1) := by decide +kernel
theorem d_Mod_goesThrough_26 : decode prog_10_method_26_code 26 = .ok (.if_icmp .ge 7, 3) := by decide +kernel
theorem d_Mod_goesThrough_29 : decode prog_10_method_26_code 29 = .ok (.iload_n 1, 1) := by decide +kernel
theorem d_Mod_goesThrough_30 : decode prog_10_method_26_code 30 = .ok (.goto 4, 3) := by decide +kernel
theorem d_Mod_goesThrough_33 : decode prog_10_method_26_code 33 = .ok (.iload_n 3, 1) := by decide +kernel
theorem d_Mod_goesThrough_34 : decode prog_10_method_26_code 34 = .ok (.istore 8, 2) := by decide +kernel
theorem d_Mod_goesThrough_36 : decode prog_10_method_26_code 36 = .ok (.iload_n 1, 1) := by decide +kernel
theorem d_Mod_goesThrough_37 : decode prog_10_method_26_code 37 = .ok (.iload_n 3, 1) := by decide +kernel
theorem d_Mod_goesThrough_38 : decode prog_10_method_26_code 38 = .ok (.if_icmp .ge 7, 3) := by decide +kernel
theorem d_Mod_goesThrough_41 : decode prog_10_method_26_code 41 = .ok (.iload_n 3, 1) := by decide +kernel
theorem d_Mod_goesThrough_42 : decode prog_10_method_26_code 42 = .ok (.goto 4, 3) := by decide +kernel
theorem d_Mod_goesThrough_45 : decode prog_10_method_26_code 45 = .ok (.iload_n 1, 1) := by decide +kernel
theorem d_Mod_goesThrough_46 : decode prog_10_method_26_code 46 = .ok (.istore 9, 2) := by decide +kernel
theorem d_Mod_goesThrough_48 : decode prog_10_method_26_code 48 = .ok (.iload 7, 2) := by decide +kernel
theorem d_Mod_goesThrough_50 : decode prog_10_method_26_code 50 = .ok (.iconst 2, 1) := by decide +kernel
theorem d_Mod_goesThrough_51 : decode prog_10_method_26_code 51 = .ok (.iload 4, 2) := by decide +kernel
theorem d_Mod_goesThrough_53 : decode prog_10_method_26_code 53 = .ok (.imul, 1) := by decide +kernel
theorem d_Mod_goesThrough_54 : decode prog_10_method_26_code 54 = .ok (.if_icmp .le 34, 3) := by decide +kernel
theorem d_Mod_goesThrough_57 : decode prog_10_method_26_code 57 = .ok (.iload 6, 2) := by decide +kernel
theorem d_Mod_goesThrough_59 : decode prog_10_method_26_code 59 = .ok (.iconst 2, 1) := by decide +kernel
theorem d_Mod_goesThrough_60 : decode prog_10_method_26_code 60 = .ok (.iload 4, 2) := by decide +kernel
theorem d_Mod_goesThrough_62 : decode prog_10_method_26_code 62 = .ok (.imul, 1) := by decide +kernel
theorem d_Mod_goesThrough_63 : decode prog_10_method_26_code 63 = .ok (.iconst 2, 1) := by decide +kernel
theorem d_Mod_goesThrough_64 : decode prog_10_method_26_code 64 = .ok (.iadd, 1) := by decide +kernel
theorem d_Mod_goesThrough_65 : decode prog_10_method_26_code 65 = .ok (.if_icmp .ge 23, 3) := by decide +kernel
theorem d_Mod_goesThrough_68 : decode prog_10_method_26_code 68 = .ok (.iload 9, 2) := by decide +kernel
theorem d_Mod_goesThrough_70 : decode prog_10_method_26_code 70 = .ok (.iconst 2, 1) := by decide +kernel
theorem d_Mod_goesThrough_71 : decode prog_10_method_26_code 71 = .ok (.iload 5, 2) := by decide +kernel
theorem d_Mod_goesThrough_73 : decode prog_10_method_26_code 73 = .ok (.imul, 1) := by decide +kernel
theorem d_Mod_goesThrough_74 : decode prog_10_method_26_code 74 = .ok (.if_icmp .le 14, 3) := by decide +kernel
theorem d_Mod_goesThrough_77 : decode prog_10_method_26_code 77 = .ok (.iload 8, 2) := by decide +kernel
theorem d_Mod_goesThrough_79 : decode prog_10_method_26_code 79 = .ok (.iconst 2, 1) := by decide +kernel
theorem d_Mod_goesThrough_80 : decode prog_10_method_26_code 80 = .ok (.iload 5, 2) := by decide +kernel
theorem d_Mod_goesThrough_82 : decode prog_10_method_26_code 82 = .ok (.imul, 1) := by decide +kernel
theorem d_Mod_goesThrough_83 : decode prog_10_method_26_code 83 = .ok (.iconst 2, 1) := by decide +kernel
theorem d_Mod_goesThrough_84 : decode prog_10_method_26_code 84 = .ok (.iadd, 1) := by decide +kernel
theorem d_Mod_goesThrough_85 : decode prog_10_method_26_code 85 = .ok (.if_icmp .lt 5, 3) := by decide +kernel
theorem d_Mod_goesThrough_88 : decode prog_10_method_26_code 88 = .ok (.iconst 0, 1) := by decide +kernel
theorem d_Mod_goesThrough_89 : decode prog_10_method_26_code 89 = .ok (.ireturn, 1) := by decide +kernel
theorem d_Mod_goesThrough_90 : decode prog_10_method_26_code 90 = .ok (.iload_n 0, 1) := by decide +kernel
theorem d_Mod_goesThrough_91 : decode prog_10_method_26_code 91 = .ok (.iload_n 2, 1) := by decide +kernel
theorem d_Mod_goesThrough_92 : decode prog_10_method_26_code 92 = .ok (.if_icmp .ne 10, 3) := by decide +kernel
theorem d_Mod_goesThrough_95 : decode prog_10_method_26_code 95 = .ok (.iload_n 1, 1) := by decide +kernel
theorem d_Mod_goesThrough_96 : decode prog_10_method_26_code 96 = .ok (.iload_n 3, 1) := by decide +kernel
theorem d_Mod_goesThrough_97 : decode prog_10_method_26_code 97 = .ok (.if_icmp .ne 5, 3) := by decide +kernel
theorem d_Mod_goesThrough_100 : decode prog_10_method_26_code 100 = .ok (.iconst 1, 1) := by decide +kernel
theorem d_Mod_goesThrough_101 : decode prog_10_method_26_code 101 = .ok (.ireturn, 1) := by decide +kernel
theorem d_Mod_goesThrough_102 : decode prog_10_method_26_code 102 = .ok (.iconst 0, 1) := by decide +kernel
theorem d_Mod_goesThrough_103 : decode prog_10_method_26_code 103 = .ok (.istore 10, 2) := by decide +kernel
theorem d_Mod_goesThrough_105 : decode prog_10_method_26_code 105 = .ok (.iconst 0, 1) := by decide +kernel
theorem d_Mod_goesThrough_106 : decode prog_10_method_26_code 106 = .ok (.istore 11, 2) := by decide +kernel
theorem d_Mod_goesThrough_108 : decode prog_10_method_26_code 108 = .ok (.iconst 0, 1) := by decide +kernel
theorem d_Mod_goesThrough_109 : decode prog_10_method_26_code 109 = .ok (.istore 12, 2) := by decide +kernel
theorem d_Mod_goesThrough_111 : decode prog_10_method_26_code 111 = .ok (.iload 12, 2) := by decide +kernel
theorem d_Mod_goesThrough_113 : decode prog_10_method_26_code 113 = .ok (.iconst 4, 1) := by decide +kernel
theorem d_Mod_goesThrough_114 : decode prog_10_method_26_code 114 = .ok (.if_icmp .ge 80, 3) := by decide +kernel
theorem d_Mod_goesThrough_117 : decode prog_10_method_26_code 117 = .ok (.iload_n 2, 1) := by decide +kernel
theorem d_Mod_goesThrough_118 : decode prog_10_method_26_code 118 = .ok (.iload_n 0, 1) := by decide +kernel
theorem d_Mod_goesThrough_119 : decode prog_10_method_26_code 119 = .ok (.isub, 1) := by decide +kernel
theorem d_Mod_goesThrough_120 : decode prog_10_method_26_code 120 = .ok (.iload_n 3, 1) := by decide +kernel
theorem d_Mod_goesThrough_121 : decode prog_10_method_26_code 121 = .ok (.iload_n 1, 1) := by decide +kernel
theorem d_Mod_goesThrough_122 : decode prog_10_method_26_code 122 = .ok (.isub, 1) := by decide +kernel
theorem d_Mod_goesThrough_123 : decode prog_10_method_26_code 123 = .ok (.iconst 2, 1) := by decide +kernel
theorem d_Mod_goesThrough_124 : decode prog_10_method_26_code 124 = .ok (.iload 4, 2) := by decide +kernel
theorem d_Mod_goesThrough_126 : decode prog_10_method_26_code 126 = .ok (.imul, 1) := by decide +kernel
theorem d_Mod_goesThrough_127 : decode prog_10_method_26_code 127 = .ok (.iconst 2, 1) := by decide +kernel
theorem d_Mod_goesThrough_128 : decode prog_10_method_26_code 128 = .ok (.iload 12, 2) := by decide +kernel
theorem d_Mod_goesThrough_130 : decode prog_10_method_26_code 130 = .ok (.iconst 2, 1) := by decide +kernel
theorem d_Mod_goesThrough_131 : decode prog_10_method_26_code 131 = .ok (.irem, 1) := by decide +kernel
theorem d_Mod_goesThrough_132 : decode prog_10_method_26_code 132 = .ok (.imul, 1) := by decide +kernel
theorem d_Mod_goesThrough_133 : decode prog_10_method_26_code 133 = .ok (.iadd, 1) := by decide +kernel
theorem d_Mod_goesThrough_134 : decode prog_10_method_26_code 134 = .ok (.iload_n 0, 1) := by decide +kernel
theorem d_Mod_goesThrough_135 : decode prog_10_method_26_code 135 = .ok (.isub, 1) := by decide +kernel
theorem d_Mod_goesThrough_136 : decode prog_10_method_26_code 136 = .ok (.iconst 2, 1) := by decide +kernel
theorem d_Mod_goesThrough_137 : decode prog_10_method_26_code 137 = .ok (.iload 5, 2) := by decide +kernel
theorem d_Mod_goesThrough_139 : decode prog_10_method_26_code 139 = .ok (.imul, 1) := by decide +kernel
theorem d_Mod_goesThrough_140 : decode prog_10_method_26_code 140 = .ok (.iconst 2, 1) := by decide +kernel
theorem d_Mod_goesThrough_141 : decode prog_10_method_26_code 141 = .ok (.iload 12, 2) := by decide +kernel
theorem d_Mod_goesThrough_143 : decode prog_10_method_26_code 143 = .ok (.iconst 2, 1) := by decide +kernel
theorem d_Mod_goesThrough_144 : decode prog_10_method_26_code 144 = .ok (.idiv, 1) := by decide +kernel
theorem d_Mod_goesThrough_145 : decode prog_10_method_26_code 145 = .ok (.imul, 1) := by decide +kernel
theorem d_Mod_goesThrough_146 : decode prog_10_method_26_code 146 = .ok (.iadd, 1) := by decide +kernel
theorem d_Mod_goesThrough_147 : decode prog_10_method_26_code 147 = .ok (.iload_n 1, 1) := by decide +kernel
theorem d_Mod_goesThrough_148 : decode prog_10_method_26_code 148 = .ok (.isub, 1) := by decide +kernel
theorem d_Mod_goesThrough_149 : decode prog_10_method_26_code 149 = .ok (.invokestatic 134, 3) := by decide +kernel
theorem d_Mod_goesThrough_152 : decode prog_10_method_26_code 152 = .ok (.istore 13, 2) := by decide +kernel
theorem d_Mod_goesThrough_154 : decode prog_10_method_26_code 154 = .ok (.iload 10, 2) := by decide +kernel
theorem d_Mod_goesThrough_156 : decode prog_10_method_26_code 156 = .ok (.ifCond .ne 8, 3) := by decide +kernel
theorem d_Mod_goesThrough_159 : decode prog_10_method_26_code 159 = .ok (.iload 13, 2) := by decide +kernel
theorem d_Mod_goesThrough_161 : decode prog_10_method_26_code 161 = .ok (.ifCond .le 7, 3) := by decide +kernel
theorem d_Mod_goesThrough_164 : decode prog_10_method_26_code 164 = .ok (.iconst 1, 1) := by decide +kernel
theorem d_Mod_goesThrough_165 : decode prog_10_method_26_code 165 = .ok (.goto 4, 3) := by decide +kernel
theorem d_Mod_goesThrough_168 : decode prog_10_method_26_code 168 = .ok (.iconst 0, 1) := by decide +kernel
theorem d_Mod_goesThrough_169 : decode prog_10_method_26_code 169 = .ok (.istore 10, 2) := by decide +kernel
theorem d_Mod_goesThrough_171 : decode prog_10_method_26_code 171 = .ok (.iload 11, 2) := by decide +kernel
theorem d_Mod_goesThrough_173 : decode prog_10_method_26_code 173 = .ok (.ifCond .ne 8, 3) := by decide +kernel
theorem d_Mod_goesThrough_176 : decode prog_10_method_26_code 176 = .ok (.iload 13, 2) := by decide +kernel
theorem d_Mod_goesThrough_178 : decode prog_10_method_26_code 178 = .ok (.ifCond .ge 7, 3) := by decide +kernel
theorem d_Mod_goesThrough_181 : decode prog_10_method_26_code 181 = .ok (.iconst 1, 1) := by decide +kernel
theorem d_Mod_goesThrough_182 : decode prog_10_method_26_code 182 = .ok (.goto 4, 3) := by decide +kernel
theorem d_Mod_goesThrough_185 : decode prog_10_method_26_code 185 = .ok (.iconst 0, 1) := by decide +kernel
theorem d_Mod_goesThrough_186 : decode prog_10_method_26_code 186 = .ok (.istore 11, 2) := by decide +kernel
theorem d_Mod_goesThrough_188 : decode prog_10_method_26_code 188 = .ok (.iinc 12 1, 3) := by decide +kernel
theorem d_Mod_goesThrough_191 : decode prog_10_method_26_code 191 = .ok (.goto (-80), 3) := by decide +kernel
theorem d_Mod_goesThrough_194 : decode prog_10_method_26_code 194 = .ok (.iload 10, 2) := by decide +kernel
theorem d_Mod_goesThrough_196 : decode prog_10_method_26_code 196 = .ok (.ifCond .eq 12, 3) := by decide +kernel
theorem d_Mod_goesThrough_199 : decode prog_10_method_26_code 199 = .ok (.iload 11, 2) := by decide +kernel
theorem d_Mod_goesThrough_201 : decode prog_10_method_26_code 201 = .ok (.ifCond .eq 7, 3) := by decide +kernel
theorem d_Mod_goesThrough_204 : decode prog_10_method_26_code 204 = .ok (.iconst 1, 1) := by decide +kernel
theorem d_Mod_goesThrough_205 : decode prog_10_method_26_code 205 = .ok (.goto 4, 3) := by decide +kernel
theorem d_Mod_goesThrough_208 : decode prog_10_method_26_code 208 = .ok (.iconst 0, 1) := by decide +kernel
theorem d_Mod_goesThrough_209 : decode prog_10_method_26_code 209 = .ok (.ireturn, 1) := by decide +kernel
theorem d_Mod_cross_0 : decode prog_10_method_25_code 0 = .ok (.iload_n 0, 1) := by decide +kernel
theorem d_Mod_cross_1 : decode prog_10_method_25_code 1 = .ok (.iload_n 3, 1) := by decide +kernel
theorem d_Mod_cross_2 : decode prog_10_method_25_code 2 = .ok (.imul, 1) := by decide +kernel
theorem d_Mod_cross_3 : decode prog_10_method_25_code 3 = .ok (.iload_n 1, 1) := by decide +kernel
theorem d_Mod_cross_4 : decode prog_10_method_25_code 4 = .ok (.iload_n 2, 1) := by decide +kernel
theorem d_Mod_cross_5 : decode prog_10_method_25_code 5 = .ok (.imul, 1) := by decide +kernel
theorem d_Mod_cross_6 : decode prog_10_method_25_code 6 = .ok (.isub, 1) := by decide +kernel
theorem d_Mod_cross_7 : decode prog_10_method_25_code 7 = .ok (.ireturn, 1) := by decide +kernel
theorem d_Mod_measure_0 : decode prog_10_method_30_code 0 = .ok (.iconst 0, 1) := by decide +kernel
theorem d_Mod_measure_1 : decode prog_10_method_30_code 1 = .ok (.istore_n 1, 1) := by decide +kernel
theorem d_Mod_measure_2 : decode prog_10_method_30_code 2 = .ok (.iload_n 1, 1) := by decide +kernel
theorem d_Mod_measure_3 : decode prog_10_method_30_code 3 = .ok (.bipush 81, 2) := by decide +kernel
theorem d_Mod_measure_5 : decode prog_10_method_30_code 5 = .ok (.if_icmp .ge 18, 3) := by decide +kernel
theorem d_Mod_measure_8 : decode prog_10_method_30_code 8 = .ok (.aload_n 0, 1) := by decide +kernel
theorem d_Mod_measure_9 : decode prog_10_method_30_code 9 = .ok (.getfield 66, 3) := by decide +kernel
theorem d_Mod_measure_12 : decode prog_10_method_30_code 12 = .ok (.iload_n 1, 1) := by decide +kernel
theorem d_Mod_measure_13 : decode prog_10_method_30_code 13 = .ok (.sipush 1000, 3) := by decide +kernel
theorem d_Mod_measure_16 : decode prog_10_method_30_code 16 = .ok (.iastore, 1) := by decide +kernel
