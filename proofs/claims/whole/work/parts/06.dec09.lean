theorem d_Mod_exit_26 : decode prog_10_method_18_code 26 = .ok (.iconst 1, 1) := by decide +kernel
theorem d_Mod_exit_27 : decode prog_10_method_18_code 27 = .ok (.goto 4, 3) := by decide +kernel
theorem d_Mod_exit_30 : decode prog_10_method_18_code 30 = .ok (.iconst 0, 1) := by decide +kernel
theorem d_Mod_exit_31 : decode prog_10_method_18_code 31 = .ok (.iload_n 3, 1) := by decide +kernel
theorem d_Mod_exit_32 : decode prog_10_method_18_code 32 = .ok (.ifCond .ne 30, 3) := by decide +kernel
theorem d_Mod_exit_35 : decode prog_10_method_18_code 35 = .ok (.aload_n 0, 1) := by decide +kernel
theorem d_Mod_exit_36 : decode prog_10_method_18_code 36 = .ok (.getfield 7, 3) := by decide +kernel
theorem d_Mod_exit_39 : decode prog_10_method_18_code 39 = .ok (.bipush 9, 2) := by decide +kernel
theorem d_Mod_exit_41 : decode prog_10_method_18_code 41 = .ok (.iload_n 2, 1) := by decide +kernel
theorem d_Mod_exit_42 : decode prog_10_method_18_code 42 = .ok (.imul, 1) := by decide +kernel
theorem d_Mod_exit_43 : decode prog_10_method_18_code 43 = .ok (.iload_n 1, 1) := by decide +kernel
theorem d_Mod_exit_44 : decode prog_10_method_18_code 44 = .ok (.iadd, 1) := by decide +kernel
theorem d_Mod_exit_45 : decode prog_10_method_18_code 45 = .ok (.baload, 1) := by decide +kernel
theorem d_Mod_exit_46 : decode prog_10_method_18_code 46 = .ok (.ifCond .ne 12, 3) := by decide +kernel
theorem d_Mod_exit_49 : decode prog_10_method_18_code 49 = .ok (.aload_n 0, 1) := by decide +kernel
theorem d_Mod_exit_50 : decode prog_10_method_18_code 50 = .ok (.iload_n 1, 1) := by decide +kernel
theorem d_Mod_exit_51 : decode prog_10_method_18_code 51 = .ok (.iload_n 2, 1) := by decide +kernel
theorem d_Mod_exit_52 : decode prog_10_method_18_code 52 = .ok (.invokevirtual 110, 3) := by decide +kernel
theorem d_Mod_exit_55 : decode prog_10_method_18_code 55 = .ok (.ifCond .eq 7, 3) := by decide +kernel
theorem d_Mod_exit_58 : decode prog_10_method_18_code 58 = .ok (.iconst 1, 1) := by decide +kernel
theorem d_Mod_exit_59 : decode prog_10_method_18_code 59 = .ok (.goto 4, 3) := by decide +kernel
theorem d_Mod_exit_62 : decode prog_10_method_18_code 62 = .ok (.iconst 0, 1) := by decide +kernel
theorem d_Mod_exit_63 : decode prog_10_method_18_code 63 = .ok (.invokevirtual 106, 3) := by decide +kernel
theorem d_Mod_exit_66 : decode prog_10_method_18_code 66 = .ok (.ifCond .eq 5, 3) := by decide +kernel
theorem d_Mod_exit_69 : decode prog_10_method_18_code 69 = .ok (.iconst 0, 1) := by decide +kernel
theorem d_Mod_exit_70 : decode prog_10_method_18_code 70 = .ok (.ireturn, 1) := by decide +kernel
theorem d_Mod_exit_71 : decode prog_10_method_18_code 71 = .ok (.aload_n 0, 1) := by decide +kernel
theorem d_Mod_exit_72 : decode prog_10_method_18_code 72 = .ok (.getfield 41, 3) := by decide +kernel
theorem d_Mod_exit_75 : decode prog_10_method_18_code 75 = .ok (.aload_n 0, 1) := by decide +kernel
theorem d_Mod_exit_76 : decode prog_10_method_18_code 76 = .ok (.getfield 96, 3) := by decide +kernel
theorem d_Mod_exit_79 : decode prog_10_method_18_code 79 = .ok (.iload_n 1, 1) := by decide +kernel
theorem d_Mod_exit_80 : decode prog_10_method_18_code 80 = .ok (.iastore, 1) := by decide +kernel
theorem d_Mod_exit_81 : decode prog_10_method_18_code 81 = .ok (.aload_n 0, 1) := by decide +kernel
theorem d_Mod_exit_82 : decode prog_10_method_18_code 82 = .ok (.getfield 44, 3) := by decide +kernel
theorem d_Mod_exit_85 : decode prog_10_method_18_code 85 = .ok (.aload_n 0, 1) := by decide +kernel
theorem d_Mod_exit_86 : decode prog_10_method_18_code 86 = .ok (.getfield 96, 3) := by decide +kernel
theorem d_Mod_exit_89 : decode prog_10_method_18_code 89 = .ok (.iload_n 2, 1) := by decide +kernel
theorem d_Mod_exit_90 : decode prog_10_method_18_code 90 = .ok (.iastore, 1) := by decide +kernel
theorem d_Mod_exit_91 : decode prog_10_method_18_code 91 = .ok (.aload_n 0, 1) := by decide +kernel
theorem d_Mod_exit_92 : decode prog_10_method_18_code 92 = .ok (.dup, 1) := by decide +kernel
theorem d_Mod_exit_93 : decode prog_10_method_18_code 93 = .ok (.getfield 96, 3) := by decide +kernel
theorem d_Mod_exit_96 : decode prog_10_method_18_code 96 = .ok (.iconst 1, 1) := by decide +kernel
theorem d_Mod_exit_97 : decode prog_10_method_18_code 97 = .ok (.iadd, 1) := by decide +kernel
theorem d_Mod_exit_98 : decode prog_10_method_18_code 98 = .ok (.putfield 96, 3) := by decide +kernel
theorem d_Mod_exit_101 : decode prog_10_method_18_code 101 = .ok (.aload_n 0, 1) := by decide +kernel
theorem d_Mod_exit_102 : decode prog_10_method_18_code 102 = .ok (.invokevirtual 116, 3) := by decide +kernel
theorem d_Mod_exit_105 : decode prog_10_method_18_code 105 = .ok (.aload_n 0, 1) := by decide +kernel
theorem d_Mod_exit_106 : decode prog_10_method_18_code 106 = .ok (.getfield 96, 3) := by decide +kernel
theorem d_Mod_exit_109 : decode prog_10_method_18_code 109 = .ok (.ireturn, 1) := by decide +kernel
theorem d_Mod_forget_0 : decode prog_10_method_8_code 0 = .ok (.aload_n 0, 1) := by decide +kernel
theorem d_Mod_forget_1 : decode prog_10_method_8_code 1 = .ok (.iconst 0, 1) := by decide +kernel
theorem d_Mod_forget_2 : decode prog_10_method_8_code 2 = .ok (.putfield 89, 3) := by decide +kernel
theorem d_Mod_forget_5 : decode prog_10_method_8_code 5 = .ok (.aload_n 0, 1) := by decide +kernel
theorem d_Mod_forget_6 : decode prog_10_method_8_code 6 = .ok (.iconst 0, 1) := by decide +kernel
theorem d_Mod_forget_7 : decode prog_10_method_8_code 7 = .ok (.putfield 93, 3) := by decide +kernel
theorem d_Mod_forget_10 : decode prog_10_method_8_code 10 = .ok (.return_, 1) := by decide +kernel
theorem d_Mod_gap_0 : decode prog_10_method_21_code 0 = .ok (.aload_n 0, 1) := by decide +kernel
theorem d_Mod_gap_1 : decode prog_10_method_21_code 1 = .ok (.getfield 51, 3) := by decide +kernel
theorem d_Mod_gap_4 : decode prog_10_method_21_code 4 = .ok (.iload_n 1, 1) := by decide +kernel
theorem d_Mod_gap_5 : decode prog_10_method_21_code 5 = .ok (.iaload, 1) := by decide +kernel
theorem d_Mod_gap_6 : decode prog_10_method_21_code 6 = .ok (.aload_n 0, 1) := by decide +kernel
theorem d_Mod_gap_7 : decode prog_10_method_21_code 7 = .ok (.getfield 17, 3) := by decide +kernel
theorem d_Mod_gap_10 : decode prog_10_method_21_code 10 = .ok (.iload_n 1, 1) := by decide +kernel
theorem d_Mod_gap_11 : decode prog_10_method_21_code 11 = .ok (.iaload, 1) := by decide +kernel
theorem d_Mod_gap_12 : decode prog_10_method_21_code 12 = .ok (.aload_n 0, 1) := by decide +kernel
theorem d_Mod_gap_13 : decode prog_10_method_21_code 13 = .ok (.getfield 51, 3) := by decide +kernel
theorem d_Mod_gap_16 : decode prog_10_method_21_code 16 = .ok (.iload_n 2, 1) := by decide +kernel
theorem d_Mod_gap_17 : decode prog_10_method_21_code 17 = .ok (.iaload, 1) := by decide +kernel
theorem d_Mod_gap_18 : decode prog_10_method_21_code 18 = .ok (.aload_n 0, 1) := by decide +kernel
theorem d_Mod_gap_19 : decode prog_10_method_21_code 19 = .ok (.getfield 17, 3) := by decide +kernel
theorem d_Mod_gap_22 : decode prog_10_method_21_code 22 = .ok (.iload_n 2, 1) := by decide +kernel
theorem d_Mod_gap_23 : decode prog_10_method_21_code 23 = .ok (.iaload, 1) := by decide +kernel
theorem d_Mod_gap_24 : decode prog_10_method_21_code 24 = .ok (.invokestatic 123, 3) := by decide +kernel
theorem d_Mod_gap_27 : decode prog_10_method_21_code 27 = .ok (.istore_n 3, 1) := by decide +kernel
theorem d_Mod_gap_28 : decode prog_10_method_21_code 28 = .ok (.aload_n 0, 1) := by decide +kernel
theorem d_Mod_gap_29 : decode prog_10_method_21_code 29 = .ok (.getfield 54, 3) := by decide +kernel
theorem d_Mod_gap_32 : decode prog_10_method_21_code 32 = .ok (.iload_n 1, 1) := by decide +kernel
theorem d_Mod_gap_33 : decode prog_10_method_21_code 33 = .ok (.iaload, 1) := by decide +kernel
theorem d_Mod_gap_34 : decode prog_10_method_21_code 34 = .ok (.aload_n 0, 1) := by decide +kernel
theorem d_Mod_gap_35 : decode prog_10_method_21_code 35 = .ok (.getfield 20, 3) := by decide +kernel
theorem d_Mod_gap_38 : decode prog_10_method_21_code 38 = .ok (.iload_n 1, 1) := by decide +kernel
theorem d_Mod_gap_39 : decode prog_10_method_21_code 39 = .ok (.iaload, 1) := by decide +kernel
theorem d_Mod_gap_40 : decode prog_10_method_21_code 40 = .ok (.aload_n 0, 1) := by decide +kernel
theorem d_Mod_gap_41 : decode prog_10_method_21_code 41 = .ok (.getfield 54, 3) := by decide +kernel
theorem d_Mod_gap_44 : decode prog_10_method_21_code 44 = .ok (.iload_n 2, 1) := by decide +kernel
theorem d_Mod_gap_45 : decode prog_10_method_21_code 45 = .ok (.iaload, 1) := by decide +kernel
theorem d_Mod_gap_46 : decode prog_10_method_21_code 46 = .ok (.aload_n 0, 1) := by decide +kernel
theorem d_Mod_gap_47 : decode prog_10_method_21_code 47 = .ok (.getfield 20, 3) := by decide +kernel
theorem d_Mod_gap_50 : decode prog_10_method_21_code 50 = .ok (.iload_n 2, 1) := by decide +kernel
theorem d_Mod_gap_51 : decode prog_10_method_21_code 51 = .ok (.iaload, 1) := by decide +kernel
theorem d_Mod_gap_52 : decode prog_10_method_21_code 52 = .ok (.invokestatic 123, 3) := by decide +kernel
theorem d_Mod_gap_55 : decode prog_10_method_21_code 55 = .ok (.istore 4, 2) := by decide +kernel
theorem d_Mod_gap_57 : decode prog_10_method_21_code 57 = .ok (.iload_n 3, 1) := by decide +kernel
theorem d_Mod_gap_58 : decode prog_10_method_21_code 58 = .ok (.iload 4, 2) := by decide +kernel
theorem d_Mod_gap_60 : decode prog_10_method_21_code 60 = .ok (.if_icmp .le 7, 3) := by decide +kernel
theorem d_Mod_gap_63 : decode prog_10_method_21_code 63 = .ok (.iload_n 3, 1) := by decide +kernel
theorem d_Mod_gap_64 : decode prog_10_method_21_code 64 = .ok (.goto 5, 3) := by decide +kernel
theorem d_Mod_gap_67 : decode prog_10_method_21_code 67 = .ok (.iload 4, 2) := by decide +kernel
theorem d_Mod_gap_69 : decode prog_10_method_21_code 69 = .ok (.ireturn, 1) := by decide +kernel
theorem d_Mod_goesThrough_0 : decode prog_10_method_26_code 0 = .ok (.iload_n 0, 1) := by decide +kernel
theorem d_Mod_goesThrough_1 : decode prog_10_method_26_code 1 = .ok (.iload_n 2, 1) := by decide +kernel
theorem d_Mod_goesThrough_2 : decode prog_10_method_26_code 2 = .ok (.if_icmp .ge 7, 3) := by decide +kernel
theorem d_Mod_goesThrough_5 : decode prog_10_method_26_code 5 = .ok (.iload_n 0, 1) := by decide +kernel
theorem d_Mod_goesThrough_6 : decode prog_10_method_26_code 6 = .ok (.goto 4, 3) := by decide +kernel
theorem d_Mod_goesThrough_9 : decode prog_10_method_26_code 9 = .ok (.iload_n 2, 1) := by decide +kernel
theorem d_Mod_goesThrough_10 : decode prog_10_method_26_code 10 = .ok (.istore 6, 2) := by decide +kernel
theorem d_Mod_goesThrough_12 : decode prog_10_method_26_code 12 = .ok (.iload_n 0, 1) := by decide +kernel
theorem d_Mod_goesThrough_13 : decode prog_10_method_26_code 13 = .ok (.iload_n 2, 1) := by decide +kernel
theorem d_Mod_goesThrough_14 : decode prog_10_method_26_code 14 = .ok (.if_icmp .ge 7, 3) := by decide +kernel
theorem d_Mod_goesThrough_17 : decode prog_10_method_26_code 17 = .ok (.iload_n 2, 1) := by decide +kernel
theorem d_Mod_goesThrough_18 : decode prog_10_method_26_code 18 = .ok (.goto 4, 3) := by decide +kernel
theorem d_Mod_goesThrough_21 : decode prog_10_method_26_code 21 = .ok (.iload_n 0, 1) := by decide +kernel
theorem d_Mod_goesThrough_22 : decode prog_10_method_26_code 22 = .ok (.istore 7, 2) := by decide +kernel
theorem d_Mod_goesThrough_24 : decode prog_10_method_26_code 24 = .ok (.iload_n 1, 1) := by decide +kernel
theorem d_Mod_goesThrough_25 : decode prog_10_method_26_code 25 = .ok (.iload_n 3, 1) := by decide +kernel
theorem d_Mod_goesThrough_26 : decode prog_10_method_26_code 26 = .ok (.if_icmp .ge 7, 3) := by decide +kernel
theorem d_Mod_goesThrough_29 : decode prog_10_method_26_code 29 = .ok (.iload_n 1, 1) := by decide +kernel
theorem d_Mod_goesThrough_30 : decode prog_10_method_26_code 30 = .ok (.goto 4, 3) := by decide +kernel
theorem d_Mod_goesThrough_33 : decode prog_10_method_26_code 33 = .ok (.iload_n 3, 1) := by decide +kernel
theorem d_Mod_goesThrough_34 : decode prog_10_method_26_code 34 = .ok (.istore 8, 2) := by decide +kernel
theorem d_Mod_goesThrough_36 : decode prog_10_method_26_code 36 = .ok (.iload_n 1, 1) := by decide +kernel
theorem d_Mod_goesThrough_37 : decode prog_10_method_26_code 37 = .ok (.iload_n 3, 1) := by decide +kernel
theorem d_Mod_goesThrough_38 : decode prog_10_method_26_code 38 = .ok (.if_icmp .ge 7, 3) := by decide +kernel
theorem d_Mod_goesThrough_41 : decode prog_10_method_26_code 41 = .ok (.iload_n 3, 1) := by decide +kernel
theorem d_Mod_goesThrough_42 : decode prog_10_method_26_code 42 = .ok (.goto 4, 3) := by decide +kernel
theorem d_Mod_goesThrough_45 : decode prog_10_method_26_code 45 = .ok (.iload_n 1, 1) := by decide +kernel
theorem d_Mod_goesThrough_46 : decode prog_10_method_26_code 46 = .ok (.istore 9, 2) := by decide +kernel
theorem d_Mod_goesThrough_48 : decode prog_10_method_26_code 48 = .ok (.iload 7, 2) := by decide +kernel
theorem d_Mod_goesThrough_50 : decode prog_10_method_26_code 50 = .ok (.iconst 2, 1) := by decide +kernel
theorem d_Mod_goesThrough_51 : decode prog_10_method_26_code 51 = .ok (.iload 4, 2) := by decide +kernel
theorem d_Mod_goesThrough_53 : decode prog_10_method_26_code 53 = .ok (.imul, 1) := by decide +kernel
theorem d_Mod_goesThrough_54 : decode prog_10_method_26_code 54 = .ok (.if_icmp .le 34, 3) := by decide +kernel
theorem d_Mod_goesThrough_57 : decode prog_10_method_26_code 57 = .ok (.iload 6, 2) := by decide +kernel
theorem d_Mod_goesThrough_59 : decode prog_10_method_26_code 59 = .ok (.iconst 2, 1) := by decide +kernel
theorem d_Mod_goesThrough_60 : decode prog_10_method_26_code 60 = .ok (.iload 4, 2) := by decide +kernel
theorem d_Mod_goesThrough_62 : decode prog_10_method_26_code 62 = .ok (.imul, 1) := by decide +kernel
theorem d_Mod_goesThrough_63 : decode prog_10_method_26_code 63 = .ok (.iconst 2, 1) := by decide +kernel
theorem d_Mod_goesThrough_64 : decode prog_10_method_26_code 64 = .ok (.iadd, 1) := by decide +kernel
theorem d_Mod_goesThrough_65 : decode prog_10_method_26_code 65 = .ok (.if_icmp .ge 23, 3) := by decide +kernel
theorem d_Mod_goesThrough_68 : decode prog_10_method_26_code 68 = .ok (.iload 9, 2) := by decide +kernel
theorem d_Mod_goesThrough_70 : decode prog_10_method_26_code 70 = .ok (.iconst 2, 1) := by decide +kernel
theorem d_Mod_goesThrough_71 : decode prog_10_method_26_code 71 = .ok (.iload 5, 2) := by decide +kernel
theorem d_Mod_goesThrough_73 : decode prog_10_method_26_code 73 = .ok (.imul, 1) := by decide +kernel
theorem d_Mod_goesThrough_74 : decode prog_10_method_26_code 74 = .ok (.if_icmp .le 14, 3) := by decide +kernel
theorem d_Mod_goesThrough_77 : decode prog_10_method_26_code 77 = .ok (.iload 8, 2) := by decide +kernel
theorem d_Mod_goesThrough_79 : decode prog_10_method_26_code 79 = .ok (.iconst 2, 1) := by decide +kernel
theorem d_Mod_goesThrough_80 : decode prog_10_method_26_code 80 = .ok (.iload 5, 2) := by decide +kernel
theorem d_Mod_goesThrough_82 : decode prog_10_method_26_code 82 = .ok (.imul, 1) := by decide +kernel
theorem d_Mod_goesThrough_83 : decode prog_10_method_26_code 83 = .ok (.iconst 2, 1) := by decide +kernel
theorem d_Mod_goesThrough_84 : decode prog_10_method_26_code 84 = .ok (.iadd, 1) := by decide +kernel
theorem d_Mod_goesThrough_85 : decode prog_10_method_26_code 85 = .ok (.if_icmp .lt 5, 3) := by decide +kernel
theorem d_Mod_goesThrough_88 : decode prog_10_method_26_code 88 = .ok (.iconst 0, 1) := by decide +kernel
theorem d_Mod_goesThrough_89 : decode prog_10_method_26_code 89 = .ok (.ireturn, 1) := by decide +kernel
theorem d_Mod_goesThrough_90 : decode prog_10_method_26_code 90 = .ok (.iload_n 0, 1) := by decide +kernel
theorem d_Mod_goesThrough_91 : decode prog_10_method_26_code 91 = .ok (.iload_n 2, 1) := by decide +kernel
theorem d_Mod_goesThrough_92 : decode prog_10_method_26_code 92 = .ok (.if_icmp .ne 10, 3) := by decide +kernel
theorem d_Mod_goesThrough_95 : decode prog_10_method_26_code 95 = .ok (.iload_n 1, 1) := by decide +kernel
theorem d_Mod_goesThrough_96 : decode prog_10_method_26_code 96 = .ok (.iload_n 3, 1) := by decide +kernel
theorem d_Mod_goesThrough_97 : decode prog_10_method_26_code 97 = .ok (.if_icmp .ne 5, 3) := by decide +kernel
theorem d_Mod_goesThrough_100 : decode prog_10_method_26_code 100 = .ok (.iconst 1, 1) := by decide +kernel
theorem d_Mod_goesThrough_101 : decode prog_10_method_26_code 101 = .ok (.ireturn, 1) := by decide +kernel
theorem d_Mod_goesThrough_102 : decode prog_10_method_26_code 102 = .ok (.iconst 0, 1) := by decide +kernel
theorem d_Mod_goesThrough_103 : decode prog_10_method_26_code 103 = .ok (.istore 10, 2) := by decide +kernel
theorem d_Mod_goesThrough_105 : decode prog_10_method_26_code 105 = .ok (.iconst 0, 1) := by decide +kernel
theorem d_Mod_goesThrough_106 : decode prog_10_method_26_code 106 = .ok (.istore 11, 2) := by decide +kernel
theorem d_Mod_goesThrough_108 : decode prog_10_method_26_code 108 = .ok (.iconst 0, 1) := by decide +kernel
theorem d_Mod_goesThrough_109 : decode prog_10_method_26_code 109 = .ok (.istore 12, 2) := by decide +kernel
theorem d_Mod_goesThrough_111 : decode prog_10_method_26_code 111 = .ok (.iload 12, 2) := by decide +kernel
theorem d_Mod_goesThrough_113 : decode prog_10_method_26_code 113 = .ok (.iconst 4, 1) := by decide +kernel
theorem d_Mod_goesThrough_114 : decode prog_10_method_26_code 114 = .ok (.if_icmp .ge 80, 3) := by decide +kernel
theorem d_Mod_goesThrough_117 : decode prog_10_method_26_code 117 = .ok (.iload_n 2, 1) := by decide +kernel
theorem d_Mod_goesThrough_118 : decode prog_10_method_26_code 118 = .ok (.iload_n 0, 1) := by decide +kernel
theorem d_Mod_goesThrough_119 : decode prog_10_method_26_code 119 = .ok (.isub, 1) := by decide +kernel
theorem d_Mod_goesThrough_120 : decode prog_10_method_26_code 120 = .ok (.iload_n 3, 1) := by decide +kernel
theorem d_Mod_goesThrough_121 : decode prog_10_method_26_code 121 = .ok (.iload_n 1, 1) := by decide +kernel
theorem d_Mod_goesThrough_122 : decode prog_10_method_26_code 122 = .ok (.isub, 1) := by decide +kernel
theorem d_Mod_goesThrough_123 : decode prog_10_method_26_code 123 = .ok (.iconst 2, 1) := by decide +kernel
theorem d_Mod_goesThrough_124 : decode prog_10_method_26_code 124 = .ok (.iload 4, 2) := by decide +kernel
theorem d_Mod_goesThrough_126 : decode prog_10_method_26_code 126 = .ok (.imul, 1) := by decide +kernel
theorem d_Mod_goesThrough_127 : decode prog_10_method_26_code 127 = .ok (.iconst 2, 1) := by decide +kernel
theorem d_Mod_goesThrough_128 : decode prog_10_method_26_code 128 = .ok (.iload 12, 2) := by decide +kernel
theorem d_Mod_goesThrough_130 : decode prog_10_method_26_code 130 = .ok (.iconst 2, 1) := by decide +kernel
theorem d_Mod_goesThrough_131 : decode prog_10_method_26_code 131 = .ok (.irem, 1) := by decide +kernel
theorem d_Mod_goesThrough_132 : decode prog_10_method_26_code 132 = .ok (.imul, 1) := by decide +kernel
theorem d_Mod_goesThrough_133 : decode prog_10_method_26_code 133 = .ok (.iadd, 1) := by decide +kernel
theorem d_Mod_goesThrough_134 : decode prog_10_method_26_code 134 = .ok (.iload_n 0, 1) := by decide +kernel
theorem d_Mod_goesThrough_135 : decode prog_10_method_26_code 135 = .ok (.isub, 1) := by decide +kernel
theorem d_Mod_goesThrough_136 : decode prog_10_method_26_code 136 = .ok (.iconst 2, 1) := by decide +kernel
theorem d_Mod_goesThrough_137 : decode prog_10_method_26_code 137 = .ok (.iload 5, 2) := by decide +kernel
theorem d_Mod_goesThrough_139 : decode prog_10_method_26_code 139 = .ok (.imul, 1) := by decide +kernel
theorem d_Mod_goesThrough_140 : decode prog_10_method_26_code 140 = .ok (.iconst 2, 1) := by decide +kernel
theorem d_Mod_goesThrough_141 : decode prog_10_method_26_code 141 = .ok (.iload 12, 2) := by decide +kernel
theorem d_Mod_goesThrough_143 : decode prog_10_method_26_code 143 = .ok (.iconst 2, 1) := by decide +kernel
theorem d_Mod_goesThrough_144 : decode prog_10_method_26_code 144 = .ok (.idiv, 1) := by decide +kernel
theorem d_Mod_goesThrough_145 : decode prog_10_method_26_code 145 = .ok (.imul, 1) := by decide +kernel
theorem d_Mod_goesThrough_146 : decode prog_10_method_26_code 146 = .ok (.iadd, 1) := by decide +kernel
theorem d_Mod_goesThrough_147 : decode prog_10_method_26_code 147 = .ok (.iload_n 1, 1) := by decide +kernel
theorem d_Mod_goesThrough_148 : decode prog_10_method_26_code 148 = .ok (.isub, 1) := by decide +kernel
theorem d_Mod_goesThrough_149 : decode prog_10_method_26_code 149 = .ok (.invokestatic 134, 3) := by decide +kernel
theorem d_Mod_goesThrough_152 : decode prog_10_method_26_code 152 = .ok (.istore 13, 2) := by decide +kernel
theorem d_Mod_goesThrough_154 : decode prog_10_method_26_code 154 = .ok (.iload 10, 2) := by decide +kernel
theorem d_Mod_goesThrough_156 : decode prog_10_method_26_code 156 = .ok (.ifCond .ne 8, 3) := by decide +kernel
theorem d_Mod_goesThrough_159 : decode prog_10_method_26_code 159 = .ok (.iload 13, 2) := by decide +kernel
theorem d_Mod_goesThrough_161 : decode prog_10_method_26_code 161 = .ok (.ifCond .le 7, 3) := by decide +kernel
theorem d_Mod_goesThrough_164 : decode prog_10_method_26_code 164 = .ok (.iconst 1, 1) := by decide +kernel
theorem d_Mod_goesThrough_165 : decode prog_10_method_26_code 165 = .ok (.goto 4, 3) := by decide +kernel
theorem d_Mod_goesThrough_168 : decode prog_10_method_26_code 168 = .ok (.iconst 0, 1) := by decide +kernel
theorem d_Mod_goesThrough_169 : decode prog_10_method_26_code 169 = .ok (.istore 10, 2) := by decide +kernel
theorem d_Mod_goesThrough_171 : decode prog_10_method_26_code 171 = .ok (.iload 11, 2) := by decide +kernel
theorem d_Mod_goesThrough_173 : decode prog_10_method_26_code 173 = .ok (.ifCond .ne 8, 3) := by decide +kernel
theorem d_Mod_goesThrough_176 : decode prog_10_method_26_code 176 = .ok (.iload 13, 2) := by decide +kernel
theorem d_Mod_goesThrough_178 : decode prog_10_method_26_code 178 = .ok (.ifCond .ge 7, 3) := by decide +kernel
theorem d_Mod_goesThrough_181 : decode prog_10_method_26_code 181 = .ok (.iconst 1, 1) := by decide +kernel
theorem d_Mod_goesThrough_182 : decode prog_10_method_26_code 182 = .ok (.goto 4, 3) := by decide +kernel
theorem d_Mod_goesThrough_185 : decode prog_10_method_26_code 185 = .ok (.iconst 0, 1) := by decide +kernel
theorem d_Mod_goesThrough_186 : decode prog_10_method_26_code 186 = .ok (.istore 11, 2) := by decide +kernel
theorem d_Mod_goesThrough_188 : decode prog_10_method_26_code 188 = .ok (.iinc 12 1, 3) := by decide +kernel
theorem d_Mod_goesThrough_191 : decode prog_10_method_26_code 191 = .ok (.goto (-80), 3) := by decide +kernel
theorem d_Mod_goesThrough_194 : decode prog_10_method_26_code 194 = .ok (.iload 10, 2) := by decide +kernel
theorem d_Mod_goesThrough_196 : decode prog_10_method_26_code 196 = .ok (.ifCond .eq 12, 3) := by decide +kernel
theorem d_Mod_goesThrough_199 : decode prog_10_method_26_code 199 = .ok (.iload 11, 2) := by decide +kernel
theorem d_Mod_goesThrough_201 : decode prog_10_method_26_code 201 = .ok (.ifCond .eq 7, 3) := by decide +kernel
theorem d_Mod_goesThrough_204 : decode prog_10_method_26_code 204 = .ok (.iconst 1, 1) := by decide +kernel
theorem d_Mod_goesThrough_205 : decode prog_10_method_26_code 205 = .ok (.goto 4, 3) := by decide +kernel
theorem d_Mod_goesThrough_208 : decode prog_10_method_26_code 208 = .ok (.iconst 0, 1) := by decide +kernel
theorem d_Mod_goesThrough_209 : decode prog_10_method_26_code 209 = .ok (.ireturn, 1) := by decide +kernel
theorem d_Mod_held_0 : decode prog_10_method_2_code 0 = .ok (.iload_n 0, 1) := by decide +kernel
theorem d_Mod_held_1 : decode prog_10_method_2_code 1 = .ok (.iconst 1, 1) := by decide +kernel
theorem d_Mod_held_2 : decode prog_10_method_2_code 2 = .ok (.if_icmp .ge 7, 3) := by decide +kernel
theorem d_Mod_held_5 : decode prog_10_method_2_code 5 = .ok (.iconst 1, 1) := by decide +kernel
theorem d_Mod_held_6 : decode prog_10_method_2_code 6 = .ok (.goto 15, 3) := by decide +kernel
theorem d_Mod_held_9 : decode prog_10_method_2_code 9 = .ok (.iload_n 0, 1) := by decide +kernel
theorem d_Mod_held_10 : decode prog_10_method_2_code 10 = .ok (.bipush 9, 2) := by decide +kernel
theorem d_Mod_held_12 : decode prog_10_method_2_code 12 = .ok (.if_icmp .le 8, 3) := by decide +kernel
theorem d_Mod_held_15 : decode prog_10_method_2_code 15 = .ok (.bipush 9, 2) := by decide +kernel
theorem d_Mod_held_17 : decode prog_10_method_2_code 17 = .ok (.goto 4, 3) := by decide +kernel
theorem d_Mod_held_20 : decode prog_10_method_2_code 20 = .ok (.iload_n 0, 1) := by decide +kernel
theorem d_Mod_held_21 : decode prog_10_method_2_code 21 = .ok (.ireturn, 1) := by decide +kernel
theorem d_Mod_in_0 : decode prog_10_method_5_code 0 = .ok (.iload_n 0, 1) := by decide +kernel
theorem d_Mod_in_1 : decode prog_10_method_5_code 1 = .ok (.iload_n 1, 1) := by decide +kernel
theorem d_Mod_in_2 : decode prog_10_method_5_code 2 = .ok (.if_icmp .lt 12, 3) := by decide +kernel
theorem d_Mod_in_5 : decode prog_10_method_5_code 5 = .ok (.iload_n 0, 1) := by decide +kernel
theorem d_Mod_in_6 : decode prog_10_method_5_code 6 = .ok (.iload_n 2, 1) := by decide +kernel
theorem d_Mod_in_7 : decode prog_10_method_5_code 7 = .ok (.if_icmp .gt 7, 3) := by decide +kernel
theorem d_Mod_in_10 : decode prog_10_method_5_code 10 = .ok (.iconst 1, 1) := by decide +kernel
theorem d_Mod_in_11 : decode prog_10_method_5_code 11 = .ok (.goto 4, 3) := by decide +kernel
theorem d_Mod_in_14 : decode prog_10_method_5_code 14 = .ok (.iconst 0, 1) := by decide +kernel
theorem d_Mod_in_15 : decode prog_10_method_5_code 15 = .ok (.ireturn, 1) := by decide +kernel
theorem d_Mod_isCell_0 : decode prog_10_method_6_code 0 = .ok (.iload_n 1, 1) := by decide +kernel
theorem d_Mod_isCell_1 : decode prog_10_method_6_code 1 = .ok (.iconst 0, 1) := by decide +kernel
theorem d_Mod_isCell_2 : decode prog_10_method_6_code 2 = .ok (.aload_n 0, 1) := by decide +kernel
theorem d_Mod_isCell_3 : decode prog_10_method_6_code 3 = .ok (.getfield 73, 3) := by decide +kernel
theorem d_Mod_isCell_6 : decode prog_10_method_6_code 6 = .ok (.iconst 1, 1) := by decide +kernel
theorem d_Mod_isCell_7 : decode prog_10_method_6_code 7 = .ok (.isub, 1) := by decide +kernel
theorem d_Mod_isCell_8 : decode prog_10_method_6_code 8 = .ok (.invokestatic 82, 3) := by decide +kernel
theorem d_Mod_isCell_11 : decode prog_10_method_6_code 11 = .ok (.ifCond .eq 21, 3) := by decide +kernel
theorem d_Mod_isCell_14 : decode prog_10_method_6_code 14 = .ok (.iload_n 2, 1) := by decide +kernel
theorem d_Mod_isCell_15 : decode prog_10_method_6_code 15 = .ok (.iconst 0, 1) := by decide +kernel
theorem d_Mod_isCell_16 : decode prog_10_method_6_code 16 = .ok (.aload_n 0, 1) := by decide +kernel
theorem d_Mod_isCell_17 : decode prog_10_method_6_code 17 = .ok (.getfield 76, 3) := by decide +kernel
theorem d_Mod_isCell_20 : decode prog_10_method_6_code 20 = .ok (.iconst 1, 1) := by decide +kernel
theorem d_Mod_isCell_21 : decode prog_10_method_6_code 21 = .ok (.isub, 1) := by decide +kernel
theorem d_Mod_isCell_22 : decode prog_10_method_6_code 22 = .ok (.invokestatic 82, 3) := by decide +kernel
theorem d_Mod_isCell_25 : decode prog_10_method_6_code 25 = .ok (.ifCond .eq 7, 3) := by decide +kernel
theorem d_Mod_isCell_28 : decode prog_10_method_6_code 28 = .ok (.iconst 1, 1) := by decide +kernel
theorem d_Mod_isCell_29 : decode prog_10_method_6_code 29 = .ok (.goto 4, 3) := by decide +kernel
theorem d_Mod_isCell_32 : decode prog_10_method_6_code 32 = .ok (.iconst 0, 1) := by decide +kernel
theorem d_Mod_isCell_33 : decode prog_10_method_6_code 33 = .ok (.ireturn, 1) := by decide +kernel
theorem d_Mod_isExit_0 : decode prog_10_method_9_code 0 = .ok (.iconst 0, 1) := by decide +kernel
theorem d_Mod_isExit_1 : decode prog_10_method_9_code 1 = .ok (.istore_n 3, 1) := by decide +kernel
theorem d_Mod_isExit_2 : decode prog_10_method_9_code 2 = .ok (.iconst 0, 1) := by decide +kernel
theorem d_Mod_isExit_3 : decode prog_10_method_9_code 3 = .ok (.istore 4, 2) := by decide +kernel
theorem d_Mod_isExit_5 : decode prog_10_method_9_code 5 = .ok (.iload 4, 2) := by decide +kernel
theorem d_Mod_isExit_7 : decode prog_10_method_9_code 7 = .ok (.aload_n 0, 1) := by decide +kernel
theorem d_Mod_isExit_8 : decode prog_10_method_9_code 8 = .ok (.getfield 96, 3) := by decide +kernel
theorem d_Mod_isExit_11 : decode prog_10_method_9_code 11 = .ok (.if_icmp .ge 41, 3) := by decide +kernel
theorem d_Mod_isExit_14 : decode prog_10_method_9_code 14 = .ok (.iload_n 3, 1) := by decide +kernel
theorem d_Mod_isExit_15 : decode prog_10_method_9_code 15 = .ok (.ifCond .ne 25, 3) := by decide +kernel
theorem d_Mod_isExit_18 : decode prog_10_method_9_code 18 = .ok (.aload_n 0, 1) := by decide +kernel
theorem d_Mod_isExit_19 : decode prog_10_method_9_code 19 = .ok (.getfield 41, 3) := by decide +kernel
theorem d_Mod_isExit_22 : decode prog_10_method_9_code 22 = .ok (.iload 4, 2) := by decide +kernel
theorem d_Mod_isExit_24 : decode prog_10_method_9_code 24 = .ok (.iaload, 1) := by decide +kernel
theorem d_Mod_isExit_25 : decode prog_10_method_9_code 25 = .ok (.iload_n 1, 1) := by decide +kernel
theorem d_Mod_isExit_26 : decode prog_10_method_9_code 26 = .ok (.if_icmp .ne 18, 3) := by decide +kernel
theorem d_Mod_isExit_29 : decode prog_10_method_9_code 29 = .ok (.aload_n 0, 1) := by decide +kernel
theorem d_Mod_isExit_30 : decode prog_10_method_9_code 30 = .ok (.getfield 44, 3) := by decide +kernel
theorem d_Mod_isExit_33 : decode prog_10_method_9_code 33 = .ok (.iload 4, 2) := by decide +kernel
theorem d_Mod_isExit_35 : decode prog_10_method_9_code 35 = .ok (.iaload, 1) := by decide +kernel
theorem d_Mod_isExit_36 : decode prog_10_method_9_code 36 = .ok (.iload_n 2, 1) := by decide +kernel
theorem d_Mod_isExit_37 : decode prog_10_method_9_code 37 = .ok (.if_icmp .ne 7, 3) := by decide +kernel
theorem d_Mod_isExit_40 : decode prog_10_method_9_code 40 = .ok (.iconst 1, 1) := by decide +kernel
theorem d_Mod_isExit_41 : decode prog_10_method_9_code 41 = .ok (.goto 4, 3) := by decide +kernel
theorem d_Mod_isExit_44 : decode prog_10_method_9_code 44 = .ok (.iconst 0, 1) := by decide +kernel
theorem d_Mod_isExit_45 : decode prog_10_method_9_code 45 = .ok (.istore_n 3, 1) := by decide +kernel
theorem d_Mod_isExit_46 : decode prog_10_method_9_code 46 = .ok (.iinc 4 1, 3) := by decide +kernel
theorem d_Mod_isExit_49 : decode prog_10_method_9_code 49 = .ok (.goto (-44), 3) := by decide +kernel
theorem d_Mod_isExit_52 : decode prog_10_method_9_code 52 = .ok (.iload_n 3, 1) := by decide +kernel
theorem d_Mod_isExit_53 : decode prog_10_method_9_code 53 = .ok (.ireturn, 1) := by decide +kernel
theorem d_Mod_isFree_0 : decode prog_10_method_28_code 0 = .ok (.aload_n 0, 1) := by decide +kernel
theorem d_Mod_isFree_1 : decode prog_10_method_28_code 1 = .ok (.iload_n 1, 1) := by decide +kernel
theorem d_Mod_isFree_2 : decode prog_10_method_28_code 2 = .ok (.iload_n 2, 1) := by decide +kernel
theorem d_Mod_isFree_3 : decode prog_10_method_28_code 3 = .ok (.invokevirtual 102, 3) := by decide +kernel
theorem d_Mod_isFree_6 : decode prog_10_method_28_code 6 = .ok (.ifCond .eq 21, 3) := by decide +kernel
theorem d_Mod_isFree_9 : decode prog_10_method_28_code 9 = .ok (.aload_n 0, 1) := by decide +kernel
theorem d_Mod_isFree_10 : decode prog_10_method_28_code 10 = .ok (.getfield 7, 3) := by decide +kernel
theorem d_Mod_isFree_13 : decode prog_10_method_28_code 13 = .ok (.bipush 9, 2) := by decide +kernel
theorem d_Mod_isFree_15 : decode prog_10_method_28_code 15 = .ok (.iload_n 2, 1) := by decide +kernel
theorem d_Mod_isFree_16 : decode prog_10_method_28_code 16 = .ok (.imul, 1) := by decide +kernel
theorem d_Mod_isFree_17 : decode prog_10_method_28_code 17 = .ok (.iload_n 1, 1) := by decide +kernel
theorem d_Mod_isFree_18 : decode prog_10_method_28_code 18 = .ok (.iadd, 1) := by decide +kernel
theorem d_Mod_isFree_19 : decode prog_10_method_28_code 19 = .ok (.baload, 1) := by decide +kernel
theorem d_Mod_isFree_20 : decode prog_10_method_28_code 20 = .ok (.ifCond .ne 7, 3) := by decide +kernel
theorem d_Mod_isFree_23 : decode prog_10_method_28_code 23 = .ok (.iconst 1, 1) := by decide +kernel
theorem d_Mod_isFree_24 : decode prog_10_method_28_code 24 = .ok (.goto 4, 3) := by decide +kernel
theorem d_Mod_isFree_27 : decode prog_10_method_28_code 27 = .ok (.iconst 0, 1) := by decide +kernel
theorem d_Mod_isFree_28 : decode prog_10_method_28_code 28 = .ok (.istore_n 3, 1) := by decide +kernel
theorem d_Mod_isFree_29 : decode prog_10_method_28_code 29 = .ok (.iconst 0, 1) := by decide +kernel
theorem d_Mod_isFree_30 : decode prog_10_method_28_code 30 = .ok (.istore 4, 2) := by decide +kernel
theorem d_Mod_isFree_32 : decode prog_10_method_28_code 32 = .ok (.iload 4, 2) := by decide +kernel
theorem d_Mod_isFree_34 : decode prog_10_method_28_code 34 = .ok (.aload_n 0, 1) := by decide +kernel
theorem d_Mod_isFree_35 : decode prog_10_method_28_code 35 = .ok (.getfield 86, 3) := by decide +kernel
theorem d_Mod_isFree_38 : decode prog_10_method_28_code 38 = .ok (.if_icmp .ge 30, 3) := by decide +kernel
theorem d_Mod_isFree_41 : decode prog_10_method_28_code 41 = .ok (.iload_n 3, 1) := by decide +kernel
theorem d_Mod_isFree_42 : decode prog_10_method_28_code 42 = .ok (.ifCond .eq 18, 3) := by decide +kernel
theorem d_Mod_isFree_45 : decode prog_10_method_28_code 45 = .ok (.aload_n 0, 1) := by decide +kernel
theorem d_Mod_isFree_46 : decode prog_10_method_28_code 46 = .ok (.iload 4, 2) := by decide +kernel
theorem d_Mod_isFree_48 : decode prog_10_method_28_code 48 = .ok (.iload_n 1, 1) := by decide +kernel
theorem d_Mod_isFree_49 : decode prog_10_method_28_code 49 = .ok (.iload_n 2, 1) := by decide +kernel
theorem d_Mod_isFree_50 : decode prog_10_method_28_code 50 = .ok (.invokevirtual 137, 3) := by decide +kernel
theorem d_Mod_isFree_53 : decode prog_10_method_28_code 53 = .ok (.ifCond .ne 7, 3) := by decide +kernel
theorem d_Mod_isFree_56 : decode prog_10_method_28_code 56 = .ok (.iconst 1, 1) := by decide +kernel
theorem d_Mod_isFree_57 : decode prog_10_method_28_code 57 = .ok (.goto 4, 3) := by decide +kernel
theorem d_Mod_isFree_60 : decode prog_10_method_28_code 60 = .ok (.iconst 0, 1) := by decide +kernel
theorem d_Mod_isFree_61 : decode prog_10_method_28_code 61 = .ok (.istore_n 3, 1) := by decide +kernel
theorem d_Mod_isFree_62 : decode prog_10_method_28_code 62 = .ok (.iinc 4 1, 3) := by decide +kernel
theorem d_Mod_isFree_65 : decode prog_10_method_28_code 65 = .ok (.goto (-33), 3) := by decide +kernel
theorem d_Mod_isFree_68 : decode prog_10_method_28_code 68 = .ok (.iload_n 3, 1) := by decide +kernel
theorem d_Mod_isFree_69 : decode prog_10_method_28_code 69 = .ok (.ireturn, 1) := by decide +kernel
theorem d_Mod_isLayout_0 : decode prog_10_method_32_code 0 = .ok (.iconst 1, 1) := by decide +kernel
theorem d_Mod_isLayout_1 : decode prog_10_method_32_code 1 = .ok (.istore_n 1, 1) := by decide +kernel
theorem d_Mod_isLayout_2 : decode prog_10_method_32_code 2 = .ok (.iconst 0, 1) := by decide +kernel
theorem d_Mod_isLayout_3 : decode prog_10_method_32_code 3 = .ok (.istore_n 2, 1) := by decide +kernel
theorem d_Mod_isLayout_4 : decode prog_10_method_32_code 4 = .ok (.iload_n 2, 1) := by decide +kernel
theorem d_Mod_isLayout_5 : decode prog_10_method_32_code 5 = .ok (.bipush 7, 2) := by decide +kernel
theorem d_Mod_isLayout_7 : decode prog_10_method_32_code 7 = .ok (.aload_n 0, 1) := by decide +kernel
theorem d_Mod_isLayout_8 : decode prog_10_method_32_code 8 = .ok (.getfield 99, 3) := by decide +kernel
theorem d_Mod_isLayout_11 : decode prog_10_method_32_code 11 = .ok (.imul, 1) := by decide +kernel
theorem d_Mod_isLayout_12 : decode prog_10_method_32_code 12 = .ok (.if_icmp .ge 43, 3) := by decide +kernel
theorem d_Mod_isLayout_15 : decode prog_10_method_32_code 15 = .ok (.iload_n 1, 1) := by decide +kernel
theorem d_Mod_isLayout_16 : decode prog_10_method_32_code 16 = .ok (.ifCond .eq 39, 3) := by decide +kernel
theorem d_Mod_isLayout_19 : decode prog_10_method_32_code 19 = .ok (.aload_n 0, 1) := by decide +kernel
theorem d_Mod_isLayout_20 : decode prog_10_method_32_code 20 = .ok (.getfield 38, 3) := by decide +kernel
theorem d_Mod_isLayout_23 : decode prog_10_method_32_code 23 = .ok (.iload_n 2, 1) := by decide +kernel
theorem d_Mod_isLayout_24 : decode prog_10_method_32_code 24 = .ok (.baload, 1) := by decide +kernel
theorem d_Mod_isLayout_25 : decode prog_10_method_32_code 25 = .ok (.ifCond .eq 18, 3) := by decide +kernel
theorem d_Mod_isLayout_28 : decode prog_10_method_32_code 28 = .ok (.aload_n 0, 1) := by decide +kernel
theorem d_Mod_isLayout_29 : decode prog_10_method_32_code 29 = .ok (.iload_n 2, 1) := by decide +kernel
theorem d_Mod_isLayout_30 : decode prog_10_method_32_code 30 = .ok (.bipush 7, 2) := by decide +kernel
theorem d_Mod_isLayout_32 : decode prog_10_method_32_code 32 = .ok (.idiv, 1) := by decide +kernel
theorem d_Mod_isLayout_33 : decode prog_10_method_32_code 33 = .ok (.iload_n 2, 1) := by decide +kernel
theorem d_Mod_isLayout_34 : decode prog_10_method_32_code 34 = .ok (.bipush 7, 2) := by decide +kernel
theorem d_Mod_isLayout_36 : decode prog_10_method_32_code 36 = .ok (.irem, 1) := by decide +kernel
theorem d_Mod_isLayout_37 : decode prog_10_method_32_code 37 = .ok (.invokevirtual 150, 3) := by decide +kernel
theorem d_Mod_isLayout_40 : decode prog_10_method_32_code 40 = .ok (.ifCond .eq 7, 3) := by decide +kernel
theorem d_Mod_isLayout_43 : decode prog_10_method_32_code 43 = .ok (.iconst 1, 1) := by decide +kernel
theorem d_Mod_isLayout_44 : decode prog_10_method_32_code 44 = .ok (.goto 4, 3) := by decide +kernel
theorem d_Mod_isLayout_47 : decode prog_10_method_32_code 47 = .ok (.iconst 0, 1) := by decide +kernel
theorem d_Mod_isLayout_48 : decode prog_10_method_32_code 48 = .ok (.istore_n 1, 1) := by decide +kernel
theorem d_Mod_isLayout_49 : decode prog_10_method_32_code 49 = .ok (.iinc 2 1, 3) := by decide +kernel
theorem d_Mod_isLayout_52 : decode prog_10_method_32_code 52 = .ok (.goto (-48), 3) := by decide +kernel
theorem d_Mod_isLayout_55 : decode prog_10_method_32_code 55 = .ok (.iload_n 1, 1) := by decide +kernel
theorem d_Mod_isLayout_56 : decode prog_10_method_32_code 56 = .ok (.ifCond .eq 10, 3) := by decide +kernel
theorem d_Mod_isLayout_59 : decode prog_10_method_32_code 59 = .ok (.aload_n 0, 1) := by decide +kernel
theorem d_Mod_isLayout_60 : decode prog_10_method_32_code 60 = .ok (.getfield 96, 3) := by decide +kernel
theorem d_Mod_isLayout_63 : decode prog_10_method_32_code 63 = .ok (.ifCond .ne 5, 3) := by decide +kernel
theorem d_Mod_isLayout_66 : decode prog_10_method_32_code 66 = .ok (.iload_n 1, 1) := by decide +kernel
theorem d_Mod_isLayout_67 : decode prog_10_method_32_code 67 = .ok (.ireturn, 1) := by decide +kernel
theorem d_Mod_isLayout_68 : decode prog_10_method_32_code 68 = .ok (.aload_n 0, 1) := by decide +kernel
theorem d_Mod_isLayout_69 : decode prog_10_method_32_code 69 = .ok (.invokevirtual 153, 3) := by decide +kernel
theorem d_Mod_isLayout_72 : decode prog_10_method_32_code 72 = .ok (.iconst 0, 1) := by decide +kernel
theorem d_Mod_isLayout_73 : decode prog_10_method_32_code 73 = .ok (.istore_n 2, 1) := by decide +kernel
theorem d_Mod_isLayout_74 : decode prog_10_method_32_code 74 = .ok (.iload_n 2, 1) := by decide +kernel
theorem d_Mod_isLayout_75 : decode prog_10_method_32_code 75 = .ok (.aload_n 0, 1) := by decide +kernel
theorem d_Mod_isLayout_76 : decode prog_10_method_32_code 76 = .ok (.getfield 86, 3) := by decide +kernel
theorem d_Mod_isLayout_79 : decode prog_10_method_32_code 79 = .ok (.if_icmp .ge 27, 3) := by decide +kernel
theorem d_Mod_isLayout_82 : decode prog_10_method_32_code 82 = .ok (.iload_n 1, 1) := by decide +kernel
theorem d_Mod_isLayout_83 : decode prog_10_method_32_code 83 = .ok (.ifCond .eq 15, 3) := by decide +kernel
theorem d_Mod_isLayout_86 : decode prog_10_method_32_code 86 = .ok (.aload_n 0, 1) := by decide +kernel
theorem d_Mod_isLayout_87 : decode prog_10_method_32_code 87 = .ok (.iload_n 2, 1) := by decide +kernel
theorem d_Mod_isLayout_88 : decode prog_10_method_32_code 88 = .ok (.invokevirtual 156, 3) := by decide +kernel
theorem d_Mod_isLayout_91 : decode prog_10_method_32_code 91 = .ok (.ifCond .eq 7, 3) := by decide +kernel
theorem d_Mod_isLayout_94 : decode prog_10_method_32_code 94 = .ok (.iconst 1, 1) := by decide +kernel
theorem d_Mod_isLayout_95 : decode prog_10_method_32_code 95 = .ok (.goto 4, 3) := by decide +kernel
theorem d_Mod_isLayout_98 : decode prog_10_method_32_code 98 = .ok (.iconst 0, 1) := by decide +kernel
theorem d_Mod_isLayout_99 : decode prog_10_method_32_code 99 = .ok (.istore_n 1, 1) := by decide +kernel
theorem d_Mod_isLayout_100 : decode prog_10_method_32_code 100 = .ok (.iinc 2 1, 3) := by decide +kernel
theorem d_Mod_isLayout_103 : decode prog_10_method_32_code 103 = .ok (.goto (-29), 3) := by decide +kernel
theorem d_Mod_isLayout_106 : decode prog_10_method_32_code 106 = .ok (.iload_n 1, 1) := by decide +kernel
theorem d_Mod_isLayout_107 : decode prog_10_method_32_code 107 = .ok (.ireturn, 1) := by decide +kernel
theorem d_Mod_isPlace_0 : decode prog_10_method_10_code 0 = .ok (.iconst 0, 1) := by decide +kernel
