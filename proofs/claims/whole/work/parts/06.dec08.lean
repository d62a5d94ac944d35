theorem d_Mod_init_97 : decode prog_10_method_1_code 97 = .ok (.putfield 44, 3) := by decide +kernel
theorem d_Mod_init_100 : decode prog_10_method_1_code 100 = .ok (.aload_n 0, 1) := by decide +kernel
theorem d_Mod_init_101 : decode prog_10_method_1_code 101 = .ok (.bipush 99, 2) := by decide +kernel
theorem d_Mod_init_103 : decode prog_10_method_1_code 103 = .ok (.putfield 47, 3) := by decide +kernel
theorem d_Mod_init_106 : decode prog_10_method_1_code 106 = .ok (.aload_n 0, 1) := by decide +kernel
theorem d_Mod_init_107 : decode prog_10_method_1_code 107 = .ok (.bipush 7, 2) := by decide +kernel
theorem d_Mod_init_109 : decode prog_10_method_1_code 109 = .ok (.newarray .int, 2) := by decide +kernel
theorem d_Mod_init_111 : decode prog_10_method_1_code 111 = .ok (.putfield 51, 3) := by decide +kernel
theorem d_Mod_init_114 : decode prog_10_method_1_code 114 = .ok (.aload_n 0, 1) := by decide +kernel
theorem d_Mod_init_115 : decode prog_10_method_1_code 115 = .ok (.bipush 7, 2) := by decide +kernel
theorem d_Mod_init_117 : decode prog_10_method_1_code 117 = .ok (.newarray .int, 2) := by decide +kernel
theorem d_Mod_init_119 : decode prog_10_method_1_code 119 = .ok (.putfield 54, 3) := by decide +kernel
theorem d_Mod_init_122 : decode prog_10_method_1_code 122 = .ok (.aload_n 0, 1) := by decide +kernel
theorem d_Mod_init_123 : decode prog_10_method_1_code 123 = .ok (.bipush 8, 2) := by decide +kernel
theorem d_Mod_init_125 : decode prog_10_method_1_code 125 = .ok (.newarray .int, 2) := by decide +kernel
theorem d_Mod_init_127 : decode prog_10_method_1_code 127 = .ok (.putfield 57, 3) := by decide +kernel
theorem d_Mod_init_130 : decode prog_10_method_1_code 130 = .ok (.aload_n 0, 1) := by decide +kernel
theorem d_Mod_init_131 : decode prog_10_method_1_code 131 = .ok (.bipush 7, 2) := by decide +kernel
theorem d_Mod_init_133 : decode prog_10_method_1_code 133 = .ok (.newarray .int, 2) := by decide +kernel
theorem d_Mod_init_135 : decode prog_10_method_1_code 135 = .ok (.putfield 60, 3) := by decide +kernel
theorem d_Mod_init_138 : decode prog_10_method_1_code 138 = .ok (.aload_n 0, 1) := by decide +kernel
theorem d_Mod_init_139 : decode prog_10_method_1_code 139 = .ok (.bipush 7, 2) := by decide +kernel
theorem d_Mod_init_141 : decode prog_10_method_1_code 141 = .ok (.newarray .int, 2) := by decide +kernel
theorem d_Mod_init_143 : decode prog_10_method_1_code 143 = .ok (.putfield 63, 3) := by decide +kernel
theorem d_Mod_init_146 : decode prog_10_method_1_code 146 = .ok (.aload_n 0, 1) := by decide +kernel
theorem d_Mod_init_147 : decode prog_10_method_1_code 147 = .ok (.bipush 81, 2) := by decide +kernel
theorem d_Mod_init_149 : decode prog_10_method_1_code 149 = .ok (.newarray .int, 2) := by decide +kernel
theorem d_Mod_init_151 : decode prog_10_method_1_code 151 = .ok (.putfield 66, 3) := by decide +kernel
theorem d_Mod_init_154 : decode prog_10_method_1_code 154 = .ok (.aload_n 0, 1) := by decide +kernel
theorem d_Mod_init_155 : decode prog_10_method_1_code 155 = .ok (.iload_n 1, 1) := by decide +kernel
theorem d_Mod_init_156 : decode prog_10_method_1_code 156 = .ok (.invokestatic 69, 3) := by decide +kernel
theorem d_Mod_init_159 : decode prog_10_method_1_code 159 = .ok (.putfield 73, 3) := by decide +kernel
theorem d_Mod_init_162 : decode prog_10_method_1_code 162 = .ok (.aload_n 0, 1) := by decide +kernel
theorem d_Mod_init_163 : decode prog_10_method_1_code 163 = .ok (.iload_n 2, 1) := by decide +kernel
theorem d_Mod_init_164 : decode prog_10_method_1_code 164 = .ok (.invokestatic 69, 3) := by decide +kernel
theorem d_Mod_init_167 : decode prog_10_method_1_code 167 = .ok (.putfield 76, 3) := by decide +kernel
theorem d_Mod_init_170 : decode prog_10_method_1_code 170 = .ok (.return_, 1) := by decide +kernel
theorem d_Mod_apart_0 : decode prog_10_method_14_code 0 = .ok (.aload_n 0, 1) := by decide +kernel
theorem d_Mod_apart_1 : decode prog_10_method_14_code 1 = .ok (.aload_n 0, 1) := by decide +kernel
theorem d_Mod_apart_2 : decode prog_10_method_14_code 2 = .ok (.iload_n 1, 1) := by decide +kernel
theorem d_Mod_apart_3 : decode prog_10_method_14_code 3 = .ok (.invokevirtual 119, 3) := by decide +kernel
theorem d_Mod_apart_6 : decode prog_10_method_14_code 6 = .ok (.ifCond .eq 11, 3) := by decide +kernel
theorem d_Mod_apart_9 : decode prog_10_method_14_code 9 = .ok (.aload_n 0, 1) := by decide +kernel
theorem d_Mod_apart_10 : decode prog_10_method_14_code 10 = .ok (.iload_n 2, 1) := by decide +kernel
theorem d_Mod_apart_11 : decode prog_10_method_14_code 11 = .ok (.invokevirtual 119, 3) := by decide +kernel
theorem d_Mod_apart_14 : decode prog_10_method_14_code 14 = .ok (.ifCond .ne 7, 3) := by decide +kernel
theorem d_Mod_apart_17 : decode prog_10_method_14_code 17 = .ok (.iconst 1, 1) := by decide +kernel
theorem d_Mod_apart_18 : decode prog_10_method_14_code 18 = .ok (.goto 4, 3) := by decide +kernel
theorem d_Mod_apart_21 : decode prog_10_method_14_code 21 = .ok (.iconst 0, 1) := by decide +kernel
theorem d_Mod_apart_22 : decode prog_10_method_14_code 22 = .ok (.iload_n 1, 1) := by decide +kernel
theorem d_Mod_apart_23 : decode prog_10_method_14_code 23 = .ok (.iload_n 2, 1) := by decide +kernel
theorem d_Mod_apart_24 : decode prog_10_method_14_code 24 = .ok (.if_icmp .eq 12, 3) := by decide +kernel
theorem d_Mod_apart_27 : decode prog_10_method_14_code 27 = .ok (.iload_n 3, 1) := by decide +kernel
theorem d_Mod_apart_28 : decode prog_10_method_14_code 28 = .ok (.iconst 0, 1) := by decide +kernel
theorem d_Mod_apart_29 : decode prog_10_method_14_code 29 = .ok (.iconst 5, 1) := by decide +kernel
theorem d_Mod_apart_30 : decode prog_10_method_14_code 30 = .ok (.invokestatic 82, 3) := by decide +kernel
theorem d_Mod_apart_33 : decode prog_10_method_14_code 33 = .ok (.ifCond .ne 7, 3) := by decide +kernel
theorem d_Mod_apart_36 : decode prog_10_method_14_code 36 = .ok (.iconst 1, 1) := by decide +kernel
theorem d_Mod_apart_37 : decode prog_10_method_14_code 37 = .ok (.goto 4, 3) := by decide +kernel
theorem d_Mod_apart_40 : decode prog_10_method_14_code 40 = .ok (.iconst 0, 1) := by decide +kernel
theorem d_Mod_apart_41 : decode prog_10_method_14_code 41 = .ok (.iconst 0, 1) := by decide +kernel
theorem d_Mod_apart_42 : decode prog_10_method_14_code 42 = .ok (.invokevirtual 106, 3) := by decide +kernel
theorem d_Mod_apart_45 : decode prog_10_method_14_code 45 = .ok (.ifCond .eq 5, 3) := by decide +kernel
theorem d_Mod_apart_48 : decode prog_10_method_14_code 48 = .ok (.iconst 0, 1) := by decide +kernel
theorem d_Mod_apart_49 : decode prog_10_method_14_code 49 = .ok (.ireturn, 1) := by decide +kernel
theorem d_Mod_apart_50 : decode prog_10_method_14_code 50 = .ok (.aload_n 0, 1) := by decide +kernel
theorem d_Mod_apart_51 : decode prog_10_method_14_code 51 = .ok (.getfield 26, 3) := by decide +kernel
theorem d_Mod_apart_54 : decode prog_10_method_14_code 54 = .ok (.bipush 7, 2) := by decide +kernel
theorem d_Mod_apart_56 : decode prog_10_method_14_code 56 = .ok (.iload_n 1, 1) := by decide +kernel
theorem d_Mod_apart_57 : decode prog_10_method_14_code 57 = .ok (.imul, 1) := by decide +kernel
theorem d_Mod_apart_58 : decode prog_10_method_14_code 58 = .ok (.iload_n 2, 1) := by decide +kernel
theorem d_Mod_apart_59 : decode prog_10_method_14_code 59 = .ok (.iadd, 1) := by decide +kernel
theorem d_Mod_apart_60 : decode prog_10_method_14_code 60 = .ok (.iaload, 1) := by decide +kernel
theorem d_Mod_apart_61 : decode prog_10_method_14_code 61 = .ok (.istore 4, 2) := by decide +kernel
theorem d_Mod_apart_63 : decode prog_10_method_14_code 63 = .ok (.aload_n 0, 1) := by decide +kernel
theorem d_Mod_apart_64 : decode prog_10_method_14_code 64 = .ok (.getfield 26, 3) := by decide +kernel
theorem d_Mod_apart_67 : decode prog_10_method_14_code 67 = .ok (.bipush 7, 2) := by decide +kernel
theorem d_Mod_apart_69 : decode prog_10_method_14_code 69 = .ok (.iload_n 1, 1) := by decide +kernel
theorem d_Mod_apart_70 : decode prog_10_method_14_code 70 = .ok (.imul, 1) := by decide +kernel
theorem d_Mod_apart_71 : decode prog_10_method_14_code 71 = .ok (.iload_n 2, 1) := by decide +kernel
theorem d_Mod_apart_72 : decode prog_10_method_14_code 72 = .ok (.iadd, 1) := by decide +kernel
theorem d_Mod_apart_73 : decode prog_10_method_14_code 73 = .ok (.iload_n 3, 1) := by decide +kernel
theorem d_Mod_apart_74 : decode prog_10_method_14_code 74 = .ok (.iastore, 1) := by decide +kernel
theorem d_Mod_apart_75 : decode prog_10_method_14_code 75 = .ok (.aload_n 0, 1) := by decide +kernel
theorem d_Mod_apart_76 : decode prog_10_method_14_code 76 = .ok (.getfield 26, 3) := by decide +kernel
theorem d_Mod_apart_79 : decode prog_10_method_14_code 79 = .ok (.bipush 7, 2) := by decide +kernel
theorem d_Mod_apart_81 : decode prog_10_method_14_code 81 = .ok (.iload_n 2, 1) := by decide +kernel
theorem d_Mod_apart_82 : decode prog_10_method_14_code 82 = .ok (.imul, 1) := by decide +kernel
theorem d_Mod_apart_83 : decode prog_10_method_14_code 83 = .ok (.iload_n 1, 1) := by decide +kernel
theorem d_Mod_apart_84 : decode prog_10_method_14_code 84 = .ok (.iadd, 1) := by decide +kernel
theorem d_Mod_apart_85 : decode prog_10_method_14_code 85 = .ok (.iload_n 3, 1) := by decide +kernel
theorem d_Mod_apart_86 : decode prog_10_method_14_code 86 = .ok (.iastore, 1) := by decide +kernel
theorem d_Mod_apart_87 : decode prog_10_method_14_code 87 = .ok (.aload_n 0, 1) := by decide +kernel
theorem d_Mod_apart_88 : decode prog_10_method_14_code 88 = .ok (.invokevirtual 116, 3) := by decide +kernel
theorem d_Mod_apart_91 : decode prog_10_method_14_code 91 = .ok (.iload 4, 2) := by decide +kernel
theorem d_Mod_apart_93 : decode prog_10_method_14_code 93 = .ok (.ireturn, 1) := by decide +kernel
theorem d_Mod_at_0 : decode prog_10_method_39_code 0 = .ok (.aload_n 0, 1) := by decide +kernel
theorem d_Mod_at_1 : decode prog_10_method_39_code 1 = .ok (.aload_n 0, 1) := by decide +kernel
theorem d_Mod_at_2 : decode prog_10_method_39_code 2 = .ok (.iload_n 1, 1) := by decide +kernel
theorem d_Mod_at_3 : decode prog_10_method_39_code 3 = .ok (.invokevirtual 119, 3) := by decide +kernel
theorem d_Mod_at_6 : decode prog_10_method_39_code 6 = .ok (.ifCond .eq 12, 3) := by decide +kernel
theorem d_Mod_at_9 : decode prog_10_method_39_code 9 = .ok (.iload_n 2, 1) := by decide +kernel
theorem d_Mod_at_10 : decode prog_10_method_39_code 10 = .ok (.iconst 0, 1) := by decide +kernel
theorem d_Mod_at_11 : decode prog_10_method_39_code 11 = .ok (.iconst 1, 1) := by decide +kernel
theorem d_Mod_at_12 : decode prog_10_method_39_code 12 = .ok (.invokestatic 82, 3) := by decide +kernel
theorem d_Mod_at_15 : decode prog_10_method_39_code 15 = .ok (.ifCond .ne 7, 3) := by decide +kernel
theorem d_Mod_at_18 : decode prog_10_method_39_code 18 = .ok (.iconst 1, 1) := by decide +kernel
theorem d_Mod_at_19 : decode prog_10_method_39_code 19 = .ok (.goto 4, 3) := by decide +kernel
theorem d_Mod_at_22 : decode prog_10_method_39_code 22 = .ok (.iconst 0, 1) := by decide +kernel
theorem d_Mod_at_23 : decode prog_10_method_39_code 23 = .ok (.aload_n 0, 1) := by decide +kernel
theorem d_Mod_at_24 : decode prog_10_method_39_code 24 = .ok (.getfield 89, 3) := by decide +kernel
theorem d_Mod_at_27 : decode prog_10_method_39_code 27 = .ok (.ifCond .ne 7, 3) := by decide +kernel
theorem d_Mod_at_30 : decode prog_10_method_39_code 30 = .ok (.iconst 1, 1) := by decide +kernel
theorem d_Mod_at_31 : decode prog_10_method_39_code 31 = .ok (.goto 4, 3) := by decide +kernel
theorem d_Mod_at_34 : decode prog_10_method_39_code 34 = .ok (.iconst 0, 1) := by decide +kernel
theorem d_Mod_at_35 : decode prog_10_method_39_code 35 = .ok (.iconst 0, 1) := by decide +kernel
theorem d_Mod_at_36 : decode prog_10_method_39_code 36 = .ok (.invokevirtual 106, 3) := by decide +kernel
theorem d_Mod_at_39 : decode prog_10_method_39_code 39 = .ok (.ifCond .eq 5, 3) := by decide +kernel
theorem d_Mod_at_42 : decode prog_10_method_39_code 42 = .ok (.iconst 0, 1) := by decide +kernel
theorem d_Mod_at_43 : decode prog_10_method_39_code 43 = .ok (.ireturn, 1) := by decide +kernel
theorem d_Mod_at_44 : decode prog_10_method_39_code 44 = .ok (.iload_n 2, 1) := by decide +kernel
theorem d_Mod_at_45 : decode prog_10_method_39_code 45 = .ok (.ifCond .ne 12, 3) := by decide +kernel
theorem d_Mod_at_48 : decode prog_10_method_39_code 48 = .ok (.aload_n 0, 1) := by decide +kernel
theorem d_Mod_at_49 : decode prog_10_method_39_code 49 = .ok (.getfield 60, 3) := by decide +kernel
theorem d_Mod_at_52 : decode prog_10_method_39_code 52 = .ok (.iload_n 1, 1) := by decide +kernel
theorem d_Mod_at_53 : decode prog_10_method_39_code 53 = .ok (.iaload, 1) := by decide +kernel
theorem d_Mod_at_54 : decode prog_10_method_39_code 54 = .ok (.goto 9, 3) := by decide +kernel
theorem d_Mod_at_57 : decode prog_10_method_39_code 57 = .ok (.aload_n 0, 1) := by decide +kernel
theorem d_Mod_at_58 : decode prog_10_method_39_code 58 = .ok (.getfield 63, 3) := by decide +kernel
theorem d_Mod_at_61 : decode prog_10_method_39_code 61 = .ok (.iload_n 1, 1) := by decide +kernel
theorem d_Mod_at_62 : decode prog_10_method_39_code 62 = .ok (.iaload, 1) := by decide +kernel
theorem d_Mod_at_63 : decode prog_10_method_39_code 63 = .ok (.ireturn, 1) := by decide +kernel
theorem d_Mod_between_0 : decode prog_10_method_20_code 0 = .ok (.iload_n 0, 1) := by decide +kernel
theorem d_Mod_between_1 : decode prog_10_method_20_code 1 = .ok (.iload_n 1, 1) := by decide +kernel
theorem d_Mod_between_2 : decode prog_10_method_20_code 2 = .ok (.iadd, 1) := by decide +kernel
theorem d_Mod_between_3 : decode prog_10_method_20_code 3 = .ok (.iload_n 2, 1) := by decide +kernel
theorem d_Mod_between_4 : decode prog_10_method_20_code 4 = .ok (.if_icmp .gt 9, 3) := by decide +kernel
theorem d_Mod_between_7 : decode prog_10_method_20_code 7 = .ok (.iload_n 2, 1) := by decide +kernel
theorem d_Mod_between_8 : decode prog_10_method_20_code 8 = .ok (.iload_n 0, 1) := by decide +kernel
theorem d_Mod_between_9 : decode prog_10_method_20_code 9 = .ok (.isub, 1) := by decide +kernel
theorem d_Mod_between_10 : decode prog_10_method_20_code 10 = .ok (.iload_n 1, 1) := by decide +kernel
theorem d_Mod_between_11 : decode prog_10_method_20_code 11 = .ok (.isub, 1) := by decide +kernel
theorem d_Mod_between_12 : decode prog_10_method_20_code 12 = .ok (.ireturn, 1) := by decide +kernel
theorem d_Mod_between_13 : decode prog_10_method_20_code 13 = .ok (.iload_n 2, 1) := by decide +kernel
theorem d_Mod_between_14 : decode prog_10_method_20_code 14 = .ok (.iload_n 3, 1) := by decide +kernel
theorem d_Mod_between_15 : decode prog_10_method_20_code 15 = .ok (.iadd, 1) := by decide +kernel
theorem d_Mod_between_16 : decode prog_10_method_20_code 16 = .ok (.iload_n 0, 1) := by decide +kernel
theorem d_Mod_between_17 : decode prog_10_method_20_code 17 = .ok (.if_icmp .gt 11, 3) := by decide +kernel
theorem d_Mod_between_20 : decode prog_10_method_20_code 20 = .ok (.iload_n 0, 1) := by decide +kernel
theorem d_Mod_between_21 : decode prog_10_method_20_code 21 = .ok (.iload_n 2, 1) := by decide +kernel
theorem d_Mod_between_22 : decode prog_10_method_20_code 22 = .ok (.isub, 1) := by decide +kernel
theorem d_Mod_between_23 : decode prog_10_method_20_code 23 = .ok (.iload_n 3, 1) := by decide +kernel
theorem d_Mod_between_24 : decode prog_10_method_20_code 24 = .ok (.isub, 1) := by decide +kernel
theorem d_Mod_between_25 : decode prog_10_method_20_code 25 = .ok (.goto 4, 3) := by decide +kernel
theorem d_Mod_between_28 : decode prog_10_method_20_code 28 = .ok (.iconst 0, 1) := by decide +kernel
theorem d_Mod_between_29 : decode prog_10_method_20_code 29 = .ok (.ireturn, 1) := by decide +kernel
theorem d_Mod_count_0 : decode prog_10_method_44_code 0 = .ok (.aload_n 0, 1) := by decide +kernel
theorem d_Mod_count_1 : decode prog_10_method_44_code 1 = .ok (.iload_n 1, 1) := by decide +kernel
theorem d_Mod_count_2 : decode prog_10_method_44_code 2 = .ok (.iconst 0, 1) := by decide +kernel
theorem d_Mod_count_3 : decode prog_10_method_44_code 3 = .ok (.iconst 3, 1) := by decide +kernel
theorem d_Mod_count_4 : decode prog_10_method_44_code 4 = .ok (.invokestatic 82, 3) := by decide +kernel
theorem d_Mod_count_7 : decode prog_10_method_44_code 7 = .ok (.ifCond .ne 7, 3) := by decide +kernel
theorem d_Mod_count_10 : decode prog_10_method_44_code 10 = .ok (.iconst 1, 1) := by decide +kernel
theorem d_Mod_count_11 : decode prog_10_method_44_code 11 = .ok (.goto 4, 3) := by decide +kernel
theorem d_Mod_count_14 : decode prog_10_method_44_code 14 = .ok (.iconst 0, 1) := by decide +kernel
theorem d_Mod_count_15 : decode prog_10_method_44_code 15 = .ok (.iconst 0, 1) := by decide +kernel
theorem d_Mod_count_16 : decode prog_10_method_44_code 16 = .ok (.iconst 0, 1) := by decide +kernel
theorem d_Mod_count_17 : decode prog_10_method_44_code 17 = .ok (.invokevirtual 106, 3) := by decide +kernel
theorem d_Mod_count_20 : decode prog_10_method_44_code 20 = .ok (.ifCond .eq 5, 3) := by decide +kernel
theorem d_Mod_count_23 : decode prog_10_method_44_code 23 = .ok (.iconst 0, 1) := by decide +kernel
theorem d_Mod_count_24 : decode prog_10_method_44_code 24 = .ok (.ireturn, 1) := by decide +kernel
theorem d_Mod_count_25 : decode prog_10_method_44_code 25 = .ok (.iload_n 1, 1) := by decide +kernel
theorem d_Mod_count_26 : decode prog_10_method_44_code 26 = .ok (.ifCond .ne 10, 3) := by decide +kernel
theorem d_Mod_count_29 : decode prog_10_method_44_code 29 = .ok (.aload_n 0, 1) := by decide +kernel
theorem d_Mod_count_30 : decode prog_10_method_44_code 30 = .ok (.getfield 86, 3) := by decide +kernel
theorem d_Mod_count_33 : decode prog_10_method_44_code 33 = .ok (.goto 31, 3) := by decide +kernel
theorem d_Mod_count_36 : decode prog_10_method_44_code 36 = .ok (.iload_n 1, 1) := by decide +kernel
theorem d_Mod_count_37 : decode prog_10_method_44_code 37 = .ok (.iconst 1, 1) := by decide +kernel
theorem d_Mod_count_38 : decode prog_10_method_44_code 38 = .ok (.if_icmp .ne 10, 3) := by decide +kernel
theorem d_Mod_count_41 : decode prog_10_method_44_code 41 = .ok (.aload_n 0, 1) := by decide +kernel
theorem d_Mod_count_42 : decode prog_10_method_44_code 42 = .ok (.getfield 99, 3) := by decide +kernel
theorem d_Mod_count_45 : decode prog_10_method_44_code 45 = .ok (.goto 19, 3) := by decide +kernel
theorem d_Mod_count_48 : decode prog_10_method_44_code 48 = .ok (.iload_n 1, 1) := by decide +kernel
theorem d_Mod_count_49 : decode prog_10_method_44_code 49 = .ok (.iconst 2, 1) := by decide +kernel
theorem d_Mod_count_50 : decode prog_10_method_44_code 50 = .ok (.if_icmp .ne 10, 3) := by decide +kernel
theorem d_Mod_count_53 : decode prog_10_method_44_code 53 = .ok (.aload_n 0, 1) := by decide +kernel
theorem d_Mod_count_54 : decode prog_10_method_44_code 54 = .ok (.getfield 96, 3) := by decide +kernel
theorem d_Mod_count_57 : decode prog_10_method_44_code 57 = .ok (.goto 7, 3) := by decide +kernel
theorem d_Mod_count_60 : decode prog_10_method_44_code 60 = .ok (.aload_n 0, 1) := by decide +kernel
theorem d_Mod_count_61 : decode prog_10_method_44_code 61 = .ok (.invokevirtual 182, 3) := by decide +kernel
theorem d_Mod_count_64 : decode prog_10_method_44_code 64 = .ok (.ireturn, 1) := by decide +kernel
theorem d_Mod_covers_0 : decode prog_10_method_23_code 0 = .ok (.iload_n 2, 1) := by decide +kernel
theorem d_Mod_covers_1 : decode prog_10_method_23_code 1 = .ok (.aload_n 0, 1) := by decide +kernel
theorem d_Mod_covers_2 : decode prog_10_method_23_code 2 = .ok (.getfield 51, 3) := by decide +kernel
theorem d_Mod_covers_5 : decode prog_10_method_23_code 5 = .ok (.iload_n 1, 1) := by decide +kernel
theorem d_Mod_covers_6 : decode prog_10_method_23_code 6 = .ok (.iaload, 1) := by decide +kernel
theorem d_Mod_covers_7 : decode prog_10_method_23_code 7 = .ok (.isub, 1) := by decide +kernel
theorem d_Mod_covers_8 : decode prog_10_method_23_code 8 = .ok (.iconst 0, 1) := by decide +kernel
theorem d_Mod_covers_9 : decode prog_10_method_23_code 9 = .ok (.aload_n 0, 1) := by decide +kernel
theorem d_Mod_covers_10 : decode prog_10_method_23_code 10 = .ok (.getfield 17, 3) := by decide +kernel
theorem d_Mod_covers_13 : decode prog_10_method_23_code 13 = .ok (.iload_n 1, 1) := by decide +kernel
theorem d_Mod_covers_14 : decode prog_10_method_23_code 14 = .ok (.iaload, 1) := by decide +kernel
theorem d_Mod_covers_15 : decode prog_10_method_23_code 15 = .ok (.iconst 1, 1) := by decide +kernel
theorem d_Mod_covers_16 : decode prog_10_method_23_code 16 = .ok (.isub, 1) := by decide +kernel
theorem d_Mod_covers_17 : decode prog_10_method_23_code 17 = .ok (.invokestatic 82, 3) := by decide +kernel
theorem d_Mod_covers_20 : decode prog_10_method_23_code 20 = .ok (.ifCond .eq 30, 3) := by decide +kernel
theorem d_Mod_covers_23 : decode prog_10_method_23_code 23 = .ok (.iload_n 3, 1) := by decide +kernel
theorem d_Mod_covers_24 : decode prog_10_method_23_code 24 = .ok (.aload_n 0, 1) := by decide +kernel
theorem d_Mod_covers_25 : decode prog_10_method_23_code 25 = .ok (.getfield 54, 3) := by decide +kernel
theorem d_Mod_covers_28 : decode prog_10_method_23_code 28 = .ok (.iload_n 1, 1) := by decide +kernel
theorem d_Mod_covers_29 : decode prog_10_method_23_code 29 = .ok (.iaload, 1) := by decide +kernel
theorem d_Mod_covers_30 : decode prog_10_method_23_code 30 = .ok (.isub, 1) := by decide +kernel
theorem d_Mod_covers_31 : decode prog_10_method_23_code 31 = .ok (.iconst 0, 1) := by decide +kernel
theorem d_Mod_covers_32 : decode prog_10_method_23_code 32 = .ok (.aload_n 0, 1) := by decide +kernel
theorem d_Mod_covers_33 : decode prog_10_method_23_code 33 = .ok (.getfield 20, 3) := by decide +kernel
theorem d_Mod_covers_36 : decode prog_10_method_23_code 36 = .ok (.iload_n 1, 1) := by decide +kernel
theorem d_Mod_covers_37 : decode prog_10_method_23_code 37 = .ok (.iaload, 1) := by decide +kernel
theorem d_Mod_covers_38 : decode prog_10_method_23_code 38 = .ok (.iconst 1, 1) := by decide +kernel
theorem d_Mod_covers_39 : decode prog_10_method_23_code 39 = .ok (.isub, 1) := by decide +kernel
theorem d_Mod_covers_40 : decode prog_10_method_23_code 40 = .ok (.invokestatic 82, 3) := by decide +kernel
theorem d_Mod_covers_43 : decode prog_10_method_23_code 43 = .ok (.ifCond .eq 7, 3) := by decide +kernel
theorem d_Mod_covers_46 : decode prog_10_method_23_code 46 = .ok (.iconst 1, 1) := by decide +kernel
theorem d_Mod_covers_47 : decode prog_10_method_23_code 47 = .ok (.goto 4, 3) := by decide +kernel
theorem d_Mod_covers_50 : decode prog_10_method_23_code 50 = .ok (.iconst 0, 1) := by decide +kernel
theorem d_Mod_covers_51 : decode prog_10_method_23_code 51 = .ok (.ireturn, 1) := by decide +kernel
theorem d_Mod_cross_0 : decode prog_10_method_25_code 0 = .ok (.iload_n 0, 1) := by decide +kernel
theorem d_Mod_cross_1 : decode prog_10_method_25_code 1 = .ok (.iload_n 3, 1) := by decide +kernel
theorem d_Mod_cross_2 : decode prog_10_method_25_code 2 = .ok (.imul, 1) := by decide +kernel
theorem d_Mod_cross_3 : decode prog_10_method_25_code 3 = .ok (.iload_n 1, 1) := by decide +kernel
theorem d_Mod_cross_4 : decode prog_10_method_25_code 4 = .ok (.iload_n 2, 1) := by decide +kernel
theorem d_Mod_cross_5 : decode prog_10_method_25_code 5 = .ok (.imul, 1) := by decide +kernel
theorem d_Mod_cross_6 : decode prog_10_method_25_code 6 = .ok (.isub, 1) := by decide +kernel
theorem d_Mod_cross_7 : decode prog_10_method_25_code 7 = .ok (.ireturn, 1) := by decide +kernel
theorem d_Mod_escape_0 : decode prog_10_method_42_code 0 = .ok (.aload_n 0, 1) := by decide +kernel
theorem d_Mod_escape_1 : decode prog_10_method_42_code 1 = .ok (.aload_n 0, 1) := by decide +kernel
theorem d_Mod_escape_2 : decode prog_10_method_42_code 2 = .ok (.iload_n 1, 1) := by decide +kernel
theorem d_Mod_escape_3 : decode prog_10_method_42_code 3 = .ok (.iload_n 2, 1) := by decide +kernel
theorem d_Mod_escape_4 : decode prog_10_method_42_code 4 = .ok (.invokevirtual 102, 3) := by decide +kernel
theorem d_Mod_escape_7 : decode prog_10_method_42_code 7 = .ok (.ifCond .ne 7, 3) := by decide +kernel
theorem d_Mod_escape_10 : decode prog_10_method_42_code 10 = .ok (.iconst 1, 1) := by decide +kernel
theorem d_Mod_escape_11 : decode prog_10_method_42_code 11 = .ok (.goto 4, 3) := by decide +kernel
theorem d_Mod_escape_14 : decode prog_10_method_42_code 14 = .ok (.iconst 0, 1) := by decide +kernel
theorem d_Mod_escape_15 : decode prog_10_method_42_code 15 = .ok (.aload_n 0, 1) := by decide +kernel
theorem d_Mod_escape_16 : decode prog_10_method_42_code 16 = .ok (.getfield 89, 3) := by decide +kernel
theorem d_Mod_escape_19 : decode prog_10_method_42_code 19 = .ok (.ifCond .ne 7, 3) := by decide +kernel
theorem d_Mod_escape_22 : decode prog_10_method_42_code 22 = .ok (.iconst 1, 1) := by decide +kernel
theorem d_Mod_escape_23 : decode prog_10_method_42_code 23 = .ok (.goto 4, 3) := by decide +kernel
theorem d_Mod_escape_26 : decode prog_10_method_42_code 26 = .ok (.iconst 0, 1) := by decide +kernel
theorem d_Mod_escape_27 : decode prog_10_method_42_code 27 = .ok (.iconst 0, 1) := by decide +kernel
theorem d_Mod_escape_28 : decode prog_10_method_42_code 28 = .ok (.invokevirtual 106, 3) := by decide +kernel
theorem d_Mod_escape_31 : decode prog_10_method_42_code 31 = .ok (.ifCond .eq 5, 3) := by decide +kernel
theorem d_Mod_escape_34 : decode prog_10_method_42_code 34 = .ok (.iconst 0, 1) := by decide +kernel
theorem d_Mod_escape_35 : decode prog_10_method_42_code 35 = .ok (.ireturn, 1) := by decide +kernel
theorem d_Mod_escape_36 : decode prog_10_method_42_code 36 = .ok (.aload_n 0, 1) := by decide +kernel
theorem d_Mod_escape_37 : decode prog_10_method_42_code 37 = .ok (.invokevirtual 179, 3) := by decide +kernel
theorem d_Mod_escape_40 : decode prog_10_method_42_code 40 = .ok (.aload_n 0, 1) := by decide +kernel
theorem d_Mod_escape_41 : decode prog_10_method_42_code 41 = .ok (.invokevirtual 153, 3) := by decide +kernel
theorem d_Mod_escape_44 : decode prog_10_method_42_code 44 = .ok (.aload_n 0, 1) := by decide +kernel
theorem d_Mod_escape_45 : decode prog_10_method_42_code 45 = .ok (.iload_n 1, 1) := by decide +kernel
theorem d_Mod_escape_46 : decode prog_10_method_42_code 46 = .ok (.iload_n 2, 1) := by decide +kernel
theorem d_Mod_escape_47 : decode prog_10_method_42_code 47 = .ok (.invokevirtual 147, 3) := by decide +kernel
theorem d_Mod_escape_50 : decode prog_10_method_42_code 50 = .ok (.sipush 1000, 3) := by decide +kernel
theorem d_Mod_escape_53 : decode prog_10_method_42_code 53 = .ok (.if_icmp .ge 21, 3) := by decide +kernel
theorem d_Mod_escape_56 : decode prog_10_method_42_code 56 = .ok (.aload_n 0, 1) := by decide +kernel
theorem d_Mod_escape_57 : decode prog_10_method_42_code 57 = .ok (.iload_n 1, 1) := by decide +kernel
theorem d_Mod_escape_58 : decode prog_10_method_42_code 58 = .ok (.iload_n 2, 1) := by decide +kernel
theorem d_Mod_escape_59 : decode prog_10_method_42_code 59 = .ok (.invokevirtual 144, 3) := by decide +kernel
theorem d_Mod_escape_62 : decode prog_10_method_42_code 62 = .ok (.ifCond .eq 12, 3) := by decide +kernel
theorem d_Mod_escape_65 : decode prog_10_method_42_code 65 = .ok (.aload_n 0, 1) := by decide +kernel
theorem d_Mod_escape_66 : decode prog_10_method_42_code 66 = .ok (.iload_n 1, 1) := by decide +kernel
theorem d_Mod_escape_67 : decode prog_10_method_42_code 67 = .ok (.iload_n 2, 1) := by decide +kernel
theorem d_Mod_escape_68 : decode prog_10_method_42_code 68 = .ok (.invokevirtual 147, 3) := by decide +kernel
theorem d_Mod_escape_71 : decode prog_10_method_42_code 71 = .ok (.goto 4, 3) := by decide +kernel
theorem d_Mod_escape_74 : decode prog_10_method_42_code 74 = .ok (.iconst (-1), 1) := by decide +kernel
theorem d_Mod_escape_75 : decode prog_10_method_42_code 75 = .ok (.ireturn, 1) := by decide +kernel
theorem d_Mod_escapes_0 : decode prog_10_method_31_code 0 = .ok (.iconst 0, 1) := by decide +kernel
theorem d_Mod_escapes_1 : decode prog_10_method_31_code 1 = .ok (.istore_n 2, 1) := by decide +kernel
theorem d_Mod_escapes_2 : decode prog_10_method_31_code 2 = .ok (.iconst 0, 1) := by decide +kernel
theorem d_Mod_escapes_3 : decode prog_10_method_31_code 3 = .ok (.istore_n 3, 1) := by decide +kernel
theorem d_Mod_escapes_4 : decode prog_10_method_31_code 4 = .ok (.iload_n 3, 1) := by decide +kernel
theorem d_Mod_escapes_5 : decode prog_10_method_31_code 5 = .ok (.aload_n 0, 1) := by decide +kernel
theorem d_Mod_escapes_6 : decode prog_10_method_31_code 6 = .ok (.getfield 17, 3) := by decide +kernel
theorem d_Mod_escapes_9 : decode prog_10_method_31_code 9 = .ok (.iload_n 1, 1) := by decide +kernel
theorem d_Mod_escapes_10 : decode prog_10_method_31_code 10 = .ok (.iaload, 1) := by decide +kernel
theorem d_Mod_escapes_11 : decode prog_10_method_31_code 11 = .ok (.if_icmp .ge 78, 3) := by decide +kernel
theorem d_Mod_escapes_14 : decode prog_10_method_31_code 14 = .ok (.iload_n 2, 1) := by decide +kernel
theorem d_Mod_escapes_15 : decode prog_10_method_31_code 15 = .ok (.ifCond .ne 62, 3) := by decide +kernel
theorem d_Mod_escapes_18 : decode prog_10_method_31_code 18 = .ok (.aload_n 0, 1) := by decide +kernel
theorem d_Mod_escapes_19 : decode prog_10_method_31_code 19 = .ok (.aload_n 0, 1) := by decide +kernel
theorem d_Mod_escapes_20 : decode prog_10_method_31_code 20 = .ok (.getfield 51, 3) := by decide +kernel
theorem d_Mod_escapes_23 : decode prog_10_method_31_code 23 = .ok (.iload_n 1, 1) := by decide +kernel
theorem d_Mod_escapes_24 : decode prog_10_method_31_code 24 = .ok (.iaload, 1) := by decide +kernel
theorem d_Mod_escapes_25 : decode prog_10_method_31_code 25 = .ok (.iload_n 3, 1) := by decide +kernel
theorem d_Mod_escapes_26 : decode prog_10_method_31_code 26 = .ok (.iadd, 1) := by decide +kernel
theorem d_Mod_escapes_27 : decode prog_10_method_31_code 27 = .ok (.aload_n 0, 1) := by decide +kernel
theorem d_Mod_escapes_28 : decode prog_10_method_31_code 28 = .ok (.getfield 54, 3) := by decide +kernel
theorem d_Mod_escapes_31 : decode prog_10_method_31_code 31 = .ok (.iload_n 1, 1) := by decide +kernel
theorem d_Mod_escapes_32 : decode prog_10_method_31_code 32 = .ok (.iaload, 1) := by decide +kernel
theorem d_Mod_escapes_33 : decode prog_10_method_31_code 33 = .ok (.iconst 1, 1) := by decide +kernel
theorem d_Mod_escapes_34 : decode prog_10_method_31_code 34 = .ok (.isub, 1) := by decide +kernel
theorem d_Mod_escapes_35 : decode prog_10_method_31_code 35 = .ok (.invokevirtual 147, 3) := by decide +kernel
theorem d_Mod_escapes_38 : decode prog_10_method_31_code 38 = .ok (.aload_n 0, 1) := by decide +kernel
theorem d_Mod_escapes_39 : decode prog_10_method_31_code 39 = .ok (.getfield 47, 3) := by decide +kernel
theorem d_Mod_escapes_42 : decode prog_10_method_31_code 42 = .ok (.if_icmp .le 35, 3) := by decide +kernel
theorem d_Mod_escapes_45 : decode prog_10_method_31_code 45 = .ok (.aload_n 0, 1) := by decide +kernel
theorem d_Mod_escapes_46 : decode prog_10_method_31_code 46 = .ok (.aload_n 0, 1) := by decide +kernel
theorem d_Mod_escapes_47 : decode prog_10_method_31_code 47 = .ok (.getfield 51, 3) := by decide +kernel
theorem d_Mod_escapes_50 : decode prog_10_method_31_code 50 = .ok (.iload_n 1, 1) := by decide +kernel
theorem d_Mod_escapes_51 : decode prog_10_method_31_code 51 = .ok (.iaload, 1) := by decide +kernel
theorem d_Mod_escapes_52 : decode prog_10_method_31_code 52 = .ok (.iload_n 3, 1) := by decide +kernel
theorem d_Mod_escapes_53 : decode prog_10_method_31_code 53 = .ok (.iadd, 1) := by decide +kernel
theorem d_Mod_escapes_54 : decode prog_10_method_31_code 54 = .ok (.aload_n 0, 1) := by decide +kernel
theorem d_Mod_escapes_55 : decode prog_10_method_31_code 55 = .ok (.getfield 54, 3) := by decide +kernel
theorem d_Mod_escapes_58 : decode prog_10_method_31_code 58 = .ok (.iload_n 1, 1) := by decide +kernel
theorem d_Mod_escapes_59 : decode prog_10_method_31_code 59 = .ok (.iaload, 1) := by decide +kernel
theorem d_Mod_escapes_60 : decode prog_10_method_31_code 60 = .ok (.aload_n 0, 1) := by decide +kernel
theorem d_Mod_escapes_61 : decode prog_10_method_31_code 61 = .ok (.getfield 20, 3) := by decide +kernel
theorem d_Mod_escapes_64 : decode prog_10_method_31_code 64 = .ok (.iload_n 1, 1) := by decide +kernel
theorem d_Mod_escapes_65 : decode prog_10_method_31_code 65 = .ok (.iaload, 1) := by decide +kernel
theorem d_Mod_escapes_66 : decode prog_10_method_31_code 66 = .ok (.iadd, 1) := by decide +kernel
theorem d_Mod_escapes_67 : decode prog_10_method_31_code 67 = .ok (.invokevirtual 147, 3) := by decide +kernel
theorem d_Mod_escapes_70 : decode prog_10_method_31_code 70 = .ok (.aload_n 0, 1) := by decide +kernel
theorem d_Mod_escapes_71 : decode prog_10_method_31_code 71 = .ok (.getfield 47, 3) := by decide +kernel
theorem d_Mod_escapes_74 : decode prog_10_method_31_code 74 = .ok (.if_icmp .gt 7, 3) := by decide +kernel
theorem d_Mod_escapes_77 : decode prog_10_method_31_code 77 = .ok (.iconst 1, 1) := by decide +kernel
theorem d_Mod_escapes_78 : decode prog_10_method_31_code 78 = .ok (.goto 4, 3) := by decide +kernel
theorem d_Mod_escapes_81 : decode prog_10_method_31_code 81 = .ok (.iconst 0, 1) := by decide +kernel
theorem d_Mod_escapes_82 : decode prog_10_method_31_code 82 = .ok (.istore_n 2, 1) := by decide +kernel
theorem d_Mod_escapes_83 : decode prog_10_method_31_code 83 = .ok (.iinc 3 1, 3) := by decide +kernel
theorem d_Mod_escapes_86 : decode prog_10_method_31_code 86 = .ok (.goto (-82), 3) := by decide +kernel
theorem d_Mod_escapes_89 : decode prog_10_method_31_code 89 = .ok (.iconst 0, 1) := by decide +kernel
theorem d_Mod_escapes_90 : decode prog_10_method_31_code 90 = .ok (.istore_n 3, 1) := by decide +kernel
theorem d_Mod_escapes_91 : decode prog_10_method_31_code 91 = .ok (.iload_n 3, 1) := by decide +kernel
theorem d_Mod_escapes_92 : decode prog_10_method_31_code 92 = .ok (.aload_n 0, 1) := by decide +kernel
theorem d_Mod_escapes_93 : decode prog_10_method_31_code 93 = .ok (.getfield 20, 3) := by decide +kernel
theorem d_Mod_escapes_96 : decode prog_10_method_31_code 96 = .ok (.iload_n 1, 1) := by decide +kernel
theorem d_Mod_escapes_97 : decode prog_10_method_31_code 97 = .ok (.iaload, 1) := by decide +kernel
theorem d_Mod_escapes_98 : decode prog_10_method_31_code 98 = .ok (.if_icmp .ge 78, 3) := by decide +kernel
theorem d_Mod_escapes_101 : decode prog_10_method_31_code 101 = .ok (.iload_n 2, 1) := by decide +kernel
theorem d_Mod_escapes_102 : decode prog_10_method_31_code 102 = .ok (.ifCond .ne 62, 3) := by decide +kernel
theorem d_Mod_escapes_105 : decode prog_10_method_31_code 105 = .ok (.aload_n 0, 1) := by decide +kernel
theorem d_Mod_escapes_106 : decode prog_10_method_31_code 106 = .ok (.aload_n 0, 1) := by decide +kernel
theorem d_Mod_escapes_107 : decode prog_10_method_31_code 107 = .ok (.getfield 51, 3) := by decide +kernel
theorem d_Mod_escapes_110 : decode prog_10_method_31_code 110 = .ok (.iload_n 1, 1) := by decide +kernel
theorem d_Mod_escapes_111 : decode prog_10_method_31_code 111 = .ok (.iaload, 1) := by decide +kernel
theorem d_Mod_escapes_112 : decode prog_10_method_31_code 112 = .ok (.iconst 1, 1) := by decide +kernel
theorem d_Mod_escapes_113 : decode prog_10_method_31_code 113 = .ok (.isub, 1) := by decide +kernel
theorem d_Mod_escapes_114 : decode prog_10_method_31_code 114 = .ok (.aload_n 0, 1) := by decide +kernel
theorem d_Mod_escapes_115 : decode prog_10_method_31_code 115 = .ok (.getfield 54, 3) := by decide +kernel
theorem d_Mod_escapes_118 : decode prog_10_method_31_code 118 = .ok (.iload_n 1, 1) := by decide +kernel
theorem d_Mod_escapes_119 : decode prog_10_method_31_code 119 = .ok (.iaload, 1) := by decide +kernel
theorem d_Mod_escapes_120 : decode prog_10_method_31_code 120 = .ok (.iload_n 3, 1) := by decide +kernel
theorem d_Mod_escapes_121 : decode prog_10_method_31_code 121 = .ok (.iadd, 1) := by decide +kernel
theorem d_Mod_escapes_122 : decode prog_10_method_31_code 122 = .ok (.invokevirtual 147, 3) := by decide +kernel
theorem d_Mod_escapes_125 : decode prog_10_method_31_code 125 = .ok (.aload_n 0, 1) := by decide +kernel
theorem d_Mod_escapes_126 : decode prog_10_method_31_code 126 = .ok (.getfield 47, 3) := by decide +kernel
theorem d_Mod_escapes_129 : decode prog_10_method_31_code 129 = .ok (.if_icmp .le 35, 3) := by decide +kernel
theorem d_Mod_escapes_132 : decode prog_10_method_31_code 132 = .ok (.aload_n 0, 1) := by decide +kernel
theorem d_Mod_escapes_133 : decode prog_10_method_31_code 133 = .ok (.aload_n 0, 1) := by decide +kernel
theorem d_Mod_escapes_134 : decode prog_10_method_31_code 134 = .ok (.getfield 51, 3) := by decide +kernel
theorem d_Mod_escapes_137 : decode prog_10_method_31_code 137 = .ok (.iload_n 1, 1) := by decide +kernel
theorem d_Mod_escapes_138 : decode prog_10_method_31_code 138 = .ok (.iaload, 1) := by decide +kernel
theorem d_Mod_escapes_139 : decode prog_10_method_31_code 139 = .ok (.aload_n 0, 1) := by decide +kernel
theorem d_Mod_escapes_140 : decode prog_10_method_31_code 140 = .ok (.getfield 17, 3) := by decide +kernel
theorem d_Mod_escapes_143 : decode prog_10_method_31_code 143 = .ok (.iload_n 1, 1) := by decide +kernel
theorem d_Mod_escapes_144 : decode prog_10_method_31_code 144 = .ok (.iaload, 1) := by decide +kernel
theorem d_Mod_escapes_145 : decode prog_10_method_31_code 145 = .ok (.iadd, 1) := by decide +kernel
theorem d_Mod_escapes_146 : decode prog_10_method_31_code 146 = .ok (.aload_n 0, 1) := by decide +kernel
theorem d_Mod_escapes_147 : decode prog_10_method_31_code 147 = .ok (.getfield 54, 3) := by decide +kernel
theorem d_Mod_escapes_150 : decode prog_10_method_31_code 150 = .ok (.iload_n 1, 1) := by decide +kernel
theorem d_Mod_escapes_151 : decode prog_10_method_31_code 151 = .ok (.iaload, 1) := by decide +kernel
theorem d_Mod_escapes_152 : decode prog_10_method_31_code 152 = .ok (.iload_n 3, 1) := by decide +kernel
theorem d_Mod_escapes_153 : decode prog_10_method_31_code 153 = .ok (.iadd, 1) := by decide +kernel
theorem d_Mod_escapes_154 : decode prog_10_method_31_code 154 = .ok (.invokevirtual 147, 3) := by decide +kernel
theorem d_Mod_escapes_157 : decode prog_10_method_31_code 157 = .ok (.aload_n 0, 1) := by decide +kernel
theorem d_Mod_escapes_158 : decode prog_10_method_31_code 158 = .ok (.getfield 47, 3) := by decide +kernel
theorem d_Mod_escapes_161 : decode prog_10_method_31_code 161 = .ok (.if_icmp .gt 7, 3) := by decide +kernel
theorem d_Mod_escapes_164 : decode prog_10_method_31_code 164 = .ok (.iconst 1, 1) := by decide +kernel
theorem d_Mod_escapes_165 : decode prog_10_method_31_code 165 = .ok (.goto 4, 3) := by decide +kernel
theorem d_Mod_escapes_168 : decode prog_10_method_31_code 168 = .ok (.iconst 0, 1) := by decide +kernel
theorem d_Mod_escapes_169 : decode prog_10_method_31_code 169 = .ok (.istore_n 2, 1) := by decide +kernel
theorem d_Mod_escapes_170 : decode prog_10_method_31_code 170 = .ok (.iinc 3 1, 3) := by decide +kernel
theorem d_Mod_escapes_173 : decode prog_10_method_31_code 173 = .ok (.goto (-82), 3) := by decide +kernel
theorem d_Mod_escapes_176 : decode prog_10_method_31_code 176 = .ok (.iload_n 2, 1) := by decide +kernel
theorem d_Mod_escapes_177 : decode prog_10_method_31_code 177 = .ok (.ireturn, 1) := by decide +kernel
theorem d_Mod_exit_0 : decode prog_10_method_18_code 0 = .ok (.aload_n 0, 1) := by decide +kernel
theorem d_Mod_exit_1 : decode prog_10_method_18_code 1 = .ok (.iload_n 1, 1) := by decide +kernel
theorem d_Mod_exit_2 : decode prog_10_method_18_code 2 = .ok (.iload_n 2, 1) := by decide +kernel
theorem d_Mod_exit_3 : decode prog_10_method_18_code 3 = .ok (.invokevirtual 102, 3) := by decide +kernel
theorem d_Mod_exit_6 : decode prog_10_method_18_code 6 = .ok (.ifCond .ne 7, 3) := by decide +kernel
theorem d_Mod_exit_9 : decode prog_10_method_18_code 9 = .ok (.iconst 1, 1) := by decide +kernel
theorem d_Mod_exit_10 : decode prog_10_method_18_code 10 = .ok (.goto 4, 3) := by decide +kernel
theorem d_Mod_exit_13 : decode prog_10_method_18_code 13 = .ok (.iconst 0, 1) := by decide +kernel
theorem d_Mod_exit_14 : decode prog_10_method_18_code 14 = .ok (.istore_n 3, 1) := by decide +kernel
theorem d_Mod_exit_15 : decode prog_10_method_18_code 15 = .ok (.aload_n 0, 1) := by decide +kernel
theorem d_Mod_exit_16 : decode prog_10_method_18_code 16 = .ok (.iload_n 3, 1) := by decide +kernel
theorem d_Mod_exit_17 : decode prog_10_method_18_code 17 = .ok (.aload_n 0, 1) := by decide +kernel
theorem d_Mod_exit_18 : decode prog_10_method_18_code 18 = .ok (.getfield 96, 3) := by decide +kernel
theorem d_Mod_exit_21 : decode prog_10_method_18_code 21 = .ok (.bipush 6, 2) := by decide +kernel
theorem d_Mod_exit_23 : decode prog_10_method_18_code 23 = .ok (.if_icmp .ne 7, 3) := by decide +kernel
