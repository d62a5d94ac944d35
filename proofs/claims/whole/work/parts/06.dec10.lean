theorem d_Mod_isPlace_1 : decode prog_10_method_10_code 1 = .ok (.istore_n 3, 1) := by decide +kernel
theorem d_Mod_isPlace_2 : decode prog_10_method_10_code 2 = .ok (.iconst 0, 1) := by decide +kernel
theorem d_Mod_isPlace_3 : decode prog_10_method_10_code 3 = .ok (.istore 4, 2) := by decide +kernel
theorem d_Mod_isPlace_5 : decode prog_10_method_10_code 5 = .ok (.iload 4, 2) := by decide +kernel
theorem d_Mod_isPlace_7 : decode prog_10_method_10_code 7 = .ok (.aload_n 0, 1) := by decide +kernel
theorem d_Mod_isPlace_8 : decode prog_10_method_10_code 8 = .ok (.getfield 99, 3) := by decide +kernel
theorem d_Mod_isPlace_11 : decode prog_10_method_10_code 11 = .ok (.if_icmp .ge 41, 3) := by decide +kernel
theorem d_Mod_isPlace_14 : decode prog_10_method_10_code 14 = .ok (.iload_n 3, 1) := by decide +kernel
theorem d_Mod_isPlace_15 : decode prog_10_method_10_code 15 = .ok (.ifCond .ne 25, 3) := by decide +kernel
theorem d_Mod_isPlace_18 : decode prog_10_method_10_code 18 = .ok (.aload_n 0, 1) := by decide +kernel
theorem d_Mod_isPlace_19 : decode prog_10_method_10_code 19 = .ok (.getfield 32, 3) := by decide +kernel
theorem d_Mod_isPlace_22 : decode prog_10_method_10_code 22 = .ok (.iload 4, 2) := by decide +kernel
theorem d_Mod_isPlace_24 : decode prog_10_method_10_code 24 = .ok (.iaload, 1) := by decide +kernel
theorem d_Mod_isPlace_25 : decode prog_10_method_10_code 25 = .ok (.iload_n 1, 1) := by decide +kernel
theorem d_Mod_isPlace_26 : decode prog_10_method_10_code 26 = .ok (.if_icmp .ne 18, 3) := by decide +kernel
theorem d_Mod_isPlace_29 : decode prog_10_method_10_code 29 = .ok (.aload_n 0, 1) := by decide +kernel
theorem d_Mod_isPlace_30 : decode prog_10_method_10_code 30 = .ok (.getfield 35, 3) := by decide +kernel
theorem d_Mod_isPlace_33 : decode prog_10_method_10_code 33 = .ok (.iload 4, 2) := by decide +kernel
theorem d_Mod_isPlace_35 : decode prog_10_method_10_code 35 = .ok (.iaload, 1) := by decide +kernel
theorem d_Mod_isPlace_36 : decode prog_10_method_10_code 36 = .ok (.iload_n 2, 1) := by decide +kernel
theorem d_Mod_isPlace_37 : decode prog_10_method_10_code 37 = .ok (.if_icmp .ne 7, 3) := by decide +kernel
theorem d_Mod_isPlace_40 : decode prog_10_method_10_code 40 = .ok (.iconst 1, 1) := by decide +kernel
theorem d_Mod_isPlace_41 : decode prog_10_method_10_code 41 = .ok (.goto 4, 3) := by decide +kernel
theorem d_Mod_isPlace_44 : decode prog_10_method_10_code 44 = .ok (.iconst 0, 1) := by decide +kernel
theorem d_Mod_isPlace_45 : decode prog_10_method_10_code 45 = .ok (.istore_n 3, 1) := by decide +kernel
theorem d_Mod_isPlace_46 : decode prog_10_method_10_code 46 = .ok (.iinc 4 1, 3) := by decide +kernel
theorem d_Mod_isPlace_49 : decode prog_10_method_10_code 49 = .ok (.goto (-44), 3) := by decide +kernel
theorem d_Mod_isPlace_52 : decode prog_10_method_10_code 52 = .ok (.iload_n 3, 1) := by decide +kernel
theorem d_Mod_isPlace_53 : decode prog_10_method_10_code 53 = .ok (.ireturn, 1) := by decide +kernel
theorem d_Mod_isSeen_0 : decode prog_10_method_27_code 0 = .ok (.iconst 2, 1) := by decide +kernel
theorem d_Mod_isSeen_1 : decode prog_10_method_27_code 1 = .ok (.aload_n 0, 1) := by decide +kernel
theorem d_Mod_isSeen_2 : decode prog_10_method_27_code 2 = .ok (.getfield 32, 3) := by decide +kernel
theorem d_Mod_isSeen_5 : decode prog_10_method_27_code 5 = .ok (.iload_n 1, 1) := by decide +kernel
theorem d_Mod_isSeen_6 : decode prog_10_method_27_code 6 = .ok (.iaload, 1) := by decide +kernel
theorem d_Mod_isSeen_7 : decode prog_10_method_27_code 7 = .ok (.imul, 1) := by decide +kernel
theorem d_Mod_isSeen_8 : decode prog_10_method_27_code 8 = .ok (.iconst 1, 1) := by decide +kernel
theorem d_Mod_isSeen_9 : decode prog_10_method_27_code 9 = .ok (.iadd, 1) := by decide +kernel
theorem d_Mod_isSeen_10 : decode prog_10_method_27_code 10 = .ok (.istore_n 3, 1) := by decide +kernel
theorem d_Mod_isSeen_11 : decode prog_10_method_27_code 11 = .ok (.iconst 2, 1) := by decide +kernel
theorem d_Mod_isSeen_12 : decode prog_10_method_27_code 12 = .ok (.aload_n 0, 1) := by decide +kernel
theorem d_Mod_isSeen_13 : decode prog_10_method_27_code 13 = .ok (.getfield 35, 3) := by decide +kernel
theorem d_Mod_isSeen_16 : decode prog_10_method_27_code 16 = .ok (.iload_n 1, 1) := by decide +kernel
theorem d_Mod_isSeen_17 : decode prog_10_method_27_code 17 = .ok (.iaload, 1) := by decide +kernel
theorem d_Mod_isSeen_18 : decode prog_10_method_27_code 18 = .ok (.imul, 1) := by decide +kernel
theorem d_Mod_isSeen_19 : decode prog_10_method_27_code 19 = .ok (.iconst 1, 1) := by decide +kernel
theorem d_Mod_isSeen_20 : decode prog_10_method_27_code 20 = .ok (.iadd, 1) := by decide +kernel
theorem d_Mod_isSeen_21 : decode prog_10_method_27_code 21 = .ok (.istore 4, 2) := by decide +kernel
theorem d_Mod_isSeen_23 : decode prog_10_method_27_code 23 = .ok (.iconst 2, 1) := by decide +kernel
theorem d_Mod_isSeen_24 : decode prog_10_method_27_code 24 = .ok (.aload_n 0, 1) := by decide +kernel
theorem d_Mod_isSeen_25 : decode prog_10_method_27_code 25 = .ok (.getfield 51, 3) := by decide +kernel
theorem d_Mod_isSeen_28 : decode prog_10_method_27_code 28 = .ok (.iload_n 2, 1) := by decide +kernel
theorem d_Mod_isSeen_29 : decode prog_10_method_27_code 29 = .ok (.iaload, 1) := by decide +kernel
theorem d_Mod_isSeen_30 : decode prog_10_method_27_code 30 = .ok (.imul, 1) := by decide +kernel
theorem d_Mod_isSeen_31 : decode prog_10_method_27_code 31 = .ok (.iconst 1, 1) := by decide +kernel
theorem d_Mod_isSeen_32 : decode prog_10_method_27_code 32 = .ok (.iadd, 1) := by decide +kernel
theorem d_Mod_isSeen_33 : decode prog_10_method_27_code 33 = .ok (.istore 5, 2) := by decide +kernel
theorem d_Mod_isSeen_35 : decode prog_10_method_27_code 35 = .ok (.iconst 2, 1) := by decide +kernel
theorem d_Mod_isSeen_36 : decode prog_10_method_27_code 36 = .ok (.aload_n 0, 1) := by decide +kernel
theorem d_Mod_isSeen_37 : decode prog_10_method_27_code 37 = .ok (.getfield 54, 3) := by decide +kernel
theorem d_Mod_isSeen_40 : decode prog_10_method_27_code 40 = .ok (.iload_n 2, 1) := by decide +kernel
theorem d_Mod_isSeen_41 : decode prog_10_method_27_code 41 = .ok (.iaload, 1) := by decide +kernel
theorem d_Mod_isSeen_42 : decode prog_10_method_27_code 42 = .ok (.imul, 1) := by decide +kernel
theorem d_Mod_isSeen_43 : decode prog_10_method_27_code 43 = .ok (.iconst 1, 1) := by decide +kernel
theorem d_Mod_isSeen_44 : decode prog_10_method_27_code 44 = .ok (.iadd, 1) := by decide +kernel
theorem d_Mod_isSeen_45 : decode prog_10_method_27_code 45 = .ok (.istore 6, 2) := by decide +kernel
theorem d_Mod_isSeen_47 : decode prog_10_method_27_code 47 = .ok (.iconst 1, 1) := by decide +kernel
theorem d_Mod_isSeen_48 : decode prog_10_method_27_code 48 = .ok (.istore 7, 2) := by decide +kernel
theorem d_Mod_isSeen_50 : decode prog_10_method_27_code 50 = .ok (.iconst 0, 1) := by decide +kernel
theorem d_Mod_isSeen_51 : decode prog_10_method_27_code 51 = .ok (.istore 8, 2) := by decide +kernel
theorem d_Mod_isSeen_53 : decode prog_10_method_27_code 53 = .ok (.iload 8, 2) := by decide +kernel
theorem d_Mod_isSeen_55 : decode prog_10_method_27_code 55 = .ok (.aload_n 0, 1) := by decide +kernel
theorem d_Mod_isSeen_56 : decode prog_10_method_27_code 56 = .ok (.getfield 73, 3) := by decide +kernel
theorem d_Mod_isSeen_59 : decode prog_10_method_27_code 59 = .ok (.aload_n 0, 1) := by decide +kernel
theorem d_Mod_isSeen_60 : decode prog_10_method_27_code 60 = .ok (.getfield 76, 3) := by decide +kernel
theorem d_Mod_isSeen_63 : decode prog_10_method_27_code 63 = .ok (.imul, 1) := by decide +kernel
theorem d_Mod_isSeen_64 : decode prog_10_method_27_code 64 = .ok (.if_icmp .ge 125, 3) := by decide +kernel
theorem d_Mod_isSeen_67 : decode prog_10_method_27_code 67 = .ok (.iload 7, 2) := by decide +kernel
theorem d_Mod_isSeen_69 : decode prog_10_method_27_code 69 = .ok (.ifCond .eq 120, 3) := by decide +kernel
theorem d_Mod_isSeen_72 : decode prog_10_method_27_code 72 = .ok (.iload 8, 2) := by decide +kernel
theorem d_Mod_isSeen_74 : decode prog_10_method_27_code 74 = .ok (.aload_n 0, 1) := by decide +kernel
theorem d_Mod_isSeen_75 : decode prog_10_method_27_code 75 = .ok (.getfield 73, 3) := by decide +kernel
theorem d_Mod_isSeen_78 : decode prog_10_method_27_code 78 = .ok (.irem, 1) := by decide +kernel
theorem d_Mod_isSeen_79 : decode prog_10_method_27_code 79 = .ok (.istore 9, 2) := by decide +kernel
theorem d_Mod_isSeen_81 : decode prog_10_method_27_code 81 = .ok (.iload 8, 2) := by decide +kernel
theorem d_Mod_isSeen_83 : decode prog_10_method_27_code 83 = .ok (.aload_n 0, 1) := by decide +kernel
theorem d_Mod_isSeen_84 : decode prog_10_method_27_code 84 = .ok (.getfield 73, 3) := by decide +kernel
theorem d_Mod_isSeen_87 : decode prog_10_method_27_code 87 = .ok (.idiv, 1) := by decide +kernel
theorem d_Mod_isSeen_88 : decode prog_10_method_27_code 88 = .ok (.istore 10, 2) := by decide +kernel
theorem d_Mod_isSeen_90 : decode prog_10_method_27_code 90 = .ok (.aload_n 0, 1) := by decide +kernel
theorem d_Mod_isSeen_91 : decode prog_10_method_27_code 91 = .ok (.getfield 7, 3) := by decide +kernel
theorem d_Mod_isSeen_94 : decode prog_10_method_27_code 94 = .ok (.bipush 9, 2) := by decide +kernel
theorem d_Mod_isSeen_96 : decode prog_10_method_27_code 96 = .ok (.iload 10, 2) := by decide +kernel
theorem d_Mod_isSeen_98 : decode prog_10_method_27_code 98 = .ok (.imul, 1) := by decide +kernel
theorem d_Mod_isSeen_99 : decode prog_10_method_27_code 99 = .ok (.iload 9, 2) := by decide +kernel
theorem d_Mod_isSeen_101 : decode prog_10_method_27_code 101 = .ok (.iadd, 1) := by decide +kernel
theorem d_Mod_isSeen_102 : decode prog_10_method_27_code 102 = .ok (.baload, 1) := by decide +kernel
theorem d_Mod_isSeen_103 : decode prog_10_method_27_code 103 = .ok (.istore 11, 2) := by decide +kernel
theorem d_Mod_isSeen_105 : decode prog_10_method_27_code 105 = .ok (.iconst 0, 1) := by decide +kernel
theorem d_Mod_isSeen_106 : decode prog_10_method_27_code 106 = .ok (.istore 12, 2) := by decide +kernel
theorem d_Mod_isSeen_108 : decode prog_10_method_27_code 108 = .ok (.iload 12, 2) := by decide +kernel
theorem d_Mod_isSeen_110 : decode prog_10_method_27_code 110 = .ok (.aload_n 0, 1) := by decide +kernel
theorem d_Mod_isSeen_111 : decode prog_10_method_27_code 111 = .ok (.getfield 86, 3) := by decide +kernel
theorem d_Mod_isSeen_114 : decode prog_10_method_27_code 114 = .ok (.if_icmp .ge 40, 3) := by decide +kernel
theorem d_Mod_isSeen_117 : decode prog_10_method_27_code 117 = .ok (.iload 11, 2) := by decide +kernel
theorem d_Mod_isSeen_119 : decode prog_10_method_27_code 119 = .ok (.ifCond .ne 22, 3) := by decide +kernel
theorem d_Mod_isSeen_122 : decode prog_10_method_27_code 122 = .ok (.iload 12, 2) := by decide +kernel
theorem d_Mod_isSeen_124 : decode prog_10_method_27_code 124 = .ok (.iload_n 2, 1) := by decide +kernel
theorem d_Mod_isSeen_125 : decode prog_10_method_27_code 125 = .ok (.if_icmp .eq 20, 3) := by decide +kernel
theorem d_Mod_isSeen_128 : decode prog_10_method_27_code 128 = .ok (.aload_n 0, 1) := by decide +kernel
theorem d_Mod_isSeen_129 : decode prog_10_method_27_code 129 = .ok (.iload 12, 2) := by decide +kernel
theorem d_Mod_isSeen_131 : decode prog_10_method_27_code 131 = .ok (.iload 9, 2) := by decide +kernel
theorem d_Mod_isSeen_133 : decode prog_10_method_27_code 133 = .ok (.iload 10, 2) := by decide +kernel
theorem d_Mod_isSeen_135 : decode prog_10_method_27_code 135 = .ok (.invokevirtual 137, 3) := by decide +kernel
theorem d_Mod_isSeen_138 : decode prog_10_method_27_code 138 = .ok (.ifCond .eq 7, 3) := by decide +kernel
theorem d_Mod_isSeen_141 : decode prog_10_method_27_code 141 = .ok (.iconst 1, 1) := by decide +kernel
theorem d_Mod_isSeen_142 : decode prog_10_method_27_code 142 = .ok (.goto 4, 3) := by decide +kernel
theorem d_Mod_isSeen_145 : decode prog_10_method_27_code 145 = .ok (.iconst 0, 1) := by decide +kernel
theorem d_Mod_isSeen_146 : decode prog_10_method_27_code 146 = .ok (.istore 11, 2) := by decide +kernel
theorem d_Mod_isSeen_148 : decode prog_10_method_27_code 148 = .ok (.iinc 12 1, 3) := by decide +kernel
theorem d_Mod_isSeen_151 : decode prog_10_method_27_code 151 = .ok (.goto (-43), 3) := by decide +kernel
theorem d_Mod_isSeen_154 : decode prog_10_method_27_code 154 = .ok (.iload 11, 2) := by decide +kernel
theorem d_Mod_isSeen_156 : decode prog_10_method_27_code 156 = .ok (.ifCond .eq 20, 3) := by decide +kernel
theorem d_Mod_isSeen_159 : decode prog_10_method_27_code 159 = .ok (.iload_n 3, 1) := by decide +kernel
theorem d_Mod_isSeen_160 : decode prog_10_method_27_code 160 = .ok (.iload 4, 2) := by decide +kernel
theorem d_Mod_isSeen_162 : decode prog_10_method_27_code 162 = .ok (.iload 5, 2) := by decide +kernel
theorem d_Mod_isSeen_164 : decode prog_10_method_27_code 164 = .ok (.iload 6, 2) := by decide +kernel
theorem d_Mod_isSeen_166 : decode prog_10_method_27_code 166 = .ok (.iload 9, 2) := by decide +kernel
theorem d_Mod_isSeen_168 : decode prog_10_method_27_code 168 = .ok (.iload 10, 2) := by decide +kernel
theorem d_Mod_isSeen_170 : decode prog_10_method_27_code 170 = .ok (.invokestatic 140, 3) := by decide +kernel
theorem d_Mod_isSeen_173 : decode prog_10_method_27_code 173 = .ok (.ifCond .ne 7, 3) := by decide +kernel
theorem d_Mod_isSeen_176 : decode prog_10_method_27_code 176 = .ok (.iconst 1, 1) := by decide +kernel
theorem d_Mod_isSeen_177 : decode prog_10_method_27_code 177 = .ok (.goto 4, 3) := by decide +kernel
theorem d_Mod_isSeen_180 : decode prog_10_method_27_code 180 = .ok (.iconst 0, 1) := by decide +kernel
theorem d_Mod_isSeen_181 : decode prog_10_method_27_code 181 = .ok (.istore 7, 2) := by decide +kernel
theorem d_Mod_isSeen_183 : decode prog_10_method_27_code 183 = .ok (.iinc 8 1, 3) := by decide +kernel
theorem d_Mod_isSeen_186 : decode prog_10_method_27_code 186 = .ok (.goto (-133), 3) := by decide +kernel
theorem d_Mod_isSeen_189 : decode prog_10_method_27_code 189 = .ok (.iload 7, 2) := by decide +kernel
theorem d_Mod_isSeen_191 : decode prog_10_method_27_code 191 = .ok (.ireturn, 1) := by decide +kernel
theorem d_Mod_isThing_0 : decode prog_10_method_7_code 0 = .ok (.iload_n 1, 1) := by decide +kernel
theorem d_Mod_isThing_1 : decode prog_10_method_7_code 1 = .ok (.iconst 0, 1) := by decide +kernel
theorem d_Mod_isThing_2 : decode prog_10_method_7_code 2 = .ok (.aload_n 0, 1) := by decide +kernel
theorem d_Mod_isThing_3 : decode prog_10_method_7_code 3 = .ok (.getfield 86, 3) := by decide +kernel
theorem d_Mod_isThing_6 : decode prog_10_method_7_code 6 = .ok (.iconst 1, 1) := by decide +kernel
theorem d_Mod_isThing_7 : decode prog_10_method_7_code 7 = .ok (.isub, 1) := by decide +kernel
theorem d_Mod_isThing_8 : decode prog_10_method_7_code 8 = .ok (.invokestatic 82, 3) := by decide +kernel
theorem d_Mod_isThing_11 : decode prog_10_method_7_code 11 = .ok (.ireturn, 1) := by decide +kernel
theorem d_Mod_keep_0 : decode prog_10_method_34_code 0 = .ok (.aload_n 0, 1) := by decide +kernel
theorem d_Mod_keep_1 : decode prog_10_method_34_code 1 = .ok (.invokevirtual 159, 3) := by decide +kernel
theorem d_Mod_keep_4 : decode prog_10_method_34_code 4 = .ok (.istore_n 1, 1) := by decide +kernel
theorem d_Mod_keep_5 : decode prog_10_method_34_code 5 = .ok (.aload_n 0, 1) := by decide +kernel
theorem d_Mod_keep_6 : decode prog_10_method_34_code 6 = .ok (.getfield 89, 3) := by decide +kernel
theorem d_Mod_keep_9 : decode prog_10_method_34_code 9 = .ok (.ifCond .eq 12, 3) := by decide +kernel
theorem d_Mod_keep_12 : decode prog_10_method_34_code 12 = .ok (.iload_n 1, 1) := by decide +kernel
theorem d_Mod_keep_13 : decode prog_10_method_34_code 13 = .ok (.aload_n 0, 1) := by decide +kernel
theorem d_Mod_keep_14 : decode prog_10_method_34_code 14 = .ok (.getfield 163, 3) := by decide +kernel
theorem d_Mod_keep_17 : decode prog_10_method_34_code 17 = .ok (.if_icmp .gt 4, 3) := by decide +kernel
theorem d_Mod_keep_20 : decode prog_10_method_34_code 20 = .ok (.return_, 1) := by decide +kernel
theorem d_Mod_keep_21 : decode prog_10_method_34_code 21 = .ok (.aload_n 0, 1) := by decide +kernel
theorem d_Mod_keep_22 : decode prog_10_method_34_code 22 = .ok (.iconst 1, 1) := by decide +kernel
theorem d_Mod_keep_23 : decode prog_10_method_34_code 23 = .ok (.putfield 89, 3) := by decide +kernel
theorem d_Mod_keep_26 : decode prog_10_method_34_code 26 = .ok (.aload_n 0, 1) := by decide +kernel
theorem d_Mod_keep_27 : decode prog_10_method_34_code 27 = .ok (.iload_n 1, 1) := by decide +kernel
theorem d_Mod_keep_28 : decode prog_10_method_34_code 28 = .ok (.putfield 163, 3) := by decide +kernel
theorem d_Mod_keep_31 : decode prog_10_method_34_code 31 = .ok (.iconst 0, 1) := by decide +kernel
theorem d_Mod_keep_32 : decode prog_10_method_34_code 32 = .ok (.istore_n 2, 1) := by decide +kernel
theorem d_Mod_keep_33 : decode prog_10_method_34_code 33 = .ok (.iload_n 2, 1) := by decide +kernel
theorem d_Mod_keep_34 : decode prog_10_method_34_code 34 = .ok (.aload_n 0, 1) := by decide +kernel
theorem d_Mod_keep_35 : decode prog_10_method_34_code 35 = .ok (.getfield 86, 3) := by decide +kernel
theorem d_Mod_keep_38 : decode prog_10_method_34_code 38 = .ok (.if_icmp .ge 33, 3) := by decide +kernel
theorem d_Mod_keep_41 : decode prog_10_method_34_code 41 = .ok (.aload_n 0, 1) := by decide +kernel
theorem d_Mod_keep_42 : decode prog_10_method_34_code 42 = .ok (.getfield 60, 3) := by decide +kernel
theorem d_Mod_keep_45 : decode prog_10_method_34_code 45 = .ok (.iload_n 2, 1) := by decide +kernel
theorem d_Mod_keep_46 : decode prog_10_method_34_code 46 = .ok (.aload_n 0, 1) := by decide +kernel
theorem d_Mod_keep_47 : decode prog_10_method_34_code 47 = .ok (.getfield 51, 3) := by decide +kernel
theorem d_Mod_keep_50 : decode prog_10_method_34_code 50 = .ok (.iload_n 2, 1) := by decide +kernel
theorem d_Mod_keep_51 : decode prog_10_method_34_code 51 = .ok (.iaload, 1) := by decide +kernel
theorem d_Mod_keep_52 : decode prog_10_method_34_code 52 = .ok (.iastore, 1) := by decide +kernel
theorem d_Mod_keep_53 : decode prog_10_method_34_code 53 = .ok (.aload_n 0, 1) := by decide +kernel
theorem d_Mod_keep_54 : decode prog_10_method_34_code 54 = .ok (.getfield 63, 3) := by decide +kernel
theorem d_Mod_keep_57 : decode prog_10_method_34_code 57 = .ok (.iload_n 2, 1) := by decide +kernel
theorem d_Mod_keep_58 : decode prog_10_method_34_code 58 = .ok (.aload_n 0, 1) := by decide +kernel
theorem d_Mod_keep_59 : decode prog_10_method_34_code 59 = .ok (.getfield 54, 3) := by decide +kernel
theorem d_Mod_keep_62 : decode prog_10_method_34_code 62 = .ok (.iload_n 2, 1) := by decide +kernel
theorem d_Mod_keep_63 : decode prog_10_method_34_code 63 = .ok (.iaload, 1) := by decide +kernel
theorem d_Mod_keep_64 : decode prog_10_method_34_code 64 = .ok (.iastore, 1) := by decide +kernel
theorem d_Mod_keep_65 : decode prog_10_method_34_code 65 = .ok (.iinc 2 1, 3) := by decide +kernel
theorem d_Mod_keep_68 : decode prog_10_method_34_code 68 = .ok (.goto (-35), 3) := by decide +kernel
theorem d_Mod_keep_71 : decode prog_10_method_34_code 71 = .ok (.return_, 1) := by decide +kernel
theorem d_Mod_layBest_0 : decode prog_10_method_38_code 0 = .ok (.iconst 0, 1) := by decide +kernel
theorem d_Mod_layBest_1 : decode prog_10_method_38_code 1 = .ok (.istore_n 1, 1) := by decide +kernel
theorem d_Mod_layBest_2 : decode prog_10_method_38_code 2 = .ok (.iload_n 1, 1) := by decide +kernel
theorem d_Mod_layBest_3 : decode prog_10_method_38_code 3 = .ok (.aload_n 0, 1) := by decide +kernel
theorem d_Mod_layBest_4 : decode prog_10_method_38_code 4 = .ok (.getfield 86, 3) := by decide +kernel
theorem d_Mod_layBest_7 : decode prog_10_method_38_code 7 = .ok (.if_icmp .ge 33, 3) := by decide +kernel
theorem d_Mod_layBest_10 : decode prog_10_method_38_code 10 = .ok (.aload_n 0, 1) := by decide +kernel
theorem d_Mod_layBest_11 : decode prog_10_method_38_code 11 = .ok (.getfield 51, 3) := by decide +kernel
theorem d_Mod_layBest_14 : decode prog_10_method_38_code 14 = .ok (.iload_n 1, 1) := by decide +kernel
theorem d_Mod_layBest_15 : decode prog_10_method_38_code 15 = .ok (.aload_n 0, 1) := by decide +kernel
theorem d_Mod_layBest_16 : decode prog_10_method_38_code 16 = .ok (.getfield 60, 3) := by decide +kernel
theorem d_Mod_layBest_19 : decode prog_10_method_38_code 19 = .ok (.iload_n 1, 1) := by decide +kernel
theorem d_Mod_layBest_20 : decode prog_10_method_38_code 20 = .ok (.iaload, 1) := by decide +kernel
theorem d_Mod_layBest_21 : decode prog_10_method_38_code 21 = .ok (.iastore, 1) := by decide +kernel
theorem d_Mod_layBest_22 : decode prog_10_method_38_code 22 = .ok (.aload_n 0, 1) := by decide +kernel
theorem d_Mod_layBest_23 : decode prog_10_method_38_code 23 = .ok (.getfield 54, 3) := by decide +kernel
theorem d_Mod_layBest_26 : decode prog_10_method_38_code 26 = .ok (.iload_n 1, 1) := by decide +kernel
theorem d_Mod_layBest_27 : decode prog_10_method_38_code 27 = .ok (.aload_n 0, 1) := by decide +kernel
theorem d_Mod_layBest_28 : decode prog_10_method_38_code 28 = .ok (.getfield 63, 3) := by decide +kernel
theorem d_Mod_layBest_31 : decode prog_10_method_38_code 31 = .ok (.iload_n 1, 1) := by decide +kernel
theorem d_Mod_layBest_32 : decode prog_10_method_38_code 32 = .ok (.iaload, 1) := by decide +kernel
theorem d_Mod_layBest_33 : decode prog_10_method_38_code 33 = .ok (.iastore, 1) := by decide +kernel
theorem d_Mod_layBest_34 : decode prog_10_method_38_code 34 = .ok (.iinc 1 1, 3) := by decide +kernel
theorem d_Mod_layBest_37 : decode prog_10_method_38_code 37 = .ok (.goto (-35), 3) := by decide +kernel
theorem d_Mod_layBest_40 : decode prog_10_method_38_code 40 = .ok (.return_, 1) := by decide +kernel
theorem d_Mod_lies_0 : decode prog_10_method_24_code 0 = .ok (.aload_n 0, 1) := by decide +kernel
theorem d_Mod_lies_1 : decode prog_10_method_24_code 1 = .ok (.getfield 51, 3) := by decide +kernel
theorem d_Mod_lies_4 : decode prog_10_method_24_code 4 = .ok (.iload_n 1, 1) := by decide +kernel
theorem d_Mod_lies_5 : decode prog_10_method_24_code 5 = .ok (.iaload, 1) := by decide +kernel
theorem d_Mod_lies_6 : decode prog_10_method_24_code 6 = .ok (.aload_n 0, 1) := by decide +kernel
theorem d_Mod_lies_7 : decode prog_10_method_24_code 7 = .ok (.getfield 17, 3) := by decide +kernel
theorem d_Mod_lies_10 : decode prog_10_method_24_code 10 = .ok (.iload_n 1, 1) := by decide +kernel
theorem d_Mod_lies_11 : decode prog_10_method_24_code 11 = .ok (.iaload, 1) := by decide +kernel
theorem d_Mod_lies_12 : decode prog_10_method_24_code 12 = .ok (.iadd, 1) := by decide +kernel
theorem d_Mod_lies_13 : decode prog_10_method_24_code 13 = .ok (.aload_n 0, 1) := by decide +kernel
theorem d_Mod_lies_14 : decode prog_10_method_24_code 14 = .ok (.getfield 73, 3) := by decide +kernel
theorem d_Mod_lies_17 : decode prog_10_method_24_code 17 = .ok (.if_icmp .gt 23, 3) := by decide +kernel
theorem d_Mod_lies_20 : decode prog_10_method_24_code 20 = .ok (.aload_n 0, 1) := by decide +kernel
theorem d_Mod_lies_21 : decode prog_10_method_24_code 21 = .ok (.getfield 54, 3) := by decide +kernel
theorem d_Mod_lies_24 : decode prog_10_method_24_code 24 = .ok (.iload_n 1, 1) := by decide +kernel
theorem d_Mod_lies_25 : decode prog_10_method_24_code 25 = .ok (.iaload, 1) := by decide +kernel
theorem d_Mod_lies_26 : decode prog_10_method_24_code 26 = .ok (.aload_n 0, 1) := by decide +kernel
theorem d_Mod_lies_27 : decode prog_10_method_24_code 27 = .ok (.getfield 20, 3) := by decide +kernel
theorem d_Mod_lies_30 : decode prog_10_method_24_code 30 = .ok (.iload_n 1, 1) := by decide +kernel
theorem d_Mod_lies_31 : decode prog_10_method_24_code 31 = .ok (.iaload, 1) := by decide +kernel
theorem d_Mod_lies_32 : decode prog_10_method_24_code 32 = .ok (.iadd, 1) := by decide +kernel
theorem d_Mod_lies_33 : decode prog_10_method_24_code 33 = .ok (.aload_n 0, 1) := by decide +kernel
theorem d_Mod_lies_34 : decode prog_10_method_24_code 34 = .ok (.getfield 76, 3) := by decide +kernel
theorem d_Mod_lies_37 : decode prog_10_method_24_code 37 = .ok (.if_icmp .le 5, 3) := by decide +kernel
theorem d_Mod_lies_40 : decode prog_10_method_24_code 40 = .ok (.iconst 0, 1) := by decide +kernel
theorem d_Mod_lies_41 : decode prog_10_method_24_code 41 = .ok (.ireturn, 1) := by decide +kernel
theorem d_Mod_lies_42 : decode prog_10_method_24_code 42 = .ok (.iconst 1, 1) := by decide +kernel
theorem d_Mod_lies_43 : decode prog_10_method_24_code 43 = .ok (.istore_n 2, 1) := by decide +kernel
theorem d_Mod_lies_44 : decode prog_10_method_24_code 44 = .ok (.iconst 0, 1) := by decide +kernel
theorem d_Mod_lies_45 : decode prog_10_method_24_code 45 = .ok (.istore_n 3, 1) := by decide +kernel
theorem d_Mod_lies_46 : decode prog_10_method_24_code 46 = .ok (.iload_n 3, 1) := by decide +kernel
theorem d_Mod_lies_47 : decode prog_10_method_24_code 47 = .ok (.aload_n 0, 1) := by decide +kernel
theorem d_Mod_lies_48 : decode prog_10_method_24_code 48 = .ok (.getfield 17, 3) := by decide +kernel
theorem d_Mod_lies_51 : decode prog_10_method_24_code 51 = .ok (.iload_n 1, 1) := by decide +kernel
theorem d_Mod_lies_52 : decode prog_10_method_24_code 52 = .ok (.iaload, 1) := by decide +kernel
theorem d_Mod_lies_53 : decode prog_10_method_24_code 53 = .ok (.aload_n 0, 1) := by decide +kernel
theorem d_Mod_lies_54 : decode prog_10_method_24_code 54 = .ok (.getfield 20, 3) := by decide +kernel
theorem d_Mod_lies_57 : decode prog_10_method_24_code 57 = .ok (.iload_n 1, 1) := by decide +kernel
theorem d_Mod_lies_58 : decode prog_10_method_24_code 58 = .ok (.iaload, 1) := by decide +kernel
theorem d_Mod_lies_59 : decode prog_10_method_24_code 59 = .ok (.imul, 1) := by decide +kernel
theorem d_Mod_lies_60 : decode prog_10_method_24_code 60 = .ok (.if_icmp .ge 90, 3) := by decide +kernel
theorem d_Mod_lies_63 : decode prog_10_method_24_code 63 = .ok (.bipush 9, 2) := by decide +kernel
theorem d_Mod_lies_65 : decode prog_10_method_24_code 65 = .ok (.aload_n 0, 1) := by decide +kernel
theorem d_Mod_lies_66 : decode prog_10_method_24_code 66 = .ok (.getfield 54, 3) := by decide +kernel
theorem d_Mod_lies_69 : decode prog_10_method_24_code 69 = .ok (.iload_n 1, 1) := by decide +kernel
theorem d_Mod_lies_70 : decode prog_10_method_24_code 70 = .ok (.iaload, 1) := by decide +kernel
theorem d_Mod_lies_71 : decode prog_10_method_24_code 71 = .ok (.iload_n 3, 1) := by decide +kernel
theorem d_Mod_lies_72 : decode prog_10_method_24_code 72 = .ok (.aload_n 0, 1) := by decide +kernel
theorem d_Mod_lies_73 : decode prog_10_method_24_code 73 = .ok (.getfield 17, 3) := by decide +kernel
theorem d_Mod_lies_76 : decode prog_10_method_24_code 76 = .ok (.iload_n 1, 1) := by decide +kernel
theorem d_Mod_lies_77 : decode prog_10_method_24_code 77 = .ok (.iaload, 1) := by decide +kernel
theorem d_Mod_lies_78 : decode prog_10_method_24_code 78 = .ok (.idiv, 1) := by decide +kernel
theorem d_Mod_lies_79 : decode prog_10_method_24_code 79 = .ok (.iadd, 1) := by decide +kernel
theorem d_Mod_lies_80 : decode prog_10_method_24_code 80 = .ok (.imul, 1) := by decide +kernel
theorem d_Mod_lies_81 : decode prog_10_method_24_code 81 = .ok (.aload_n 0, 1) := by decide +kernel
theorem d_Mod_lies_82 : decode prog_10_method_24_code 82 = .ok (.getfield 51, 3) := by decide +kernel
theorem d_Mod_lies_85 : decode prog_10_method_24_code 85 = .ok (.iload_n 1, 1) := by decide +kernel
theorem d_Mod_lies_86 : decode prog_10_method_24_code 86 = .ok (.iaload, 1) := by decide +kernel
theorem d_Mod_lies_87 : decode prog_10_method_24_code 87 = .ok (.iadd, 1) := by decide +kernel
theorem d_Mod_lies_88 : decode prog_10_method_24_code 88 = .ok (.iload_n 3, 1) := by decide +kernel
theorem d_Mod_lies_89 : decode prog_10_method_24_code 89 = .ok (.aload_n 0, 1) := by decide +kernel
theorem d_Mod_lies_90 : decode prog_10_method_24_code 90 = .ok (.getfield 17, 3) := by decide +kernel
theorem d_Mod_lies_93 : decode prog_10_method_24_code 93 = .ok (.iload_n 1, 1) := by decide +kernel
theorem d_Mod_lies_94 : decode prog_10_method_24_code 94 = .ok (.iaload, 1) := by decide +kernel
theorem d_Mod_lies_95 : decode prog_10_method_24_code 95 = .ok (.irem, 1) := by decide +kernel
theorem d_Mod_lies_96 : decode prog_10_method_24_code 96 = .ok (.iadd, 1) := by decide +kernel
theorem d_Mod_lies_97 : decode prog_10_method_24_code 97 = .ok (.istore 4, 2) := by decide +kernel
theorem d_Mod_lies_99 : decode prog_10_method_24_code 99 = .ok (.iload_n 2, 1) := by decide +kernel
theorem d_Mod_lies_100 : decode prog_10_method_24_code 100 = .ok (.ifCond .eq 42, 3) := by decide +kernel
theorem d_Mod_lies_103 : decode prog_10_method_24_code 103 = .ok (.aload_n 0, 1) := by decide +kernel
theorem d_Mod_lies_104 : decode prog_10_method_24_code 104 = .ok (.getfield 7, 3) := by decide +kernel
theorem d_Mod_lies_107 : decode prog_10_method_24_code 107 = .ok (.iload 4, 2) := by decide +kernel
theorem d_Mod_lies_109 : decode prog_10_method_24_code 109 = .ok (.baload, 1) := by decide +kernel
theorem d_Mod_lies_110 : decode prog_10_method_24_code 110 = .ok (.ifCond .ne 32, 3) := by decide +kernel
theorem d_Mod_lies_113 : decode prog_10_method_24_code 113 = .ok (.aload_n 0, 1) := by decide +kernel
theorem d_Mod_lies_114 : decode prog_10_method_24_code 114 = .ok (.getfield 23, 3) := by decide +kernel
theorem d_Mod_lies_117 : decode prog_10_method_24_code 117 = .ok (.iload_n 1, 1) := by decide +kernel
theorem d_Mod_lies_118 : decode prog_10_method_24_code 118 = .ok (.iaload, 1) := by decide +kernel
theorem d_Mod_lies_119 : decode prog_10_method_24_code 119 = .ok (.ifCond .eq 19, 3) := by decide +kernel
theorem d_Mod_lies_122 : decode prog_10_method_24_code 122 = .ok (.aload_n 0, 1) := by decide +kernel
theorem d_Mod_lies_123 : decode prog_10_method_24_code 123 = .ok (.getfield 13, 3) := by decide +kernel
theorem d_Mod_lies_126 : decode prog_10_method_24_code 126 = .ok (.iload 4, 2) := by decide +kernel
theorem d_Mod_lies_128 : decode prog_10_method_24_code 128 = .ok (.iaload, 1) := by decide +kernel
theorem d_Mod_lies_129 : decode prog_10_method_24_code 129 = .ok (.aload_n 0, 1) := by decide +kernel
theorem d_Mod_lies_130 : decode prog_10_method_24_code 130 = .ok (.getfield 23, 3) := by decide +kernel
theorem d_Mod_lies_133 : decode prog_10_method_24_code 133 = .ok (.iload_n 1, 1) := by decide +kernel
theorem d_Mod_lies_134 : decode prog_10_method_24_code 134 = .ok (.iaload, 1) := by decide +kernel
theorem d_Mod_lies_135 : decode prog_10_method_24_code 135 = .ok (.if_icmp .ne 7, 3) := by decide +kernel
theorem d_Mod_lies_138 : decode prog_10_method_24_code 138 = .ok (.iconst 1, 1) := by decide +kernel
theorem d_Mod_lies_139 : decode prog_10_method_24_code 139 = .ok (.goto 4, 3) := by decide +kernel
theorem d_Mod_lies_142 : decode prog_10_method_24_code 142 = .ok (.iconst 0, 1) := by decide +kernel
theorem d_Mod_lies_143 : decode prog_10_method_24_code 143 = .ok (.istore_n 2, 1) := by decide +kernel
theorem d_Mod_lies_144 : decode prog_10_method_24_code 144 = .ok (.iinc 3 1, 3) := by decide +kernel
theorem d_Mod_lies_147 : decode prog_10_method_24_code 147 = .ok (.goto (-101), 3) := by decide +kernel
theorem d_Mod_lies_150 : decode prog_10_method_24_code 150 = .ok (.iconst 0, 1) := by decide +kernel
theorem d_Mod_lies_151 : decode prog_10_method_24_code 151 = .ok (.istore_n 3, 1) := by decide +kernel
theorem d_Mod_lies_152 : decode prog_10_method_24_code 152 = .ok (.iload_n 3, 1) := by decide +kernel
theorem d_Mod_lies_153 : decode prog_10_method_24_code 153 = .ok (.iload_n 1, 1) := by decide +kernel
theorem d_Mod_lies_154 : decode prog_10_method_24_code 154 = .ok (.if_icmp .ge 48, 3) := by decide +kernel
theorem d_Mod_lies_157 : decode prog_10_method_24_code 157 = .ok (.iload_n 2, 1) := by decide +kernel
theorem d_Mod_lies_158 : decode prog_10_method_24_code 158 = .ok (.ifCond .eq 36, 3) := by decide +kernel
theorem d_Mod_lies_161 : decode prog_10_method_24_code 161 = .ok (.aload_n 0, 1) := by decide +kernel
theorem d_Mod_lies_162 : decode prog_10_method_24_code 162 = .ok (.iload_n 3, 1) := by decide +kernel
theorem d_Mod_lies_163 : decode prog_10_method_24_code 163 = .ok (.iload_n 1, 1) := by decide +kernel
theorem d_Mod_lies_164 : decode prog_10_method_24_code 164 = .ok (.invokevirtual 127, 3) := by decide +kernel
theorem d_Mod_lies_167 : decode prog_10_method_24_code 167 = .ok (.ifCond .ne 27, 3) := by decide +kernel
theorem d_Mod_lies_170 : decode prog_10_method_24_code 170 = .ok (.aload_n 0, 1) := by decide +kernel
theorem d_Mod_lies_171 : decode prog_10_method_24_code 171 = .ok (.iload_n 3, 1) := by decide +kernel
theorem d_Mod_lies_172 : decode prog_10_method_24_code 172 = .ok (.iload_n 1, 1) := by decide +kernel
theorem d_Mod_lies_173 : decode prog_10_method_24_code 173 = .ok (.invokevirtual 130, 3) := by decide +kernel
theorem d_Mod_lies_176 : decode prog_10_method_24_code 176 = .ok (.aload_n 0, 1) := by decide +kernel
theorem d_Mod_lies_177 : decode prog_10_method_24_code 177 = .ok (.getfield 26, 3) := by decide +kernel
theorem d_Mod_lies_180 : decode prog_10_method_24_code 180 = .ok (.bipush 7, 2) := by decide +kernel
theorem d_Mod_lies_182 : decode prog_10_method_24_code 182 = .ok (.iload_n 3, 1) := by decide +kernel
theorem d_Mod_lies_183 : decode prog_10_method_24_code 183 = .ok (.imul, 1) := by decide +kernel
theorem d_Mod_lies_184 : decode prog_10_method_24_code 184 = .ok (.iload_n 1, 1) := by decide +kernel
theorem d_Mod_lies_185 : decode prog_10_method_24_code 185 = .ok (.iadd, 1) := by decide +kernel
theorem d_Mod_lies_186 : decode prog_10_method_24_code 186 = .ok (.iaload, 1) := by decide +kernel
theorem d_Mod_lies_187 : decode prog_10_method_24_code 187 = .ok (.if_icmp .lt 7, 3) := by decide +kernel
theorem d_Mod_lies_190 : decode prog_10_method_24_code 190 = .ok (.iconst 1, 1) := by decide +kernel
theorem d_Mod_lies_191 : decode prog_10_method_24_code 191 = .ok (.goto 4, 3) := by decide +kernel
theorem d_Mod_lies_194 : decode prog_10_method_24_code 194 = .ok (.iconst 0, 1) := by decide +kernel
theorem d_Mod_lies_195 : decode prog_10_method_24_code 195 = .ok (.istore_n 2, 1) := by decide +kernel
theorem d_Mod_lies_196 : decode prog_10_method_24_code 196 = .ok (.iinc 3 1, 3) := by decide +kernel
theorem d_Mod_lies_199 : decode prog_10_method_24_code 199 = .ok (.goto (-47), 3) := by decide +kernel
theorem d_Mod_lies_202 : decode prog_10_method_24_code 202 = .ok (.iload_n 2, 1) := by decide +kernel
theorem d_Mod_lies_203 : decode prog_10_method_24_code 203 = .ok (.ireturn, 1) := by decide +kernel
theorem d_Mod_measure_0 : decode prog_10_method_30_code 0 = .ok (.iconst 0, 1) := by decide +kernel
theorem d_Mod_measure_1 : decode prog_10_method_30_code 1 = .ok (.istore_n 1, 1) := by decide +kernel
theorem d_Mod_measure_2 : decode prog_10_method_30_code 2 = .ok (.iload_n 1, 1) := by decide +kernel
theorem d_Mod_measure_3 : decode prog_10_method_30_code 3 = .ok (.bipush 81, 2) := by decide +kernel
theorem d_Mod_measure_5 : decode prog_10_method_30_code 5 = .ok (.if_icmp .ge 18, 3) := by decide +kernel
theorem d_Mod_measure_8 : decode prog_10_method_30_code 8 = .ok (.aload_n 0, 1) := by decide +kernel
theorem d_Mod_measure_9 : decode prog_10_method_30_code 9 = .ok (.getfield 66, 3) := by decide +kernel
theorem d_Mod_measure_12 : decode prog_10_method_30_code 12 = .ok (.iload_n 1, 1) := by decide +kernel
theorem d_Mod_measure_13 : decode prog_10_method_30_code 13 = .ok (.sipush 1000, 3) := by decide +kernel
theorem d_Mod_measure_16 : decode prog_10_method_30_code 16 = .ok (.iastore, 1) := by decide +kernel
theorem d_Mod_measure_17 : decode prog_10_method_30_code 17 = .ok (.iinc 1 1, 3) := by decide +kernel
theorem d_Mod_measure_20 : decode prog_10_method_30_code 20 = .ok (.goto (-18), 3) := by decide +kernel
theorem d_Mod_measure_23 : decode prog_10_method_30_code 23 = .ok (.iconst 0, 1) := by decide +kernel
theorem d_Mod_measure_24 : decode prog_10_method_30_code 24 = .ok (.istore_n 1, 1) := by decide +kernel
theorem d_Mod_measure_25 : decode prog_10_method_30_code 25 = .ok (.iload_n 1, 1) := by decide +kernel
theorem d_Mod_measure_26 : decode prog_10_method_30_code 26 = .ok (.aload_n 0, 1) := by decide +kernel
theorem d_Mod_measure_27 : decode prog_10_method_30_code 27 = .ok (.getfield 96, 3) := by decide +kernel
theorem d_Mod_measure_30 : decode prog_10_method_30_code 30 = .ok (.if_icmp .ge 50, 3) := by decide +kernel
theorem d_Mod_measure_33 : decode prog_10_method_30_code 33 = .ok (.aload_n 0, 1) := by decide +kernel
theorem d_Mod_measure_34 : decode prog_10_method_30_code 34 = .ok (.aload_n 0, 1) := by decide +kernel
theorem d_Mod_measure_35 : decode prog_10_method_30_code 35 = .ok (.getfield 41, 3) := by decide +kernel
theorem d_Mod_measure_38 : decode prog_10_method_30_code 38 = .ok (.iload_n 1, 1) := by decide +kernel
theorem d_Mod_measure_39 : decode prog_10_method_30_code 39 = .ok (.iaload, 1) := by decide +kernel
theorem d_Mod_measure_40 : decode prog_10_method_30_code 40 = .ok (.aload_n 0, 1) := by decide +kernel
theorem d_Mod_measure_41 : decode prog_10_method_30_code 41 = .ok (.getfield 44, 3) := by decide +kernel
theorem d_Mod_measure_44 : decode prog_10_method_30_code 44 = .ok (.iload_n 1, 1) := by decide +kernel
theorem d_Mod_measure_45 : decode prog_10_method_30_code 45 = .ok (.iaload, 1) := by decide +kernel
theorem d_Mod_measure_46 : decode prog_10_method_30_code 46 = .ok (.invokevirtual 144, 3) := by decide +kernel
theorem d_Mod_measure_49 : decode prog_10_method_30_code 49 = .ok (.ifCond .eq 25, 3) := by decide +kernel
theorem d_Mod_measure_52 : decode prog_10_method_30_code 52 = .ok (.aload_n 0, 1) := by decide +kernel
theorem d_Mod_measure_53 : decode prog_10_method_30_code 53 = .ok (.getfield 66, 3) := by decide +kernel
theorem d_Mod_measure_56 : decode prog_10_method_30_code 56 = .ok (.bipush 9, 2) := by decide +kernel
theorem d_Mod_measure_58 : decode prog_10_method_30_code 58 = .ok (.aload_n 0, 1) := by decide +kernel
theorem d_Mod_measure_59 : decode prog_10_method_30_code 59 = .ok (.getfield 44, 3) := by decide +kernel
theorem d_Mod_measure_62 : decode prog_10_method_30_code 62 = .ok (.iload_n 1, 1) := by decide +kernel
theorem d_Mod_measure_63 : decode prog_10_method_30_code 63 = .ok (.iaload, 1) := by decide +kernel
theorem d_Mod_measure_64 : decode prog_10_method_30_code 64 = .ok (.imul, 1) := by decide +kernel
theorem d_Mod_measure_65 : decode prog_10_method_30_code 65 = .ok (.aload_n 0, 1) := by decide +kernel
theorem d_Mod_measure_66 : decode prog_10_method_30_code 66 = .ok (.getfield 41, 3) := by decide +kernel
theorem d_Mod_measure_69 : decode prog_10_method_30_code 69 = .ok (.iload_n 1, 1) := by decide +kernel
theorem d_Mod_measure_70 : decode prog_10_method_30_code 70 = .ok (.iaload, 1) := by decide +kernel
theorem d_Mod_measure_71 : decode prog_10_method_30_code 71 = .ok (.iadd, 1) := by decide +kernel
theorem d_Mod_measure_72 : decode prog_10_method_30_code 72 = .ok (.iconst 0, 1) := by decide +kernel
theorem d_Mod_measure_73 : decode prog_10_method_30_code 73 = .ok (.iastore, 1) := by decide +kernel
theorem d_Mod_measure_74 : decode prog_10_method_30_code 74 = .ok (.iinc 1 1, 3) := by decide +kernel
theorem d_Mod_measure_77 : decode prog_10_method_30_code 77 = .ok (.goto (-52), 3) := by decide +kernel
theorem d_Mod_measure_80 : decode prog_10_method_30_code 80 = .ok (.iconst 1, 1) := by decide +kernel
theorem d_Mod_measure_81 : decode prog_10_method_30_code 81 = .ok (.istore_n 1, 1) := by decide +kernel
theorem d_Mod_measure_82 : decode prog_10_method_30_code 82 = .ok (.iload_n 1, 1) := by decide +kernel
theorem d_Mod_measure_83 : decode prog_10_method_30_code 83 = .ok (.ifCond .eq 230, 3) := by decide +kernel
theorem d_Mod_measure_86 : decode prog_10_method_30_code 86 = .ok (.iconst 0, 1) := by decide +kernel
theorem d_Mod_measure_87 : decode prog_10_method_30_code 87 = .ok (.istore_n 1, 1) := by decide +kernel
theorem d_Mod_measure_88 : decode prog_10_method_30_code 88 = .ok (.iconst 0, 1) := by decide +kernel
theorem d_Mod_measure_89 : decode prog_10_method_30_code 89 = .ok (.istore_n 2, 1) := by decide +kernel
theorem d_Mod_measure_90 : decode prog_10_method_30_code 90 = .ok (.iload_n 2, 1) := by decide +kernel
theorem d_Mod_measure_91 : decode prog_10_method_30_code 91 = .ok (.aload_n 0, 1) := by decide +kernel
theorem d_Mod_measure_92 : decode prog_10_method_30_code 92 = .ok (.getfield 73, 3) := by decide +kernel
theorem d_Mod_measure_95 : decode prog_10_method_30_code 95 = .ok (.aload_n 0, 1) := by decide +kernel
theorem d_Mod_measure_96 : decode prog_10_method_30_code 96 = .ok (.getfield 76, 3) := by decide +kernel
theorem d_Mod_measure_99 : decode prog_10_method_30_code 99 = .ok (.imul, 1) := by decide +kernel
