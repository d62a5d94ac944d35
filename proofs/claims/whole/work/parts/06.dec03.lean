theorem d_Search_allSeen_52 : decode prog_7_method_10_code 52 = .ok (.getfield 36, 3) := by decide +kernel
theorem d_Search_allSeen_55 : decode prog_7_method_10_code 55 = .ok (.getfield 156, 3) := by decide +kernel
theorem d_Search_allSeen_58 : decode prog_7_method_10_code 58 = .ok (.iload_n 1, 1) := by decide +kernel
theorem d_Search_allSeen_59 : decode prog_7_method_10_code 59 = .ok (.iaload, 1) := by decide +kernel
theorem d_Search_allSeen_60 : decode prog_7_method_10_code 60 = .ok (.aload_n 0, 1) := by decide +kernel
theorem d_Search_allSeen_61 : decode prog_7_method_10_code 61 = .ok (.getfield 36, 3) := by decide +kernel
theorem d_Search_allSeen_64 : decode prog_7_method_10_code 64 = .ok (.getfield 157, 3) := by decide +kernel
theorem d_Search_allSeen_67 : decode prog_7_method_10_code 67 = .ok (.iload_n 1, 1) := by decide +kernel
theorem d_Search_allSeen_68 : decode prog_7_method_10_code 68 = .ok (.iaload, 1) := by decide +kernel
theorem d_Search_allSeen_69 : decode prog_7_method_10_code 69 = .ok (.invokevirtual 158, 3) := by decide +kernel
theorem d_Search_allSeen_72 : decode prog_7_method_10_code 72 = .ok (.ifCond .ne 5, 3) := by decide +kernel
theorem d_Search_allSeen_75 : decode prog_7_method_10_code 75 = .ok (.iconst 0, 1) := by decide +kernel
theorem d_Search_allSeen_76 : decode prog_7_method_10_code 76 = .ok (.ireturn, 1) := by decide +kernel
theorem d_Search_allSeen_77 : decode prog_7_method_10_code 77 = .ok (.iinc 2 1, 3) := by decide +kernel
theorem d_Search_allSeen_80 : decode prog_7_method_10_code 80 = .ok (.goto (-65), 3) := by decide +kernel
theorem d_Search_allSeen_83 : decode prog_7_method_10_code 83 = .ok (.iinc 1 1, 3) := by decide +kernel
theorem d_Search_allSeen_86 : decode prog_7_method_10_code 86 = .ok (.goto (-84), 3) := by decide +kernel
theorem d_Search_allSeen_89 : decode prog_7_method_10_code 89 = .ok (.iconst 1, 1) := by decide +kernel
theorem d_Search_allSeen_90 : decode prog_7_method_10_code 90 = .ok (.ireturn, 1) := by decide +kernel
theorem d_CaseLayout_sightOf_0 : decode prog_1_method_27_code 0 = .ok (.iload_n 0, 1) := by decide +kernel
theorem d_CaseLayout_sightOf_1 : decode prog_1_method_27_code 1 = .ok (.bipush 7, 2) := by decide +kernel
theorem d_CaseLayout_sightOf_3 : decode prog_1_method_27_code 3 = .ok (.imul, 1) := by decide +kernel
theorem d_CaseLayout_sightOf_4 : decode prog_1_method_27_code 4 = .ok (.iload_n 1, 1) := by decide +kernel
theorem d_CaseLayout_sightOf_5 : decode prog_1_method_27_code 5 = .ok (.iadd, 1) := by decide +kernel
theorem d_CaseLayout_sightOf_6 : decode prog_1_method_27_code 6 = .ok (.ireturn, 1) := by decide +kernel
theorem d_Search_allEscape_0 : decode prog_7_method_11_code 0 = .ok (.aload_n 0, 1) := by decide +kernel
theorem d_Search_allEscape_1 : decode prog_7_method_11_code 1 = .ok (.getfield 40, 3) := by decide +kernel
theorem d_Search_allEscape_4 : decode prog_7_method_11_code 4 = .ok (.getfield 162, 3) := by decide +kernel
theorem d_Search_allEscape_7 : decode prog_7_method_11_code 7 = .ok (.ifCond .ne 5, 3) := by decide +kernel
theorem d_Search_allEscape_10 : decode prog_7_method_11_code 10 = .ok (.iconst 1, 1) := by decide +kernel
theorem d_Search_allEscape_11 : decode prog_7_method_11_code 11 = .ok (.ireturn, 1) := by decide +kernel
theorem d_Search_allEscape_12 : decode prog_7_method_11_code 12 = .ok (.aload_n 0, 1) := by decide +kernel
theorem d_Search_allEscape_13 : decode prog_7_method_11_code 13 = .ok (.getfield 44, 3) := by decide +kernel
theorem d_Search_allEscape_16 : decode prog_7_method_11_code 16 = .ok (.aload_n 0, 1) := by decide +kernel
theorem d_Search_allEscape_17 : decode prog_7_method_11_code 17 = .ok (.getfield 40, 3) := by decide +kernel
theorem d_Search_allEscape_20 : decode prog_7_method_11_code 20 = .ok (.invokevirtual 165, 3) := by decide +kernel
theorem d_Search_allEscape_23 : decode prog_7_method_11_code 23 = .ok (.iconst 0, 1) := by decide +kernel
theorem d_Search_allEscape_24 : decode prog_7_method_11_code 24 = .ok (.istore_n 1, 1) := by decide +kernel
theorem d_Search_allEscape_25 : decode prog_7_method_11_code 25 = .ok (.iload_n 1, 1) := by decide +kernel
theorem d_Search_allEscape_26 : decode prog_7_method_11_code 26 = .ok (.aload_n 0, 1) := by decide +kernel
theorem d_Search_allEscape_27 : decode prog_7_method_11_code 27 = .ok (.getfield 32, 3) := by decide +kernel
theorem d_Search_allEscape_30 : decode prog_7_method_11_code 30 = .ok (.getfield 63, 3) := by decide +kernel
theorem d_Search_allEscape_33 : decode prog_7_method_11_code 33 = .ok (.if_icmp .ge 33, 3) := by decide +kernel
theorem d_Search_allEscape_36 : decode prog_7_method_11_code 36 = .ok (.aload_n 0, 1) := by decide +kernel
theorem d_Search_allEscape_37 : decode prog_7_method_11_code 37 = .ok (.getfield 44, 3) := by decide +kernel
theorem d_Search_allEscape_40 : decode prog_7_method_11_code 40 = .ok (.aload_n 0, 1) := by decide +kernel
theorem d_Search_allEscape_41 : decode prog_7_method_11_code 41 = .ok (.getfield 53, 3) := by decide +kernel
theorem d_Search_allEscape_44 : decode prog_7_method_11_code 44 = .ok (.iload_n 1, 1) := by decide +kernel
theorem d_Search_allEscape_45 : decode prog_7_method_11_code 45 = .ok (.aload_n 0, 1) := by decide +kernel
theorem d_Search_allEscape_46 : decode prog_7_method_11_code 46 = .ok (.getfield 40, 3) := by decide +kernel
theorem d_Search_allEscape_49 : decode prog_7_method_11_code 49 = .ok (.getfield 169, 3) := by decide +kernel
theorem d_Search_allEscape_52 : decode prog_7_method_11_code 52 = .ok (.invokevirtual 172, 3) := by decide +kernel
theorem d_Search_allEscape_55 : decode prog_7_method_11_code 55 = .ok (.ifCond .ne 5, 3) := by decide +kernel
theorem d_Search_allEscape_58 : decode prog_7_method_11_code 58 = .ok (.iconst 0, 1) := by decide +kernel
theorem d_Search_allEscape_59 : decode prog_7_method_11_code 59 = .ok (.ireturn, 1) := by decide +kernel
theorem d_Search_allEscape_60 : decode prog_7_method_11_code 60 = .ok (.iinc 1 1, 3) := by decide +kernel
theorem d_Search_allEscape_63 : decode prog_7_method_11_code 63 = .ok (.goto (-38), 3) := by decide +kernel
theorem d_Search_allEscape_66 : decode prog_7_method_11_code 66 = .ok (.iconst 1, 1) := by decide +kernel
theorem d_Search_allEscape_67 : decode prog_7_method_11_code 67 = .ok (.ireturn, 1) := by decide +kernel
theorem d_Floor_hasEscape_0 : decode prog_3_method_9_code 0 = .ok (.aload_n 1, 1) := by decide +kernel
theorem d_Floor_hasEscape_1 : decode prog_3_method_9_code 1 = .ok (.getfield 50, 3) := by decide +kernel
theorem d_Floor_hasEscape_4 : decode prog_3_method_9_code 4 = .ok (.iload_n 2, 1) := by decide +kernel
theorem d_Floor_hasEscape_5 : decode prog_3_method_9_code 5 = .ok (.iaload, 1) := by decide +kernel
theorem d_Floor_hasEscape_6 : decode prog_3_method_9_code 6 = .ok (.istore 4, 2) := by decide +kernel
theorem d_Floor_hasEscape_8 : decode prog_3_method_9_code 8 = .ok (.aload_n 1, 1) := by decide +kernel
theorem d_Floor_hasEscape_9 : decode prog_3_method_9_code 9 = .ok (.getfield 53, 3) := by decide +kernel
theorem d_Floor_hasEscape_12 : decode prog_3_method_9_code 12 = .ok (.iload_n 2, 1) := by decide +kernel
theorem d_Floor_hasEscape_13 : decode prog_3_method_9_code 13 = .ok (.iaload, 1) := by decide +kernel
theorem d_Floor_hasEscape_14 : decode prog_3_method_9_code 14 = .ok (.istore 5, 2) := by decide +kernel
theorem d_Floor_hasEscape_16 : decode prog_3_method_9_code 16 = .ok (.aload_n 1, 1) := by decide +kernel
theorem d_Floor_hasEscape_17 : decode prog_3_method_9_code 17 = .ok (.getfield 35, 3) := by decide +kernel
theorem d_Floor_hasEscape_20 : decode prog_3_method_9_code 20 = .ok (.getfield 59, 3) := by decide +kernel
theorem d_Floor_hasEscape_23 : decode prog_3_method_9_code 23 = .ok (.iload_n 2, 1) := by decide +kernel
theorem d_Floor_hasEscape_24 : decode prog_3_method_9_code 24 = .ok (.iaload, 1) := by decide +kernel
theorem d_Floor_hasEscape_25 : decode prog_3_method_9_code 25 = .ok (.istore 6, 2) := by decide +kernel
theorem d_Floor_hasEscape_27 : decode prog_3_method_9_code 27 = .ok (.aload_n 1, 1) := by decide +kernel
theorem d_Floor_hasEscape_28 : decode prog_3_method_9_code 28 = .ok (.getfield 35, 3) := by decide +kernel
theorem d_Floor_hasEscape_31 : decode prog_3_method_9_code 31 = .ok (.getfield 56, 3) := by decide +kernel
theorem d_Floor_hasEscape_34 : decode prog_3_method_9_code 34 = .ok (.iload_n 2, 1) := by decide +kernel
theorem d_Floor_hasEscape_35 : decode prog_3_method_9_code 35 = .ok (.iaload, 1) := by decide +kernel
theorem d_Floor_hasEscape_36 : decode prog_3_method_9_code 36 = .ok (.istore 7, 2) := by decide +kernel
theorem d_Floor_hasEscape_38 : decode prog_3_method_9_code 38 = .ok (.iload 5, 2) := by decide +kernel
theorem d_Floor_hasEscape_40 : decode prog_3_method_9_code 40 = .ok (.istore 8, 2) := by decide +kernel
theorem d_Floor_hasEscape_42 : decode prog_3_method_9_code 42 = .ok (.iload 8, 2) := by decide +kernel
theorem d_Floor_hasEscape_44 : decode prog_3_method_9_code 44 = .ok (.iload 5, 2) := by decide +kernel
theorem d_Floor_hasEscape_46 : decode prog_3_method_9_code 46 = .ok (.iload 7, 2) := by decide +kernel
theorem d_Floor_hasEscape_48 : decode prog_3_method_9_code 48 = .ok (.iadd, 1) := by decide +kernel
theorem d_Floor_hasEscape_49 : decode prog_3_method_9_code 49 = .ok (.if_icmp .ge 40, 3) := by decide +kernel
theorem d_Floor_hasEscape_52 : decode prog_3_method_9_code 52 = .ok (.aload_n 0, 1) := by decide +kernel
theorem d_Floor_hasEscape_53 : decode prog_3_method_9_code 53 = .ok (.iload 4, 2) := by decide +kernel
theorem d_Floor_hasEscape_55 : decode prog_3_method_9_code 55 = .ok (.iconst 1, 1) := by decide +kernel
theorem d_Floor_hasEscape_56 : decode prog_3_method_9_code 56 = .ok (.isub, 1) := by decide +kernel
theorem d_Floor_hasEscape_57 : decode prog_3_method_9_code 57 = .ok (.iload 8, 2) := by decide +kernel
theorem d_Floor_hasEscape_59 : decode prog_3_method_9_code 59 = .ok (.iload_n 3, 1) := by decide +kernel
theorem d_Floor_hasEscape_60 : decode prog_3_method_9_code 60 = .ok (.invokevirtual 106, 3) := by decide +kernel
theorem d_Floor_hasEscape_63 : decode prog_3_method_9_code 63 = .ok (.ifCond .ne 18, 3) := by decide +kernel
theorem d_Floor_hasEscape_66 : decode prog_3_method_9_code 66 = .ok (.aload_n 0, 1) := by decide +kernel
theorem d_Floor_hasEscape_67 : decode prog_3_method_9_code 67 = .ok (.iload 4, 2) := by decide +kernel
theorem d_Floor_hasEscape_69 : decode prog_3_method_9_code 69 = .ok (.iload 6, 2) := by decide +kernel
theorem d_Floor_hasEscape_71 : decode prog_3_method_9_code 71 = .ok (.iadd, 1) := by decide +kernel
theorem d_Floor_hasEscape_72 : decode prog_3_method_9_code 72 = .ok (.iload 8, 2) := by decide +kernel
theorem d_Floor_hasEscape_74 : decode prog_3_method_9_code 74 = .ok (.iload_n 3, 1) := by decide +kernel
theorem d_Floor_hasEscape_75 : decode prog_3_method_9_code 75 = .ok (.invokevirtual 106, 3) := by decide +kernel
theorem d_Floor_hasEscape_78 : decode prog_3_method_9_code 78 = .ok (.ifCond .eq 5, 3) := by decide +kernel
theorem d_Floor_hasEscape_81 : decode prog_3_method_9_code 81 = .ok (.iconst 1, 1) := by decide +kernel
theorem d_Floor_hasEscape_82 : decode prog_3_method_9_code 82 = .ok (.ireturn, 1) := by decide +kernel
theorem d_Floor_hasEscape_83 : decode prog_3_method_9_code 83 = .ok (.iinc 8 1, 3) := by decide +kernel
theorem d_Floor_hasEscape_86 : decode prog_3_method_9_code 86 = .ok (.goto (-44), 3) := by decide +kernel
theorem d_Floor_hasEscape_89 : decode prog_3_method_9_code 89 = .ok (.iload 4, 2) := by decide +kernel
theorem d_Floor_hasEscape_91 : decode prog_3_method_9_code 91 = .ok (.istore 8, 2) := by decide +kernel
theorem d_Floor_hasEscape_93 : decode prog_3_method_9_code 93 = .ok (.iload 8, 2) := by decide +kernel
theorem d_Floor_hasEscape_95 : decode prog_3_method_9_code 95 = .ok (.iload 4, 2) := by decide +kernel
theorem d_Floor_hasEscape_97 : decode prog_3_method_9_code 97 = .ok (.iload 6, 2) := by decide +kernel
theorem d_Floor_hasEscape_99 : decode prog_3_method_9_code 99 = .ok (.iadd, 1) := by decide +kernel
theorem d_Floor_hasEscape_100 : decode prog_3_method_9_code 100 = .ok (.if_icmp .ge 40, 3) := by decide +kernel
theorem d_Floor_hasEscape_103 : decode prog_3_method_9_code 103 = .ok (.aload_n 0, 1) := by decide +kernel
theorem d_Floor_hasEscape_104 : decode prog_3_method_9_code 104 = .ok (.iload 8, 2) := by decide +kernel
theorem d_Floor_hasEscape_106 : decode prog_3_method_9_code 106 = .ok (.iload 5, 2) := by decide +kernel
theorem d_Floor_hasEscape_108 : decode prog_3_method_9_code 108 = .ok (.iconst 1, 1) := by decide +kernel
theorem d_Floor_hasEscape_109 : decode prog_3_method_9_code 109 = .ok (.isub, 1) := by decide +kernel
theorem d_Floor_hasEscape_110 : decode prog_3_method_9_code 110 = .ok (.iload_n 3, 1) := by decide +kernel
theorem d_Floor_hasEscape_111 : decode prog_3_method_9_code 111 = .ok (.invokevirtual 106, 3) := by decide +kernel
theorem d_Floor_hasEscape_114 : decode prog_3_method_9_code 114 = .ok (.ifCond .ne 18, 3) := by decide +kernel
theorem d_Floor_hasEscape_117 : decode prog_3_method_9_code 117 = .ok (.aload_n 0, 1) := by decide +kernel
theorem d_Floor_hasEscape_118 : decode prog_3_method_9_code 118 = .ok (.iload 8, 2) := by decide +kernel
theorem d_Floor_hasEscape_120 : decode prog_3_method_9_code 120 = .ok (.iload 5, 2) := by decide +kernel
theorem d_Floor_hasEscape_122 : decode prog_3_method_9_code 122 = .ok (.iload 7, 2) := by decide +kernel
theorem d_Floor_hasEscape_124 : decode prog_3_method_9_code 124 = .ok (.iadd, 1) := by decide +kernel
theorem d_Floor_hasEscape_125 : decode prog_3_method_9_code 125 = .ok (.iload_n 3, 1) := by decide +kernel
theorem d_Floor_hasEscape_126 : decode prog_3_method_9_code 126 = .ok (.invokevirtual 106, 3) := by decide +kernel
theorem d_Floor_hasEscape_129 : decode prog_3_method_9_code 129 = .ok (.ifCond .eq 5, 3) := by decide +kernel
theorem d_Floor_hasEscape_132 : decode prog_3_method_9_code 132 = .ok (.iconst 1, 1) := by decide +kernel
theorem d_Floor_hasEscape_133 : decode prog_3_method_9_code 133 = .ok (.ireturn, 1) := by decide +kernel
theorem d_Floor_hasEscape_134 : decode prog_3_method_9_code 134 = .ok (.iinc 8 1, 3) := by decide +kernel
theorem d_Floor_hasEscape_137 : decode prog_3_method_9_code 137 = .ok (.goto (-44), 3) := by decide +kernel
theorem d_Floor_hasEscape_140 : decode prog_3_method_9_code 140 = .ok (.iconst 0, 1) := by decide +kernel
theorem d_Floor_hasEscape_141 : decode prog_3_method_9_code 141 = .ok (.ireturn, 1) := by decide +kernel
theorem d_Floor_isNear_0 : decode prog_3_method_10_code 0 = .ok (.aload_n 0, 1) := by decide +kernel
theorem d_Floor_isNear_1 : decode prog_3_method_10_code 1 = .ok (.getfield 25, 3) := by decide +kernel
theorem d_Floor_isNear_4 : decode prog_3_method_10_code 4 = .ok (.iload_n 1, 1) := by decide +kernel
theorem d_Floor_isNear_5 : decode prog_3_method_10_code 5 = .ok (.iload_n 2, 1) := by decide +kernel
theorem d_Floor_isNear_6 : decode prog_3_method_10_code 6 = .ok (.invokevirtual 62, 3) := by decide +kernel
theorem d_Floor_isNear_9 : decode prog_3_method_10_code 9 = .ok (.ifCond .ne 5, 3) := by decide +kernel
theorem d_Floor_isNear_12 : decode prog_3_method_10_code 12 = .ok (.iconst 0, 1) := by decide +kernel
theorem d_Floor_isNear_13 : decode prog_3_method_10_code 13 = .ok (.ireturn, 1) := by decide +kernel
theorem d_Floor_isNear_14 : decode prog_3_method_10_code 14 = .ok (.aload_n 0, 1) := by decide +kernel
theorem d_Floor_isNear_15 : decode prog_3_method_10_code 15 = .ok (.getfield 15, 3) := by decide +kernel
theorem d_Floor_isNear_18 : decode prog_3_method_10_code 18 = .ok (.iload_n 1, 1) := by decide +kernel
theorem d_Floor_isNear_19 : decode prog_3_method_10_code 19 = .ok (.iload_n 2, 1) := by decide +kernel
theorem d_Floor_isNear_20 : decode prog_3_method_10_code 20 = .ok (.invokestatic 66, 3) := by decide +kernel
theorem d_Floor_isNear_23 : decode prog_3_method_10_code 23 = .ok (.iaload, 1) := by decide +kernel
theorem d_Floor_isNear_24 : decode prog_3_method_10_code 24 = .ok (.istore 4, 2) := by decide +kernel
theorem d_Floor_isNear_26 : decode prog_3_method_10_code 26 = .ok (.iload 4, 2) := by decide +kernel
theorem d_Floor_isNear_28 : decode prog_3_method_10_code 28 = .ok (.iconst (-1), 1) := by decide +kernel
theorem d_Floor_isNear_29 : decode prog_3_method_10_code 29 = .ok (.if_icmp .eq 13, 3) := by decide +kernel
theorem d_Floor_isNear_32 : decode prog_3_method_10_code 32 = .ok (.iload 4, 2) := by decide +kernel
theorem d_Floor_isNear_34 : decode prog_3_method_10_code 34 = .ok (.iload_n 3, 1) := by decide +kernel
theorem d_Floor_isNear_35 : decode prog_3_method_10_code 35 = .ok (.if_icmp .gt 7, 3) := by decide +kernel
theorem d_Floor_isNear_38 : decode prog_3_method_10_code 38 = .ok (.iconst 1, 1) := by decide +kernel
theorem d_Floor_isNear_39 : decode prog_3_method_10_code 39 = .ok (.goto 4, 3) := by decide +kernel
theorem d_Floor_isNear_42 : decode prog_3_method_10_code 42 = .ok (.iconst 0, 1) := by decide +kernel
theorem d_Floor_isNear_43 : decode prog_3_method_10_code 43 = .ok (.ireturn, 1) := by decide +kernel
theorem d_Layout_copyFrom_0 : decode prog_5_method_3_code 0 = .ok (.aload_n 1, 1) := by decide +kernel
theorem d_Layout_copyFrom_1 : decode prog_5_method_3_code 1 = .ok (.getfield 9, 3) := by decide +kernel
theorem d_Layout_copyFrom_4 : decode prog_5_method_3_code 4 = .ok (.iconst 0, 1) := by decide +kernel
theorem d_Layout_copyFrom_5 : decode prog_5_method_3_code 5 = .ok (.aload_n 0, 1) := by decide +kernel
theorem d_Layout_copyFrom_6 : decode prog_5_method_3_code 6 = .ok (.getfield 9, 3) := by decide +kernel
theorem d_Layout_copyFrom_9 : decode prog_5_method_3_code 9 = .ok (.iconst 0, 1) := by decide +kernel
theorem d_Layout_copyFrom_10 : decode prog_5_method_3_code 10 = .ok (.bipush 7, 2) := by decide +kernel
theorem d_Layout_copyFrom_12 : decode prog_5_method_3_code 12 = .ok (.invokestatic 40, 3) := by decide +kernel
theorem d_Layout_copyFrom_15 : decode prog_5_method_3_code 15 = .ok (.aload_n 1, 1) := by decide +kernel
theorem d_Layout_copyFrom_16 : decode prog_5_method_3_code 16 = .ok (.getfield 15, 3) := by decide +kernel
theorem d_Layout_copyFrom_19 : decode prog_5_method_3_code 19 = .ok (.iconst 0, 1) := by decide +kernel
theorem d_Layout_copyFrom_20 : decode prog_5_method_3_code 20 = .ok (.aload_n 0, 1) := by decide +kernel
theorem d_Layout_copyFrom_21 : decode prog_5_method_3_code 21 = .ok (.getfield 15, 3) := by decide +kernel
theorem d_Layout_copyFrom_24 : decode prog_5_method_3_code 24 = .ok (.iconst 0, 1) := by decide +kernel
theorem d_Layout_copyFrom_25 : decode prog_5_method_3_code 25 = .ok (.bipush 7, 2) := by decide +kernel
theorem d_Layout_copyFrom_27 : decode prog_5_method_3_code 27 = .ok (.invokestatic 40, 3) := by decide +kernel
theorem d_Layout_copyFrom_30 : decode prog_5_method_3_code 30 = .ok (.return_, 1) := by decide +kernel
theorem d_Search_tryThing_0 : decode prog_7_method_6_code 0 = .ok (.iload_n 1, 1) := by decide +kernel
theorem d_Search_tryThing_1 : decode prog_7_method_6_code 1 = .ok (.aload_n 0, 1) := by decide +kernel
theorem d_Search_tryThing_2 : decode prog_7_method_6_code 2 = .ok (.getfield 32, 3) := by decide +kernel
theorem d_Search_tryThing_5 : decode prog_7_method_6_code 5 = .ok (.getfield 63, 3) := by decide +kernel
theorem d_Search_tryThing_8 : decode prog_7_method_6_code 8 = .ok (.if_icmp .ge 9, 3) := by decide +kernel
theorem d_Search_tryThing_11 : decode prog_7_method_6_code 11 = .ok (.iload_n 1, 1) := by decide +kernel
theorem d_Search_tryThing_12 : decode prog_7_method_6_code 12 = .ok (.bipush 7, 2) := by decide +kernel
theorem d_Search_tryThing_14 : decode prog_7_method_6_code 14 = .ok (.if_icmp .lt 10, 3) := by decide +kernel
theorem d_Search_tryThing_17 : decode prog_7_method_6_code 17 = .ok (.aload_n 0, 1) := by decide +kernel
theorem d_Search_tryThing_18 : decode prog_7_method_6_code 18 = .ok (.iload_n 2, 1) := by decide +kernel
theorem d_Search_tryThing_19 : decode prog_7_method_6_code 19 = .ok (.invokevirtual 97, 3) := by decide +kernel
theorem d_Search_tryThing_22 : decode prog_7_method_6_code 22 = .ok (.iconst 1, 1) := by decide +kernel
theorem d_Search_tryThing_23 : decode prog_7_method_6_code 23 = .ok (.ireturn, 1) := by decide +kernel
theorem d_Search_tryThing_24 : decode prog_7_method_6_code 24 = .ok (.iconst 0, 1) := by decide +kernel
theorem d_Search_tryThing_25 : decode prog_7_method_6_code 25 = .ok (.istore_n 3, 1) := by decide +kernel
theorem d_Search_tryThing_26 : decode prog_7_method_6_code 26 = .ok (.iload_n 3, 1) := by decide +kernel
theorem d_Search_tryThing_27 : decode prog_7_method_6_code 27 = .ok (.aload_n 0, 1) := by decide +kernel
theorem d_Search_tryThing_28 : decode prog_7_method_6_code 28 = .ok (.getfield 15, 3) := by decide +kernel
theorem d_Search_tryThing_31 : decode prog_7_method_6_code 31 = .ok (.iload_n 1, 1) := by decide +kernel
theorem d_Search_tryThing_32 : decode prog_7_method_6_code 32 = .ok (.iaload, 1) := by decide +kernel
theorem d_Search_tryThing_33 : decode prog_7_method_6_code 33 = .ok (.if_icmp .ge 100, 3) := by decide +kernel
theorem d_Search_tryThing_36 : decode prog_7_method_6_code 36 = .ok (.aload_n 0, 1) := by decide +kernel
theorem d_Search_tryThing_37 : decode prog_7_method_6_code 37 = .ok (.getfield 9, 3) := by decide +kernel
theorem d_Search_tryThing_40 : decode prog_7_method_6_code 40 = .ok (.iload_n 1, 1) := by decide +kernel
theorem d_Search_tryThing_41 : decode prog_7_method_6_code 41 = .ok (.bipush 81, 2) := by decide +kernel
theorem d_Search_tryThing_43 : decode prog_7_method_6_code 43 = .ok (.imul, 1) := by decide +kernel
theorem d_Search_tryThing_44 : decode prog_7_method_6_code 44 = .ok (.iload_n 3, 1) := by decide +kernel
theorem d_Search_tryThing_45 : decode prog_7_method_6_code 45 = .ok (.iadd, 1) := by decide +kernel
theorem d_Search_tryThing_46 : decode prog_7_method_6_code 46 = .ok (.iaload, 1) := by decide +kernel
theorem d_Search_tryThing_47 : decode prog_7_method_6_code 47 = .ok (.istore 4, 2) := by decide +kernel
theorem d_Search_tryThing_49 : decode prog_7_method_6_code 49 = .ok (.aload_n 0, 1) := by decide +kernel
theorem d_Search_tryThing_50 : decode prog_7_method_6_code 50 = .ok (.getfield 53, 3) := by decide +kernel
theorem d_Search_tryThing_53 : decode prog_7_method_6_code 53 = .ok (.getfield 100, 3) := by decide +kernel
theorem d_Search_tryThing_56 : decode prog_7_method_6_code 56 = .ok (.iload_n 1, 1) := by decide +kernel
theorem d_Search_tryThing_57 : decode prog_7_method_6_code 57 = .ok (.iload 4, 2) := by decide +kernel
theorem d_Search_tryThing_59 : decode prog_7_method_6_code 59 = .ok (.bipush 9, 2) := by decide +kernel
theorem d_Search_tryThing_61 : decode prog_7_method_6_code 61 = .ok (.irem, 1) := by decide +kernel
theorem d_Search_tryThing_62 : decode prog_7_method_6_code 62 = .ok (.iastore, 1) := by decide +kernel
theorem d_Search_tryThing_63 : decode prog_7_method_6_code 63 = .ok (.aload_n 0, 1) := by decide +kernel
theorem d_Search_tryThing_64 : decode prog_7_method_6_code 64 = .ok (.getfield 53, 3) := by decide +kernel
theorem d_Search_tryThing_67 : decode prog_7_method_6_code 67 = .ok (.getfield 103, 3) := by decide +kernel
theorem d_Search_tryThing_70 : decode prog_7_method_6_code 70 = .ok (.iload_n 1, 1) := by decide +kernel
theorem d_Search_tryThing_71 : decode prog_7_method_6_code 71 = .ok (.iload 4, 2) := by decide +kernel
theorem d_Search_tryThing_73 : decode prog_7_method_6_code 73 = .ok (.bipush 9, 2) := by decide +kernel
theorem d_Search_tryThing_75 : decode prog_7_method_6_code 75 = .ok (.idiv, 1) := by decide +kernel
theorem d_Search_tryThing_76 : decode prog_7_method_6_code 76 = .ok (.iastore, 1) := by decide +kernel
theorem d_Search_tryThing_77 : decode prog_7_method_6_code 77 = .ok (.aload_n 0, 1) := by decide +kernel
theorem d_Search_tryThing_78 : decode prog_7_method_6_code 78 = .ok (.iload_n 1, 1) := by decide +kernel
theorem d_Search_tryThing_79 : decode prog_7_method_6_code 79 = .ok (.invokevirtual 106, 3) := by decide +kernel
theorem d_Search_tryThing_82 : decode prog_7_method_6_code 82 = .ok (.ifCond .eq 45, 3) := by decide +kernel
theorem d_Search_tryThing_85 : decode prog_7_method_6_code 85 = .ok (.aload_n 0, 1) := by decide +kernel
theorem d_Search_tryThing_86 : decode prog_7_method_6_code 86 = .ok (.getfield 22, 3) := by decide +kernel
theorem d_Search_tryThing_89 : decode prog_7_method_6_code 89 = .ok (.aload_n 0, 1) := by decide +kernel
theorem d_Search_tryThing_90 : decode prog_7_method_6_code 90 = .ok (.getfield 18, 3) := by decide +kernel
theorem d_Search_tryThing_93 : decode prog_7_method_6_code 93 = .ok (.if_icmp .lt 5, 3) := by decide +kernel
theorem d_Search_tryThing_96 : decode prog_7_method_6_code 96 = .ok (.iconst 0, 1) := by decide +kernel
theorem d_Search_tryThing_97 : decode prog_7_method_6_code 97 = .ok (.ireturn, 1) := by decide +kernel
theorem d_Search_tryThing_98 : decode prog_7_method_6_code 98 = .ok (.aload_n 0, 1) := by decide +kernel
theorem d_Search_tryThing_99 : decode prog_7_method_6_code 99 = .ok (.dup, 1) := by decide +kernel
theorem d_Search_tryThing_100 : decode prog_7_method_6_code 100 = .ok (.getfield 22, 3) := by decide +kernel
theorem d_Search_tryThing_103 : decode prog_7_method_6_code 103 = .ok (.iconst 1, 1) := by decide +kernel
theorem d_Search_tryThing_104 : decode prog_7_method_6_code 104 = .ok (.iadd, 1) := by decide +kernel
theorem d_Search_tryThing_105 : decode prog_7_method_6_code 105 = .ok (.putfield 22, 3) := by decide +kernel
theorem d_Search_tryThing_108 : decode prog_7_method_6_code 108 = .ok (.aload_n 0, 1) := by decide +kernel
theorem d_Search_tryThing_109 : decode prog_7_method_6_code 109 = .ok (.iload_n 1, 1) := by decide +kernel
theorem d_Search_tryThing_110 : decode prog_7_method_6_code 110 = .ok (.iconst 1, 1) := by decide +kernel
theorem d_Search_tryThing_111 : decode prog_7_method_6_code 111 = .ok (.iadd, 1) := by decide +kernel
theorem d_Search_tryThing_112 : decode prog_7_method_6_code 112 = .ok (.iload_n 2, 1) := by decide +kernel
theorem d_Search_tryThing_113 : decode prog_7_method_6_code 113 = .ok (.aload_n 0, 1) := by decide +kernel
theorem d_Search_tryThing_114 : decode prog_7_method_6_code 114 = .ok (.iload_n 1, 1) := by decide +kernel
theorem d_Search_tryThing_115 : decode prog_7_method_6_code 115 = .ok (.invokevirtual 110, 3) := by decide +kernel
theorem d_Search_tryThing_118 : decode prog_7_method_6_code 118 = .ok (.iadd, 1) := by decide +kernel
theorem d_Search_tryThing_119 : decode prog_7_method_6_code 119 = .ok (.invokevirtual 114, 3) := by decide +kernel
theorem d_Search_tryThing_122 : decode prog_7_method_6_code 122 = .ok (.ifCond .ne 5, 3) := by decide +kernel
theorem d_Search_tryThing_125 : decode prog_7_method_6_code 125 = .ok (.iconst 0, 1) := by decide +kernel
theorem d_Search_tryThing_126 : decode prog_7_method_6_code 126 = .ok (.ireturn, 1) := by decide +kernel
theorem d_Search_tryThing_127 : decode prog_7_method_6_code 127 = .ok (.iinc 3 1, 3) := by decide +kernel
theorem d_Search_tryThing_130 : decode prog_7_method_6_code 130 = .ok (.goto (-104), 3) := by decide +kernel
theorem d_Search_tryThing_133 : decode prog_7_method_6_code 133 = .ok (.iconst 1, 1) := by decide +kernel
theorem d_Search_tryThing_134 : decode prog_7_method_6_code 134 = .ok (.ireturn, 1) := by decide +kernel
theorem d_CaseLayout_setBoth_0 : decode prog_1_method_28_code 0 = .ok (.aload_n 0, 1) := by decide +kernel
theorem d_CaseLayout_setBoth_1 : decode prog_1_method_28_code 1 = .ok (.iload_n 1, 1) := by decide +kernel
theorem d_CaseLayout_setBoth_2 : decode prog_1_method_28_code 2 = .ok (.iload_n 2, 1) := by decide +kernel
theorem d_CaseLayout_setBoth_3 : decode prog_1_method_28_code 3 = .ok (.invokestatic 235, 3) := by decide +kernel
theorem d_CaseLayout_setBoth_6 : decode prog_1_method_28_code 6 = .ok (.iaload, 1) := by decide +kernel
theorem d_CaseLayout_setBoth_7 : decode prog_1_method_28_code 7 = .ok (.istore 4, 2) := by decide +kernel
theorem d_CaseLayout_setBoth_9 : decode prog_1_method_28_code 9 = .ok (.aload_n 0, 1) := by decide +kernel
theorem d_CaseLayout_setBoth_10 : decode prog_1_method_28_code 10 = .ok (.iload_n 1, 1) := by decide +kernel
theorem d_CaseLayout_setBoth_11 : decode prog_1_method_28_code 11 = .ok (.iload_n 2, 1) := by decide +kernel
theorem d_CaseLayout_setBoth_12 : decode prog_1_method_28_code 12 = .ok (.invokestatic 235, 3) := by decide +kernel
theorem d_CaseLayout_setBoth_15 : decode prog_1_method_28_code 15 = .ok (.iload_n 3, 1) := by decide +kernel
theorem d_CaseLayout_setBoth_16 : decode prog_1_method_28_code 16 = .ok (.iastore, 1) := by decide +kernel
theorem d_CaseLayout_setBoth_17 : decode prog_1_method_28_code 17 = .ok (.aload_n 0, 1) := by decide +kernel
theorem d_CaseLayout_setBoth_18 : decode prog_1_method_28_code 18 = .ok (.iload_n 2, 1) := by decide +kernel
theorem d_CaseLayout_setBoth_19 : decode prog_1_method_28_code 19 = .ok (.iload_n 1, 1) := by decide +kernel
theorem d_CaseLayout_setBoth_20 : decode prog_1_method_28_code 20 = .ok (.invokestatic 235, 3) := by decide +kernel
theorem d_CaseLayout_setBoth_23 : decode prog_1_method_28_code 23 = .ok (.iload_n 3, 1) := by decide +kernel
theorem d_CaseLayout_setBoth_24 : decode prog_1_method_28_code 24 = .ok (.iastore, 1) := by decide +kernel
theorem d_CaseLayout_setBoth_25 : decode prog_1_method_28_code 25 = .ok (.iload 4, 2) := by decide +kernel
theorem d_CaseLayout_setBoth_27 : decode prog_1_method_28_code 27 = .ok (.ireturn, 1) := by decide +kernel
theorem d_Mod_wall_0 : decode prog_10_method_11_code 0 = .ok (.aload_n 0, 1) := by decide +kernel
theorem d_Mod_wall_1 : decode prog_10_method_11_code 1 = .ok (.aload_n 0, 1) := by decide +kernel
theorem d_Mod_wall_2 : decode prog_10_method_11_code 2 = .ok (.iload_n 1, 1) := by decide +kernel
theorem d_Mod_wall_3 : decode prog_10_method_11_code 3 = .ok (.iload_n 2, 1) := by decide +kernel
theorem d_Mod_wall_4 : decode prog_10_method_11_code 4 = .ok (.invokevirtual 102, 3) := by decide +kernel
theorem d_Mod_wall_7 : decode prog_10_method_11_code 7 = .ok (.ifCond .ne 7, 3) := by decide +kernel
theorem d_Mod_wall_10 : decode prog_10_method_11_code 10 = .ok (.iconst 1, 1) := by decide +kernel
theorem d_Mod_wall_11 : decode prog_10_method_11_code 11 = .ok (.goto 4, 3) := by decide +kernel
theorem d_Mod_wall_14 : decode prog_10_method_11_code 14 = .ok (.iconst 0, 1) := by decide +kernel
theorem d_Mod_wall_15 : decode prog_10_method_11_code 15 = .ok (.iconst 0, 1) := by decide +kernel
theorem d_Mod_wall_16 : decode prog_10_method_11_code 16 = .ok (.iconst 0, 1) := by decide +kernel
theorem d_Mod_wall_17 : decode prog_10_method_11_code 17 = .ok (.invokevirtual 106, 3) := by decide +kernel
theorem d_Mod_wall_20 : decode prog_10_method_11_code 20 = .ok (.ifCond .eq 5, 3) := by decide +kernel
theorem d_Mod_wall_23 : decode prog_10_method_11_code 23 = .ok (.iconst 0, 1) := by decide +kernel
theorem d_Mod_wall_24 : decode prog_10_method_11_code 24 = .ok (.ireturn, 1) := by decide +kernel
theorem d_Mod_wall_25 : decode prog_10_method_11_code 25 = .ok (.aload_n 0, 1) := by decide +kernel
theorem d_Mod_wall_26 : decode prog_10_method_11_code 26 = .ok (.iload_n 1, 1) := by decide +kernel
theorem d_Mod_wall_27 : decode prog_10_method_11_code 27 = .ok (.iload_n 2, 1) := by decide +kernel
theorem d_Mod_wall_28 : decode prog_10_method_11_code 28 = .ok (.invokevirtual 110, 3) := by decide +kernel
theorem d_Mod_wall_31 : decode prog_10_method_11_code 31 = .ok (.ifCond .ne 27, 3) := by decide +kernel
theorem d_Mod_wall_34 : decode prog_10_method_11_code 34 = .ok (.aload_n 0, 1) := by decide +kernel
theorem d_Mod_wall_35 : decode prog_10_method_11_code 35 = .ok (.iload_n 1, 1) := by decide +kernel
theorem d_Mod_wall_36 : decode prog_10_method_11_code 36 = .ok (.iload_n 2, 1) := by decide +kernel
theorem d_Mod_wall_37 : decode prog_10_method_11_code 37 = .ok (.invokevirtual 113, 3) := by decide +kernel
theorem d_Mod_wall_40 : decode prog_10_method_11_code 40 = .ok (.ifCond .ne 18, 3) := by decide +kernel
theorem d_Mod_wall_43 : decode prog_10_method_11_code 43 = .ok (.aload_n 0, 1) := by decide +kernel
theorem d_Mod_wall_44 : decode prog_10_method_11_code 44 = .ok (.getfield 7, 3) := by decide +kernel
theorem d_Mod_wall_47 : decode prog_10_method_11_code 47 = .ok (.bipush 9, 2) := by decide +kernel
theorem d_Mod_wall_49 : decode prog_10_method_11_code 49 = .ok (.iload_n 2, 1) := by decide +kernel
theorem d_Mod_wall_50 : decode prog_10_method_11_code 50 = .ok (.imul, 1) := by decide +kernel
theorem d_Mod_wall_51 : decode prog_10_method_11_code 51 = .ok (.iload_n 1, 1) := by decide +kernel
theorem d_Mod_wall_52 : decode prog_10_method_11_code 52 = .ok (.iadd, 1) := by decide +kernel
theorem d_Mod_wall_53 : decode prog_10_method_11_code 53 = .ok (.baload, 1) := by decide +kernel
theorem d_Mod_wall_54 : decode prog_10_method_11_code 54 = .ok (.iload_n 3, 1) := by decide +kernel
theorem d_Mod_wall_55 : decode prog_10_method_11_code 55 = .ok (.if_icmp .ne 5, 3) := by decide +kernel
theorem d_Mod_wall_58 : decode prog_10_method_11_code 58 = .ok (.iconst 0, 1) := by decide +kernel
theorem d_Mod_wall_59 : decode prog_10_method_11_code 59 = .ok (.ireturn, 1) := by decide +kernel
theorem d_Mod_wall_60 : decode prog_10_method_11_code 60 = .ok (.aload_n 0, 1) := by decide +kernel
theorem d_Mod_wall_61 : decode prog_10_method_11_code 61 = .ok (.getfield 7, 3) := by decide +kernel
theorem d_Mod_wall_64 : decode prog_10_method_11_code 64 = .ok (.bipush 9, 2) := by decide +kernel
theorem d_Mod_wall_66 : decode prog_10_method_11_code 66 = .ok (.iload_n 2, 1) := by decide +kernel
theorem d_Mod_wall_67 : decode prog_10_method_11_code 67 = .ok (.imul, 1) := by decide +kernel
theorem d_Mod_wall_68 : decode prog_10_method_11_code 68 = .ok (.iload_n 1, 1) := by decide +kernel
theorem d_Mod_wall_69 : decode prog_10_method_11_code 69 = .ok (.iadd, 1) := by decide +kernel
theorem d_Mod_wall_70 : decode prog_10_method_11_code 70 = .ok (.iload_n 3, 1) := by decide +kernel
theorem d_Mod_wall_71 : decode prog_10_method_11_code 71 = .ok (.bastore, 1) := by decide +kernel
theorem d_Mod_wall_72 : decode prog_10_method_11_code 72 = .ok (.aload_n 0, 1) := by decide +kernel
theorem d_Mod_wall_73 : decode prog_10_method_11_code 73 = .ok (.invokevirtual 116, 3) := by decide +kernel
theorem d_Mod_wall_76 : decode prog_10_method_11_code 76 = .ok (.iconst 1, 1) := by decide +kernel
theorem d_Mod_wall_77 : decode prog_10_method_11_code 77 = .ok (.ireturn, 1) := by decide +kernel
theorem d_Mod_isCell_0 : decode prog_10_method_6_code 0 = .ok (.iload_n 1, 1) := by decide +kernel
theorem d_Mod_isCell_1 : decode prog_10_method_6_code 1 = .ok (.iconst 0, 1) := by decide +kernel
theorem d_Mod_isCell_2 : decode prog_10_method_6_code 2 = .ok (.aload_n 0, 1) := by decide +kernel
theorem d_Mod_isCell_3 : decode prog_10_method_6_code 3 = .ok (.getfield 73, 3) := by decide +kernel
theorem d_Mod_isCell_6 : decode prog_10_method_6_code 6 = .ok (.iconst 1, 1) := by decide +kernel
theorem d_Mod_isCell_7 : decode prog_10_method_6_code 7 = .ok (.isub, 1) := by decide +kernel
theorem d_Mod_isCell_8 : decode prog_10_method_6_code 8 = .ok (.invokestatic 82, 3) := by decide +kernel
theorem d_Mod_isCell_11 : decode prog_10_method_6_code 11 = .ok (.ifCond .eq 21, 3) := by decide +kernel
theorem d_Mod_isCell_14 : decode prog_10_method_6_code 14 = .ok (.iload_n 2, 1) := by decide +kernel
theorem d_Mod_isCell_15 : decode prog_10_method_6_code 15 = .ok (.iconst 0, 1) := by decide +kernel
theorem d_Mod_isCell_16 : decode prog_10_method_6_code 16 = .ok (.aload_n 0, 1) := by decide +kernel
theorem d_Mod_isCell_17 : decode prog_10_method_6_code 17 = .ok (.getfield 76, 3) := by decide +kernel
theorem d_Mod_isCell_20 : decode prog_10_method_6_code 20 = .ok (.iconst 1, 1) := by decide +kernel
theorem d_Mod_isCell_21 : decode prog_10_method_6_code 21 = .ok (.isub, 1) := by decide +kernel
theorem d_Mod_isCell_22 : decode prog_10_method_6_code 22 = .ok (.invokestatic 82, 3) := by decide +kernel
theorem d_Mod_isCell_25 : decode prog_10_method_6_code 25 = .ok (.ifCond .eq 7, 3) := by decide +kernel
theorem d_Mod_isCell_28 : decode prog_10_method_6_code 28 = .ok (.iconst 1, 1) := by decide +kernel
theorem d_Mod_isCell_29 : decode prog_10_method_6_code 29 = .ok (.goto 4, 3) := by decide +kernel
theorem d_Mod_isCell_32 : decode prog_10_method_6_code 32 = .ok (.iconst 0, 1) := by decide +kernel
theorem d_Mod_isCell_33 : decode prog_10_method_6_code 33 = .ok (.ireturn, 1) := by decide +kernel
theorem d_Mod_in_0 : decode prog_10_method_5_code 0 = .ok (.iload_n 0, 1) := by decide +kernel
theorem d_Mod_in_1 : decode prog_10_method_5_code 1 = .ok (.iload_n 1, 1) := by decide +kernel
theorem d_Mod_in_2 : decode prog_10_method_5_code 2 = .ok (.if_icmp .lt 12, 3) := by decide +kernel
theorem d_Mod_in_5 : decode prog_10_method_5_code 5 = .ok (.iload_n 0, 1) := by decide +kernel
theorem d_Mod_in_6 : decode prog_10_method_5_code 6 = .ok (.iload_n 2, 1) := by decide +kernel
theorem d_Mod_in_7 : decode prog_10_method_5_code 7 = .ok (.if_icmp .gt 7, 3) := by decide +kernel
theorem d_Mod_in_10 : decode prog_10_method_5_code 10 = .ok (.iconst 1, 1) := by decide +kernel
theorem d_Mod_in_11 : decode prog_10_method_5_code 11 = .ok (.goto 4, 3) := by decide +kernel
theorem d_Mod_in_14 : decode prog_10_method_5_code 14 = .ok (.iconst 0, 1) := by decide +kernel
theorem d_Mod_in_15 : decode prog_10_method_5_code 15 = .ok (.ireturn, 1) := by decide +kernel
theorem d_Mod_throwing_0 : decode prog_10_method_4_code 0 = .ok (.aload_n 0, 1) := by decide +kernel
theorem d_Mod_throwing_1 : decode prog_10_method_4_code 1 = .ok (.iload_n 1, 1) := by decide +kernel
theorem d_Mod_throwing_2 : decode prog_10_method_4_code 2 = .ok (.ifCond .eq 7, 3) := by decide +kernel
theorem d_Mod_throwing_5 : decode prog_10_method_4_code 5 = .ok (.iconst 1, 1) := by decide +kernel
theorem d_Mod_throwing_6 : decode prog_10_method_4_code 6 = .ok (.goto 20, 3) := by decide +kernel
theorem d_Mod_throwing_9 : decode prog_10_method_4_code 9 = .ok (.iload_n 2, 1) := by decide +kernel
theorem d_Mod_throwing_10 : decode prog_10_method_4_code 10 = .ok (.ifCond .eq 7, 3) := by decide +kernel
theorem d_Mod_throwing_13 : decode prog_10_method_4_code 13 = .ok (.iconst 2, 1) := by decide +kernel
theorem d_Mod_throwing_14 : decode prog_10_method_4_code 14 = .ok (.goto 12, 3) := by decide +kernel
theorem d_Mod_throwing_17 : decode prog_10_method_4_code 17 = .ok (.iload_n 3, 1) := by decide +kernel
theorem d_Mod_throwing_18 : decode prog_10_method_4_code 18 = .ok (.ifCond .eq 7, 3) := by decide +kernel
theorem d_Mod_throwing_21 : decode prog_10_method_4_code 21 = .ok (.iconst 3, 1) := by decide +kernel
theorem d_Mod_throwing_22 : decode prog_10_method_4_code 22 = .ok (.goto 4, 3) := by decide +kernel
theorem d_Mod_throwing_25 : decode prog_10_method_4_code 25 = .ok (.iconst 0, 1) := by decide +kernel
theorem d_Mod_throwing_26 : decode prog_10_method_4_code 26 = .ok (.putfield 79, 3) := by decide +kernel
theorem d_Mod_throwing_29 : decode prog_10_method_4_code 29 = .ok (.aload_n 0, 1) := by decide +kernel
theorem d_Mod_throwing_30 : decode prog_10_method_4_code 30 = .ok (.getfield 79, 3) := by decide +kernel
theorem d_Mod_throwing_33 : decode prog_10_method_4_code 33 = .ok (.ifCond .le 7, 3) := by decide +kernel
theorem d_Mod_throwing_36 : decode prog_10_method_4_code 36 = .ok (.iconst 1, 1) := by decide +kernel
theorem d_Mod_throwing_37 : decode prog_10_method_4_code 37 = .ok (.goto 4, 3) := by decide +kernel
theorem d_Mod_throwing_40 : decode prog_10_method_4_code 40 = .ok (.iconst 0, 1) := by decide +kernel
theorem d_Mod_throwing_41 : decode prog_10_method_4_code 41 = .ok (.ireturn, 1) := by decide +kernel
theorem d_Mod_isExit_0 : decode prog_10_method_9_code 0 = .ok (.iconst 0, 1) := by decide +kernel
theorem d_Mod_isExit_1 : decode prog_10_method_9_code 1 = .ok (.istore_n 3, 1) := by decide +kernel
theorem d_Mod_isExit_2 : decode prog_10_method_9_code 2 = .ok (.iconst 0, 1) := by decide +kernel
theorem d_Mod_isExit_3 : decode prog_10_method_9_code 3 = .ok (.istore 4, 2) := by decide +kernel
theorem d_Mod_isExit_5 : decode prog_10_method_9_code 5 = .ok (.iload 4, 2) := by decide +kernel
theorem d_Mod_isExit_7 : decode prog_10_method_9_code 7 = .ok (.aload_n 0, 1) := by decide +kernel
theorem d_Mod_isExit_8 : decode prog_10_method_9_code 8 = .ok (.getfield 96, 3) := by decide +kernel
theorem d_Mod_isExit_11 : decode prog_10_method_9_code 11 = .ok (.if_icmp .ge 41, 3) := by decide +kernel
theorem d_Mod_isExit_14 : decode prog_10_method_9_code 14 = .ok (.iload_n 3, 1) := by decide +kernel
theorem d_Mod_isExit_15 : decode prog_10_method_9_code 15 = .ok (.ifCond .ne 25, 3) := by decide +kernel
theorem d_Mod_isExit_18 : decode prog_10_method_9_code 18 = .ok (.aload_n 0, 1) := by decide +kernel
theorem d_Mod_isExit_19 : decode prog_10_method_9_code 19 = .ok (.getfield 41, 3) := by decide +kernel
theorem d_Mod_isExit_22 : decode prog_10_method_9_code 22 = .ok (.iload 4, 2) := by decide +kernel
theorem d_Mod_isExit_24 : decode prog_10_method_9_code 24 = .ok (.iaload, 1) := by decide +kernel
theorem d_Mod_isExit_25 : decode prog_10_method_9_code 25 = .ok (.iload_n 1, 1) := by decide +kernel
theorem d_Mod_isExit_26 : decode prog_10_method_9_code 26 = .ok (.if_icmp .ne 18, 3) := by decide +kernel
theorem d_Mod_isExit_29 : decode prog_10_method_9_code 29 = .ok (.aload_n 0, 1) := by decide +kernel
theorem d_Mod_isExit_30 : decode prog_10_method_9_code 30 = .ok (.getfield 44, 3) := by decide +kernel
theorem d_Mod_isExit_33 : decode prog_10_method_9_code 33 = .ok (.iload 4, 2) := by decide +kernel
