theorem d_Mod_exit_18 : decode prog_10_method_18_code 18 = .ok (.getfield 96, 3) := by decide +kernel
theorem d_Mod_exit_21 : decode prog_10_method_18_code 21 = .ok (.bipush 6, 2) := by decide +kernel
theorem d_Mod_exit_23 : decode prog_10_method_18_code 23 = .ok (.if_icmp .ne 7, 3) := by decide +kernel
theorem d_Mod_exit_26 : decode prog_10_method_18_code 26 = .ok (.iconst 1, 1) := by decide +kernel
theorem d_Mod_exit_27 : decode prog_10_method_18_code 27 = .ok (.goto 4, 3) := by decide +kernel
theorem d_Mod_exit_30 : decode prog_10_method_18_code 30 = .ok (.iconst 0, 1) := by decide +kernel
theorem d_Mod_exit_31 : decode prog_10_method_18_code 31 = .ok (.iload_n 3, 1) := by decide +kernel
theorem d_Mod_exit_32 : decode prog_10_method_18_code 32 = .ok (.ifCond .ne 30, 3) := by decide +kernel
theorem d_Mod_exit_35 : decode prog_10_method_18_code 35 = .ok (.aload_n 0, 1) := by decide +kernel
theorem d_Mod_exit_36 : decode prog_10_method_18_code 36 = .ok (.getfield 7, 3) := by decide +kernel
theorem d_Mod_exit_39 : decode prog_10_method_18_code 39 = .ok (.bipush 9, 2) := by decide +kernel
theorem d_Mod_exit_41 : decode prog_10_method_18_code 41 = .ok (.iload_n 2, 1) := by decide +kernel
theorem d_Mod_exit_42 : decode prog_10_method_18_code 42 = .ok (.imul, 1) := by decide +kernel
theorem d_Mod_exit_43 : decode prog_10_method_18_code 43 = .ok (.iload_n 1, 1) := by decide +kernel
theorem d_Mod_exit_44 : decode prog_10_method_18_code 44 = .ok (.iadd, 1) := by decide +kernel
theorem d_Mod_exit_45 : decode prog_10_method_18_code 45 = .ok (.baload, 1) := by decide +kernel
theorem d_Mod_exit_46 : decode prog_10_method_18_code 46 = .ok (.ifCond .ne 12, 3) := by decide +kernel
theorem d_Mod_exit_49 : decode prog_10_method_18_code 49 = .ok (.aload_n 0, 1) := by decide +kernel
theorem d_Mod_exit_50 : decode prog_10_method_18_code 50 = .ok (.iload_n 1, 1) := by decide +kernel
theorem d_Mod_exit_51 : decode prog_10_method_18_code 51 = .ok (.iload_n 2, 1) := by decide +kernel
theorem d_Mod_exit_52 : decode prog_10_method_18_code 52 = .ok (.invokevirtual 110, 3) := by decide +kernel
theorem d_Mod_exit_55 : decode prog_10_method_18_code 55 = .ok (.ifCond .eq 7, 3) := by decide +kernel
theorem d_Mod_exit_58 : decode prog_10_method_18_code 58 = .ok (.iconst 1, 1) := by decide +kernel
theorem d_Mod_exit_59 : decode prog_10_method_18_code 59 = .ok (.goto 4, 3) := by decide +kernel
theorem d_Mod_exit_62 : decode prog_10_method_18_code 62 = .ok (.iconst 0, 1) := by decide +kernel
theorem d_Mod_exit_63 : decode prog_10_method_18_code 63 = .ok (.invokevirtual 106, 3) := by decide +kernel
theorem d_Mod_exit_66 : decode prog_10_method_18_code 66 = .ok (.ifCond .eq 5, 3) := by decide +kernel
theorem d_Mod_exit_69 : decode prog_10_method_18_code 69 = .ok (.iconst 0, 1) := by decide +kernel
theorem d_Mod_exit_70 : decode prog_10_method_18_code 70 = .ok (.ireturn, 1) := by decide +kernel
theorem d_Mod_exit_71 : decode prog_10_method_18_code 71 = .ok (.aload_n 0, 1) := by decide +kernel
theorem d_Mod_exit_72 : decode prog_10_method_18_code 72 = .ok (.getfield 41, 3) := by decide +kernel
theorem d_Mod_exit_75 : decode prog_10_method_18_code 75 = .ok (.aload_n 0, 1) := by decide +kernel
theorem d_Mod_exit_76 : decode prog_10_method_18_code 76 = .ok (.getfield 96, 3) := by decide +kernel
theorem d_Mod_exit_79 : decode prog_10_method_18_code 79 = .ok (.iload_n 1, 1) := by decide +kernel
theorem d_Mod_exit_80 : decode prog_10_method_18_code 80 = .ok (.iastore, 1) := by decide +kernel
theorem d_Mod_exit_81 : decode prog_10_method_18_code 81 = .ok (.aload_n 0, 1) := by decide +kernel
theorem d_Mod_exit_82 : decode prog_10_method_18_code 82 = .ok (.getfield 44, 3) := by decide +kernel
theorem d_Mod_exit_85 : decode prog_10_method_18_code 85 = .ok (.aload_n 0, 1) := by decide +kernel
theorem d_Mod_exit_86 : decode prog_10_method_18_code 86 = .ok (.getfield 96, 3) := by decide +kernel
theorem d_Mod_exit_89 : decode prog_10_method_18_code 89 = .ok (.iload_n 2, 1) := by decide +kernel
theorem d_Mod_exit_90 : decode prog_10_method_18_code 90 = .ok (.iastore, 1) := by decide +kernel
theorem d_Mod_exit_91 : decode prog_10_method_18_code 91 = .ok (.aload_n 0, 1) := by decide +kernel
theorem d_Mod_exit_92 : decode prog_10_method_18_code 92 = .ok (.dup, 1) := by decide +kernel
theorem d_Mod_exit_93 : decode prog_10_method_18_code 93 = .ok (.getfield 96, 3) := by decide +kernel
theorem d_Mod_exit_96 : decode prog_10_method_18_code 96 = .ok (.iconst 1, 1) := by decide +kernel
theorem d_Mod_exit_97 : decode prog_10_method_18_code 97 = .ok (.iadd, 1) := by decide +kernel
theorem d_Mod_exit_98 : decode prog_10_method_18_code 98 = .ok (.putfield 96, 3) := by decide +kernel
theorem d_Mod_exit_101 : decode prog_10_method_18_code 101 = .ok (.aload_n 0, 1) := by decide +kernel
theorem d_Mod_exit_102 : decode prog_10_method_18_code 102 = .ok (.invokevirtual 116, 3) := by decide +kernel
theorem d_Mod_exit_105 : decode prog_10_method_18_code 105 = .ok (.aload_n 0, 1) := by decide +kernel
theorem d_Mod_exit_106 : decode prog_10_method_18_code 106 = .ok (.getfield 96, 3) := by decide +kernel
theorem d_Mod_exit_109 : decode prog_10_method_18_code 109 = .ok (.ireturn, 1) := by decide +kernel
theorem d_Mod_most_0 : decode prog_10_method_19_code 0 = .ok (.aload_n 0, 1) := by decide +kernel
theorem d_Mod_most_1 : decode prog_10_method_19_code 1 = .ok (.iload_n 1, 1) := by decide +kernel
theorem d_Mod_most_2 : decode prog_10_method_19_code 2 = .ok (.iconst 0, 1) := by decide +kernel
theorem d_Mod_most_3 : decode prog_10_method_19_code 3 = .ok (.bipush 99, 2) := by decide +kernel
theorem d_Mod_most_5 : decode prog_10_method_19_code 5 = .ok (.invokestatic 82, 3) := by decide +kernel
theorem d_Mod_most_8 : decode prog_10_method_19_code 8 = .ok (.ifCond .ne 7, 3) := by decide +kernel
theorem d_Mod_most_11 : decode prog_10_method_19_code 11 = .ok (.iconst 1, 1) := by decide +kernel
theorem d_Mod_most_12 : decode prog_10_method_19_code 12 = .ok (.goto 4, 3) := by decide +kernel
theorem d_Mod_most_15 : decode prog_10_method_19_code 15 = .ok (.iconst 0, 1) := by decide +kernel
theorem d_Mod_most_16 : decode prog_10_method_19_code 16 = .ok (.iconst 0, 1) := by decide +kernel
theorem d_Mod_most_17 : decode prog_10_method_19_code 17 = .ok (.iconst 0, 1) := by decide +kernel
theorem d_Mod_most_18 : decode prog_10_method_19_code 18 = .ok (.invokevirtual 106, 3) := by decide +kernel
theorem d_Mod_most_21 : decode prog_10_method_19_code 21 = .ok (.ifCond .eq 5, 3) := by decide +kernel
theorem d_Mod_most_24 : decode prog_10_method_19_code 24 = .ok (.iconst 0, 1) := by decide +kernel
theorem d_Mod_most_25 : decode prog_10_method_19_code 25 = .ok (.ireturn, 1) := by decide +kernel
theorem d_Mod_most_26 : decode prog_10_method_19_code 26 = .ok (.aload_n 0, 1) := by decide +kernel
theorem d_Mod_most_27 : decode prog_10_method_19_code 27 = .ok (.getfield 47, 3) := by decide +kernel
theorem d_Mod_most_30 : decode prog_10_method_19_code 30 = .ok (.istore_n 2, 1) := by decide +kernel
theorem d_Mod_most_31 : decode prog_10_method_19_code 31 = .ok (.aload_n 0, 1) := by decide +kernel
theorem d_Mod_most_32 : decode prog_10_method_19_code 32 = .ok (.iload_n 1, 1) := by decide +kernel
theorem d_Mod_most_33 : decode prog_10_method_19_code 33 = .ok (.putfield 47, 3) := by decide +kernel
theorem d_Mod_most_36 : decode prog_10_method_19_code 36 = .ok (.aload_n 0, 1) := by decide +kernel
theorem d_Mod_most_37 : decode prog_10_method_19_code 37 = .ok (.invokevirtual 116, 3) := by decide +kernel
theorem d_Mod_most_40 : decode prog_10_method_19_code 40 = .ok (.iload_n 2, 1) := by decide +kernel
theorem d_Mod_most_41 : decode prog_10_method_19_code 41 = .ok (.ireturn, 1) := by decide +kernel
theorem d_Mod_run_0 : decode prog_10_method_36_code 0 = .ok (.aload_n 0, 1) := by decide +kernel
theorem d_Mod_run_1 : decode prog_10_method_36_code 1 = .ok (.iload_n 1, 1) := by decide +kernel
theorem d_Mod_run_2 : decode prog_10_method_36_code 2 = .ok (.iconst 0, 1) := by decide +kernel
theorem d_Mod_run_3 : decode prog_10_method_36_code 3 = .ok (.sipush 20000, 3) := by decide +kernel
theorem d_Mod_run_6 : decode prog_10_method_36_code 6 = .ok (.invokestatic 82, 3) := by decide +kernel
theorem d_Mod_run_9 : decode prog_10_method_36_code 9 = .ok (.ifCond .ne 7, 3) := by decide +kernel
theorem d_Mod_run_12 : decode prog_10_method_36_code 12 = .ok (.iconst 1, 1) := by decide +kernel
theorem d_Mod_run_13 : decode prog_10_method_36_code 13 = .ok (.goto 4, 3) := by decide +kernel
theorem d_Mod_run_16 : decode prog_10_method_36_code 16 = .ok (.iconst 0, 1) := by decide +kernel
theorem d_Mod_run_17 : decode prog_10_method_36_code 17 = .ok (.iconst 0, 1) := by decide +kernel
theorem d_Mod_run_18 : decode prog_10_method_36_code 18 = .ok (.iconst 0, 1) := by decide +kernel
theorem d_Mod_run_19 : decode prog_10_method_36_code 19 = .ok (.invokevirtual 106, 3) := by decide +kernel
theorem d_Mod_run_22 : decode prog_10_method_36_code 22 = .ok (.ifCond .eq 5, 3) := by decide +kernel
theorem d_Mod_run_25 : decode prog_10_method_36_code 25 = .ok (.iconst 0, 1) := by decide +kernel
theorem d_Mod_run_26 : decode prog_10_method_36_code 26 = .ok (.ireturn, 1) := by decide +kernel
theorem d_Mod_run_27 : decode prog_10_method_36_code 27 = .ok (.aload_n 0, 1) := by decide +kernel
theorem d_Mod_run_28 : decode prog_10_method_36_code 28 = .ok (.invokevirtual 116, 3) := by decide +kernel
theorem d_Mod_run_31 : decode prog_10_method_36_code 31 = .ok (.aload_n 0, 1) := by decide +kernel
theorem d_Mod_run_32 : decode prog_10_method_36_code 32 = .ok (.iload_n 1, 1) := by decide +kernel
theorem d_Mod_run_33 : decode prog_10_method_36_code 33 = .ok (.invokevirtual 176, 3) := by decide +kernel
theorem d_Mod_run_36 : decode prog_10_method_36_code 36 = .ok (.istore_n 2, 1) := by decide +kernel
theorem d_Mod_run_37 : decode prog_10_method_36_code 37 = .ok (.iload_n 2, 1) := by decide +kernel
theorem d_Mod_run_38 : decode prog_10_method_36_code 38 = .ok (.ifCond .ne 7, 3) := by decide +kernel
theorem d_Mod_run_41 : decode prog_10_method_36_code 41 = .ok (.iconst 1, 1) := by decide +kernel
theorem d_Mod_run_42 : decode prog_10_method_36_code 42 = .ok (.goto 15, 3) := by decide +kernel
theorem d_Mod_run_45 : decode prog_10_method_36_code 45 = .ok (.aload_n 0, 1) := by decide +kernel
theorem d_Mod_run_46 : decode prog_10_method_36_code 46 = .ok (.getfield 89, 3) := by decide +kernel
theorem d_Mod_run_49 : decode prog_10_method_36_code 49 = .ok (.ifCond .eq 7, 3) := by decide +kernel
theorem d_Mod_run_52 : decode prog_10_method_36_code 52 = .ok (.iconst 0, 1) := by decide +kernel
theorem d_Mod_run_53 : decode prog_10_method_36_code 53 = .ok (.goto 4, 3) := by decide +kernel
theorem d_Mod_run_56 : decode prog_10_method_36_code 56 = .ok (.iconst 2, 1) := by decide +kernel
theorem d_Mod_run_57 : decode prog_10_method_36_code 57 = .ok (.ireturn, 1) := by decide +kernel
theorem d_Mod_search_0 : decode prog_10_method_35_code 0 = .ok (.iconst 0, 1) := by decide +kernel
theorem d_Mod_search_1 : decode prog_10_method_35_code 1 = .ok (.istore_n 2, 1) := by decide +kernel
theorem d_Mod_search_2 : decode prog_10_method_35_code 2 = .ok (.aload_n 0, 1) := by decide +kernel
theorem d_Mod_search_3 : decode prog_10_method_35_code 3 = .ok (.getfield 57, 3) := by decide +kernel
theorem d_Mod_search_6 : decode prog_10_method_35_code 6 = .ok (.iconst 0, 1) := by decide +kernel
theorem d_Mod_search_7 : decode prog_10_method_35_code 7 = .ok (.iconst 0, 1) := by decide +kernel
theorem d_Mod_search_8 : decode prog_10_method_35_code 8 = .ok (.iastore, 1) := by decide +kernel
theorem d_Mod_search_9 : decode prog_10_method_35_code 9 = .ok (.iload_n 2, 1) := by decide +kernel
theorem d_Mod_search_10 : decode prog_10_method_35_code 10 = .ok (.ifCond .lt 140, 3) := by decide +kernel
theorem d_Mod_search_13 : decode prog_10_method_35_code 13 = .ok (.iload_n 2, 1) := by decide +kernel
theorem d_Mod_search_14 : decode prog_10_method_35_code 14 = .ok (.aload_n 0, 1) := by decide +kernel
theorem d_Mod_search_15 : decode prog_10_method_35_code 15 = .ok (.getfield 86, 3) := by decide +kernel
theorem d_Mod_search_18 : decode prog_10_method_35_code 18 = .ok (.if_icmp .ne 20, 3) := by decide +kernel
theorem d_Mod_search_21 : decode prog_10_method_35_code 21 = .ok (.aload_n 0, 1) := by decide +kernel
theorem d_Mod_search_22 : decode prog_10_method_35_code 22 = .ok (.invokevirtual 166, 3) := by decide +kernel
theorem d_Mod_search_25 : decode prog_10_method_35_code 25 = .ok (.ifCond .eq 7, 3) := by decide +kernel
theorem d_Mod_search_28 : decode prog_10_method_35_code 28 = .ok (.aload_n 0, 1) := by decide +kernel
theorem d_Mod_search_29 : decode prog_10_method_35_code 29 = .ok (.invokevirtual 170, 3) := by decide +kernel
theorem d_Mod_search_32 : decode prog_10_method_35_code 32 = .ok (.iinc 2 (-1), 3) := by decide +kernel
theorem d_Mod_search_35 : decode prog_10_method_35_code 35 = .ok (.goto (-26), 3) := by decide +kernel
theorem d_Mod_search_38 : decode prog_10_method_35_code 38 = .ok (.aload_n 0, 1) := by decide +kernel
theorem d_Mod_search_39 : decode prog_10_method_35_code 39 = .ok (.getfield 57, 3) := by decide +kernel
theorem d_Mod_search_42 : decode prog_10_method_35_code 42 = .ok (.iload_n 2, 1) := by decide +kernel
theorem d_Mod_search_43 : decode prog_10_method_35_code 43 = .ok (.iaload, 1) := by decide +kernel
theorem d_Mod_search_44 : decode prog_10_method_35_code 44 = .ok (.aload_n 0, 1) := by decide +kernel
theorem d_Mod_search_45 : decode prog_10_method_35_code 45 = .ok (.getfield 73, 3) := by decide +kernel
theorem d_Mod_search_48 : decode prog_10_method_35_code 48 = .ok (.aload_n 0, 1) := by decide +kernel
theorem d_Mod_search_49 : decode prog_10_method_35_code 49 = .ok (.getfield 76, 3) := by decide +kernel
theorem d_Mod_search_52 : decode prog_10_method_35_code 52 = .ok (.imul, 1) := by decide +kernel
theorem d_Mod_search_53 : decode prog_10_method_35_code 53 = .ok (.if_icmp .ne 9, 3) := by decide +kernel
theorem d_Mod_search_56 : decode prog_10_method_35_code 56 = .ok (.iinc 2 (-1), 3) := by decide +kernel
theorem d_Mod_search_59 : decode prog_10_method_35_code 59 = .ok (.goto (-50), 3) := by decide +kernel
theorem d_Mod_search_62 : decode prog_10_method_35_code 62 = .ok (.aload_n 0, 1) := by decide +kernel
theorem d_Mod_search_63 : decode prog_10_method_35_code 63 = .ok (.getfield 51, 3) := by decide +kernel
theorem d_Mod_search_66 : decode prog_10_method_35_code 66 = .ok (.iload_n 2, 1) := by decide +kernel
theorem d_Mod_search_67 : decode prog_10_method_35_code 67 = .ok (.aload_n 0, 1) := by decide +kernel
theorem d_Mod_search_68 : decode prog_10_method_35_code 68 = .ok (.getfield 57, 3) := by decide +kernel
theorem d_Mod_search_71 : decode prog_10_method_35_code 71 = .ok (.iload_n 2, 1) := by decide +kernel
theorem d_Mod_search_72 : decode prog_10_method_35_code 72 = .ok (.iaload, 1) := by decide +kernel
theorem d_Mod_search_73 : decode prog_10_method_35_code 73 = .ok (.aload_n 0, 1) := by decide +kernel
theorem d_Mod_search_74 : decode prog_10_method_35_code 74 = .ok (.getfield 73, 3) := by decide +kernel
theorem d_Mod_search_77 : decode prog_10_method_35_code 77 = .ok (.irem, 1) := by decide +kernel
theorem d_Mod_search_78 : decode prog_10_method_35_code 78 = .ok (.iastore, 1) := by decide +kernel
theorem d_Mod_search_79 : decode prog_10_method_35_code 79 = .ok (.aload_n 0, 1) := by decide +kernel
theorem d_Mod_search_80 : decode prog_10_method_35_code 80 = .ok (.getfield 54, 3) := by decide +kernel
theorem d_Mod_search_83 : decode prog_10_method_35_code 83 = .ok (.iload_n 2, 1) := by decide +kernel
theorem d_Mod_search_84 : decode prog_10_method_35_code 84 = .ok (.aload_n 0, 1) := by decide +kernel
theorem d_Mod_search_85 : decode prog_10_method_35_code 85 = .ok (.getfield 57, 3) := by decide +kernel
theorem d_Mod_search_88 : decode prog_10_method_35_code 88 = .ok (.iload_n 2, 1) := by decide +kernel
theorem d_Mod_search_89 : decode prog_10_method_35_code 89 = .ok (.iaload, 1) := by decide +kernel
theorem d_Mod_search_90 : decode prog_10_method_35_code 90 = .ok (.aload_n 0, 1) := by decide +kernel
theorem d_Mod_search_91 : decode prog_10_method_35_code 91 = .ok (.getfield 73, 3) := by decide +kernel
theorem d_Mod_search_94 : decode prog_10_method_35_code 94 = .ok (.idiv, 1) := by decide +kernel
theorem d_Mod_search_95 : decode prog_10_method_35_code 95 = .ok (.iastore, 1) := by decide +kernel
theorem d_Mod_search_96 : decode prog_10_method_35_code 96 = .ok (.aload_n 0, 1) := by decide +kernel
theorem d_Mod_search_97 : decode prog_10_method_35_code 97 = .ok (.getfield 57, 3) := by decide +kernel
theorem d_Mod_search_100 : decode prog_10_method_35_code 100 = .ok (.iload_n 2, 1) := by decide +kernel
theorem d_Mod_search_101 : decode prog_10_method_35_code 101 = .ok (.dup2, 1) := by decide +kernel
theorem d_Mod_search_102 : decode prog_10_method_35_code 102 = .ok (.iaload, 1) := by decide +kernel
theorem d_Mod_search_103 : decode prog_10_method_35_code 103 = .ok (.iconst 1, 1) := by decide +kernel
theorem d_Mod_search_104 : decode prog_10_method_35_code 104 = .ok (.iadd, 1) := by decide +kernel
theorem d_Mod_search_105 : decode prog_10_method_35_code 105 = .ok (.iastore, 1) := by decide +kernel
theorem d_Mod_search_106 : decode prog_10_method_35_code 106 = .ok (.aload_n 0, 1) := by decide +kernel
theorem d_Mod_search_107 : decode prog_10_method_35_code 107 = .ok (.iload_n 2, 1) := by decide +kernel
theorem d_Mod_search_108 : decode prog_10_method_35_code 108 = .ok (.invokevirtual 173, 3) := by decide +kernel
theorem d_Mod_search_111 : decode prog_10_method_35_code 111 = .ok (.ifCond .ne 6, 3) := by decide +kernel
theorem d_Mod_search_114 : decode prog_10_method_35_code 114 = .ok (.goto (-105), 3) := by decide +kernel
theorem d_Mod_search_117 : decode prog_10_method_35_code 117 = .ok (.aload_n 0, 1) := by decide +kernel
theorem d_Mod_search_118 : decode prog_10_method_35_code 118 = .ok (.getfield 93, 3) := by decide +kernel
theorem d_Mod_search_121 : decode prog_10_method_35_code 121 = .ok (.iload_n 1, 1) := by decide +kernel
theorem d_Mod_search_122 : decode prog_10_method_35_code 122 = .ok (.if_icmp .ne 5, 3) := by decide +kernel
theorem d_Mod_search_125 : decode prog_10_method_35_code 125 = .ok (.iconst 0, 1) := by decide +kernel
theorem d_Mod_search_126 : decode prog_10_method_35_code 126 = .ok (.ireturn, 1) := by decide +kernel
theorem d_Mod_search_127 : decode prog_10_method_35_code 127 = .ok (.aload_n 0, 1) := by decide +kernel
theorem d_Mod_search_128 : decode prog_10_method_35_code 128 = .ok (.dup, 1) := by decide +kernel
theorem d_Mod_search_129 : decode prog_10_method_35_code 129 = .ok (.getfield 93, 3) := by decide +kernel
theorem d_Mod_search_132 : decode prog_10_method_35_code 132 = .ok (.iconst 1, 1) := by decide +kernel
theorem d_Mod_search_133 : decode prog_10_method_35_code 133 = .ok (.iadd, 1) := by decide +kernel
theorem d_Mod_search_134 : decode prog_10_method_35_code 134 = .ok (.putfield 93, 3) := by decide +kernel
theorem d_Mod_search_137 : decode prog_10_method_35_code 137 = .ok (.iinc 2 1, 3) := by decide +kernel
theorem d_Mod_search_140 : decode prog_10_method_35_code 140 = .ok (.aload_n 0, 1) := by decide +kernel
theorem d_Mod_search_141 : decode prog_10_method_35_code 141 = .ok (.getfield 57, 3) := by decide +kernel
theorem d_Mod_search_144 : decode prog_10_method_35_code 144 = .ok (.iload_n 2, 1) := by decide +kernel
theorem d_Mod_search_145 : decode prog_10_method_35_code 145 = .ok (.iconst 0, 1) := by decide +kernel
theorem d_Mod_search_146 : decode prog_10_method_35_code 146 = .ok (.iastore, 1) := by decide +kernel
theorem d_Mod_search_147 : decode prog_10_method_35_code 147 = .ok (.goto (-138), 3) := by decide +kernel
theorem d_Mod_search_150 : decode prog_10_method_35_code 150 = .ok (.iconst 1, 1) := by decide +kernel
theorem d_Mod_search_151 : decode prog_10_method_35_code 151 = .ok (.ireturn, 1) := by decide +kernel
theorem d_Mod_lies_0 : decode prog_10_method_24_code 0 = .ok (.aload_n 0, 1) := by decide +kernel
theorem d_Mod_lies_1 : decode prog_10_method_24_code 1 = .ok (.getfield 51, 3) := by decide +kernel
theorem d_Mod_lies_4 : decode prog_10_method_24_code 4 = .ok (.iload_n 1, 1) := by decide +kernel
theorem d_Mod_lies_5 : decode prog_10_method_24_code 5 = .ok (.iaload, 1) := by decide +kernel
theorem d_Mod_lies_6 : decode prog_10_method_24_code 6 = .ok (.aload_n 0, 1) := by decide +kernel
theorem d_Mod_lies_7 : decode prog_10_method_24_code 7 = .ok (.getfield 17, 3) := by decide +kernel
theorem d_Mod_lies_10 : decode prog_10_method_24_code 10 = .ok (.iload_n 1, 1) := by decide +kernel
theorem d_Mod_lies_11 : decode prog_10_method_24_code 11 = .ok (.iaload, 1) := by decide +kernel
theorem d_Mod_lies_12 : decode prog_10_method_24_code 12 = .ok (.iadd, 1) := by decide +kernel
theorem d_Mod_lies_13 : decode prog_10_method_24_code 13 = .ok (.aload_n 0, 1) := by decide +kernel
theorem d_Mod_lies_14 : decode prog_10_method_24_code 14 = .ok (.getfield 73, 3) := by decide +kernel
theorem d_Mod_lies_17 : decode prog_10_method_24_code 17 = .ok (.if_icmp .gt 23, 3) := by decide +kernel
theorem d_Mod_lies_20 : decode prog_10_method_24_code 20 = .ok (.aload_n 0, 1) := by decide +kernel
theorem d_Mod_lies_21 : decode prog_10_method_24_code 21 = .ok (.getfield 54, 3) := by decide +kernel
theorem d_Mod_lies_24 : decode prog_10_method_24_code 24 = .ok (.iload_n 1, 1) := by decide +kernel
theorem d_Mod_lies_25 : decode prog_10_method_24_code 25 = .ok (.iaload, 1) := by decide +kernel
theorem d_Mod_lies_26 : decode prog_10_method_24_code 26 = .ok (.aload_n 0, 1) := by decide +kernel
theorem d_Mod_lies_27 : decode prog_10_method_24_code 27 = .ok (.getfield 20, 3) := by decide +kernel
theorem d_Mod_lies_30 : decode prog_10_method_24_code 30 = .ok (.iload_n 1, 1) := by decide +kernel
theorem d_Mod_lies_31 : decode prog_10_method_24_code 31 = .ok (.iaload, 1) := by decide +kernel
theorem d_Mod_lies_32 : decode prog_10_method_24_code 32 = .ok (.iadd, 1) := by decide +kernel
theorem d_Mod_lies_33 : decode prog_10_method_24_code 33 = .ok (.aload_n 0, 1) := by decide +kernel
theorem d_Mod_lies_34 : decode prog_10_method_24_code 34 = .ok (.getfield 76, 3) := by decide +kernel
theorem d_Mod_lies_37 : decode prog_10_method_24_code 37 = .ok (.if_icmp .le 5, 3) := by decide +kernel
theorem d_Mod_lies_40 : decode prog_10_method_24_code 40 = .ok (.iconst 0, 1) := by decide +kernel
theorem d_Mod_lies_41 : decode prog_10_method_24_code 41 = .ok (.ireturn, 1) := by decide +kernel
theorem d_Mod_lies_42 : decode prog_10_method_24_code 42 = .ok (.iconst 1, 1) := by decide +kernel
theorem d_Mod_lies_43 : decode prog_10_method_24_code 43 = .ok (.istore_n 2, 1) := by decide +kernel
theorem d_Mod_lies_44 : decode prog_10_method_24_code 44 = .ok (.iconst 0, 1) := by decide +kernel
theorem d_Mod_lies_45 : decode prog_10_method_24_code 45 = .ok (.istore_n 3, 1) := by decide +kernel
theorem d_Mod_lies_46 : decode prog_10_method_24_code 46 = .ok (.iload_n 3, 1) := by decide +kernel
theorem d_Mod_lies_47 : decode prog_10_method_24_code 47 = .ok (.aload_n 0, 1) := by decide +kernel
theorem d_Mod_lies_48 : decode prog_10_method_24_code 48 = .ok (.getfield 17, 3) := by decide +kernel
theorem d_Mod_lies_51 : decode prog_10_method_24_code 51 = .ok (.iload_n 1, 1) := by decide +kernel
theorem d_Mod_lies_52 : decode prog_10_method_24_code 52 = .ok (.iaload, 1) := by decide +kernel
theorem d_Mod_lies_53 : decode prog_10_method_24_code 53 = .ok (.aload_n 0, 1) := by decide +kernel
theorem d_Mod_lies_54 : decode prog_10_method_24_code 54 = .ok (.getfield 20, 3) := by decide +kernel
theorem d_Mod_lies_57 : decode prog_10_method_24_code 57 = .ok (.iload_n 1, 1) := by decide +kernel
theorem d_Mod_lies_58 : decode prog_10_method_24_code 58 = .ok (.iaload, 1) := by decide +kernel
theorem d_Mod_lies_59 : decode prog_10_method_24_code 59 = .ok (.imul, 1) := by decide +kernel
theorem d_Mod_lies_60 : decode prog_10_method_24_code 60 = .ok (.if_icmp .ge 90, 3) := by decide +kernel
theorem d_Mod_lies_63 : decode prog_10_method_24_code 63 = .ok (.bipush 9, 2) := by decide +kernel
theorem d_Mod_lies_65 : decode prog_10_method_24_code 65 = .ok (.aload_n 0, 1) := by decide +kernel
theorem d_Mod_lies_66 : decode prog_10_method_24_code 66 = .ok (.getfield 54, 3) := by decide +kernel
theorem d_Mod_lies_69 : decode prog_10_method_24_code 69 = .ok (.iload_n 1, 1) := by decide +kernel
theorem d_Mod_lies_70 : decode prog_10_method_24_code 70 = .ok (.iaload, 1) := by decide +kernel
theorem d_Mod_lies_71 : decode prog_10_method_24_code 71 = .ok (.iload_n 3, 1) := by decide +kernel
theorem d_Mod_lies_72 : decode prog_10_method_24_code 72 = .ok (.aload_n 0, 1) := by decide +kernel
theorem d_Mod_lies_73 : decode prog_10_method_24_code 73 = .ok (.getfield 17, 3) := by decide +kernel
theorem d_Mod_lies_76 : decode prog_10_method_24_code 76 = .ok (.iload_n 1, 1) := by decide +kernel
theorem d_Mod_lies_77 : decode prog_10_method_24_code 77 = .ok (.iaload, 1) := by decide +kernel
theorem d_Mod_lies_78 : decode prog_10_method_24_code 78 = .ok (.idiv, 1) := by decide +kernel
theorem d_Mod_lies_79 : decode prog_10_method_24_code 79 = .ok (.iadd, 1) := by decide +kernel
theorem d_Mod_lies_80 : decode prog_10_method_24_code 80 = .ok (.imul, 1) := by decide +kernel
theorem d_Mod_lies_81 : decode prog_10_method_24_code 81 = .ok (.aload_n 0, 1) := by decide +kernel
theorem d_Mod_lies_82 : decode prog_10_method_24_code 82 = .ok (.getfield 51, 3) := by decide +kernel
theorem d_Mod_lies_85 : decode prog_10_method_24_code 85 = .ok (.iload_n 1, 1) := by decide +kernel
theorem d_Mod_lies_86 : decode prog_10_method_24_code 86 = .ok (.iaload, 1) := by decide +kernel
theorem d_Mod_lies_87 : decode prog_10_method_24_code 87 = .ok (.iadd, 1) := by decide +kernel
theorem d_Mod_lies_88 : decode prog_10_method_24_code 88 = .ok (.iload_n 3, 1) := by decide +kernel
theorem d_Mod_lies_89 : decode prog_10_method_24_code 89 = .ok (.aload_n 0, 1) := by decide +kernel
theorem d_Mod_lies_90 : decode prog_10_method_24_code 90 = .ok (.getfield 17, 3) := by decide +kernel
theorem d_Mod_lies_93 : decode prog_10_method_24_code 93 = .ok (.iload_n 1, 1) := by decide +kernel
theorem d_Mod_lies_94 : decode prog_10_method_24_code 94 = .ok (.iaload, 1) := by decide +kernel
theorem d_Mod_lies_95 : decode prog_10_method_24_code 95 = .ok (.irem, 1) := by decide +kernel
theorem d_Mod_lies_96 : decode prog_10_method_24_code 96 = .ok (.iadd, 1) := by decide +kernel
theorem d_Mod_lies_97 : decode prog_10_method_24_code 97 = .ok (.istore 4, 2) := by decide +kernel
theorem d_Mod_lies_99 : decode prog_10_method_24_code 99 = .ok (.iload_n 2, 1) := by decide +kernel
theorem d_Mod_lies_100 : decode prog_10_method_24_code 100 = .ok (.ifCond .eq 42, 3) := by decide +kernel
theorem d_Mod_lies_103 : decode prog_10_method_24_code 103 = .ok (.aload_n 0, 1) := by decide +kernel
theorem d_Mod_lies_104 : decode prog_10_method_24_code 104 = .ok (.getfield 7, 3) := by decide +kernel
theorem d_Mod_lies_107 : decode prog_10_method_24_code 107 = .ok (.iload 4, 2) := by decide +kernel
theorem d_Mod_lies_109 : decode prog_10_method_24_code 109 = .ok (.baload, 1) := by decide +kernel
theorem d_Mod_lies_110 : decode prog_10_method_24_code 110 = .ok (.ifCond .ne 32, 3) := by decide +kernel
theorem d_Mod_lies_113 : decode prog_10_method_24_code 113 = .ok (.aload_n 0, 1) := by decide +kernel
theorem d_Mod_lies_114 : decode prog_10_method_24_code 114 = .ok (.getfield 23, 3) := by decide +kernel
theorem d_Mod_lies_117 : decode prog_10_method_24_code 117 = .ok (.iload_n 1, 1) := by decide +kernel
theorem d_Mod_lies_118 : decode prog_10_method_24_code 118 = .ok (.iaload, 1) := by decide +kernel
theorem d_Mod_lies_119 : decode prog_10_method_24_code 119 = .ok (.ifCond .eq 19, 3) := by decide +kernel
theorem d_Mod_lies_122 : decode prog_10_method_24_code 122 = .ok (.aload_n 0, 1) := by decide +kernel
theorem d_Mod_lies_123 : decode prog_10_method_24_code 123 = .ok (.getfield 13, 3) := by decide +kernel
theorem d_Mod_lies_126 : decode prog_10_method_24_code 126 = .ok (.iload 4, 2) := by decide +kernel
theorem d_Mod_lies_128 : decode prog_10_method_24_code 128 = .ok (.iaload, 1) := by decide +kernel
theorem d_Mod_lies_129 : decode prog_10_method_24_code 129 = .ok (.aload_n 0, 1) := by decide +kernel
theorem d_Mod_lies_130 : decode prog_10_method_24_code 130 = .ok (.getfield 23, 3) := by decide +kernel
theorem d_Mod_lies_133 : decode prog_10_method_24_code 133 = .ok (.iload_n 1, 1) := by decide +kernel
theorem d_Mod_lies_134 : decode prog_10_method_24_code 134 = .ok (.iaload, 1) := by decide +kernel
theorem d_Mod_lies_135 : decode prog_10_method_24_code 135 = .ok (.if_icmp .ne 7, 3) := by decide +kernel
theorem d_Mod_lies_138 : decode prog_10_method_24_code 138 = .ok (.iconst 1, 1) := by decide +kernel
theorem d_Mod_lies_139 : decode prog_10_method_24_code 139 = .ok (.goto 4, 3) := by decide +kernel
theorem d_Mod_lies_142 : decode prog_10_method_24_code 142 = .ok (.iconst 0, 1) := by decide +kernel
theorem d_Mod_lies_143 : decode prog_10_method_24_code 143 = .ok (.istore_n 2, 1) := by decide +kernel
theorem d_Mod_lies_144 : decode prog_10_method_24_code 144 = .ok (.iinc 3 1, 3) := by decide +kernel
theorem d_Mod_lies_147 : decode prog_10_method_24_code 147 = .ok (.goto (-101), 3) := by decide +kernel
theorem d_Mod_lies_150 : decode prog_10_method_24_code 150 = .ok (.iconst 0, 1) := by decide +kernel
theorem d_Mod_lies_151 : decode prog_10_method_24_code 151 = .ok (.istore_n 3, 1) := by decide +kernel
theorem d_Mod_lies_152 : decode prog_10_method_24_code 152 = .ok (.iload_n 3, 1) := by decide +kernel
theorem d_Mod_lies_153 : decode prog_10_method_24_code 153 = .ok (.iload_n 1, 1) := by decide +kernel
theorem d_Mod_lies_154 : decode prog_10_method_24_code 154 = .ok (.if_icmp .ge 48, 3) := by decide +kernel
theorem d_Mod_lies_157 : decode prog_10_method_24_code 157 = .ok (.iload_n 2, 1) := by decide +kernel
theorem d_Mod_lies_158 : decode prog_10_method_24_code 158 = .ok (.ifCond .eq 36, 3) := by decide +kernel
theorem d_Mod_lies_161 : decode prog_10_method_24_code 161 = .ok (.aload_n 0, 1) := by decide +kernel
theorem d_Mod_lies_162 : decode prog_10_method_24_code 162 = .ok (.iload_n 3, 1) := by decide +kernel
theorem d_Mod_lies_163 : decode prog_10_method_24_code 163 = .ok (.iload_n 1, 1) := by decide +kernel
theorem d_Mod_lies_164 : decode prog_10_method_24_code 164 = .ok (.invokevirtual 127, 3) := by decide +kernel
theorem d_Mod_lies_167 : decode prog_10_method_24_code 167 = .ok (.ifCond .ne 27, 3) := by decide +kernel
theorem d_Mod_lies_170 : decode prog_10_method_24_code 170 = .ok (.aload_n 0, 1) := by decide +kernel
theorem d_Mod_lies_171 : decode prog_10_method_24_code 171 = .ok (.iload_n 3, 1) := by decide +kernel
theorem d_Mod_lies_172 : decode prog_10_method_24_code 172 = .ok (.iload_n 1, 1) := by decide +kernel
theorem d_Mod_lies_173 : decode prog_10_method_24_code 173 = .ok (.invokevirtual 130, 3) := by decide +kernel
theorem d_Mod_lies_176 : decode prog_10_method_24_code 176 = .ok (.aload_n 0, 1) := by decide +kernel
theorem d_Mod_lies_177 : decode prog_10_method_24_code 177 = .ok (.getfield 26, 3) := by decide +kernel
theorem d_Mod_lies_180 : decode prog_10_method_24_code 180 = .ok (.bipush 7, 2) := by decide +kernel
theorem d_Mod_lies_182 : decode prog_10_method_24_code 182 = .ok (.iload_n 3, 1) := by decide +kernel
theorem d_Mod_lies_183 : decode prog_10_method_24_code 183 = .ok (.imul, 1) := by decide +kernel
theorem d_Mod_lies_184 : decode prog_10_method_24_code 184 = .ok (.iload_n 1, 1) := by decide +kernel
theorem d_Mod_lies_185 : decode prog_10_method_24_code 185 = .ok (.iadd, 1) := by decide +kernel
theorem d_Mod_lies_186 : decode prog_10_method_24_code 186 = .ok (.iaload, 1) := by decide +kernel
theorem d_Mod_lies_187 : decode prog_10_method_24_code 187 = .ok (.if_icmp .lt 7, 3) := by decide +kernel
theorem d_Mod_lies_190 : decode prog_10_method_24_code 190 = .ok (.iconst 1, 1) := by decide +kernel
theorem d_Mod_lies_191 : decode prog_10_method_24_code 191 = .ok (.goto 4, 3) := by decide +kernel
theorem d_Mod_lies_194 : decode prog_10_method_24_code 194 = .ok (.iconst 0, 1) := by decide +kernel
theorem d_Mod_lies_195 : decode prog_10_method_24_code 195 = .ok (.istore_n 2, 1) := by decide +kernel
theorem d_Mod_lies_196 : decode prog_10_method_24_code 196 = .ok (.iinc 3 1, 3) := by decide +kernel
theorem d_Mod_lies_199 : decode prog_10_method_24_code 199 = .ok (.goto (-47), 3) := by decide +kernel
theorem d_Mod_lies_202 : decode prog_10_method_24_code 202 = .ok (.iload_n 2, 1) := by decide +kernel
theorem d_Mod_lies_203 : decode prog_10_method_24_code 203 = .ok (.ireturn, 1) := by decide +kernel
theorem d_Mod_meets_0 : decode prog_10_method_22_code 0 = .ok (.aload_n 0, 1) := by decide +kernel
theorem d_Mod_meets_1 : decode prog_10_method_22_code 1 = .ok (.getfield 51, 3) := by decide +kernel
theorem d_Mod_meets_4 : decode prog_10_method_22_code 4 = .ok (.iload_n 1, 1) := by decide +kernel
theorem d_Mod_meets_5 : decode prog_10_method_22_code 5 = .ok (.iaload, 1) := by decide +kernel
theorem d_Mod_meets_6 : decode prog_10_method_22_code 6 = .ok (.aload_n 0, 1) := by decide +kernel
theorem d_Mod_meets_7 : decode prog_10_method_22_code 7 = .ok (.getfield 51, 3) := by decide +kernel
theorem d_Mod_meets_10 : decode prog_10_method_22_code 10 = .ok (.iload_n 2, 1) := by decide +kernel
theorem d_Mod_meets_11 : decode prog_10_method_22_code 11 = .ok (.iaload, 1) := by decide +kernel
theorem d_Mod_meets_12 : decode prog_10_method_22_code 12 = .ok (.aload_n 0, 1) := by decide +kernel
theorem d_Mod_meets_13 : decode prog_10_method_22_code 13 = .ok (.getfield 17, 3) := by decide +kernel
theorem d_Mod_meets_16 : decode prog_10_method_22_code 16 = .ok (.iload_n 2, 1) := by decide +kernel
theorem d_Mod_meets_17 : decode prog_10_method_22_code 17 = .ok (.iaload, 1) := by decide +kernel
theorem d_Mod_meets_18 : decode prog_10_method_22_code 18 = .ok (.iadd, 1) := by decide +kernel
theorem d_Mod_meets_19 : decode prog_10_method_22_code 19 = .ok (.if_icmp .ge 73, 3) := by decide +kernel
theorem d_Mod_meets_22 : decode prog_10_method_22_code 22 = .ok (.aload_n 0, 1) := by decide +kernel
theorem d_Mod_meets_23 : decode prog_10_method_22_code 23 = .ok (.getfield 51, 3) := by decide +kernel
theorem d_Mod_meets_26 : decode prog_10_method_22_code 26 = .ok (.iload_n 2, 1) := by decide +kernel
theorem d_Mod_meets_27 : decode prog_10_method_22_code 27 = .ok (.iaload, 1) := by decide +kernel
theorem d_Mod_meets_28 : decode prog_10_method_22_code 28 = .ok (.aload_n 0, 1) := by decide +kernel
theorem d_Mod_meets_29 : decode prog_10_method_22_code 29 = .ok (.getfield 51, 3) := by decide +kernel
theorem d_Mod_meets_32 : decode prog_10_method_22_code 32 = .ok (.iload_n 1, 1) := by decide +kernel
theorem d_Mod_meets_33 : decode prog_10_method_22_code 33 = .ok (.iaload, 1) := by decide +kernel
theorem d_Mod_meets_34 : decode prog_10_method_22_code 34 = .ok (.aload_n 0, 1) := by decide +kernel
theorem d_Mod_meets_35 : decode prog_10_method_22_code 35 = .ok (.getfield 17, 3) := by decide +kernel
theorem d_Mod_meets_38 : decode prog_10_method_22_code 38 = .ok (.iload_n 1, 1) := by decide +kernel
theorem d_Mod_meets_39 : decode prog_10_method_22_code 39 = .ok (.iaload, 1) := by decide +kernel
theorem d_Mod_meets_40 : decode prog_10_method_22_code 40 = .ok (.iadd, 1) := by decide +kernel
theorem d_Mod_meets_41 : decode prog_10_method_22_code 41 = .ok (.if_icmp .ge 51, 3) := by decide +kernel
theorem d_Mod_meets_44 : decode prog_10_method_22_code 44 = .ok (.aload_n 0, 1) := by decide +kernel
theorem d_Mod_meets_45 : decode prog_10_method_22_code 45 = .ok (.getfield 54, 3) := by decide +kernel
theorem d_Mod_meets_48 : decode prog_10_method_22_code 48 = .ok (.iload_n 1, 1) := by decide +kernel
theorem d_Mod_meets_49 : decode prog_10_method_22_code 49 = .ok (.iaload, 1) := by decide +kernel
theorem d_Mod_meets_50 : decode prog_10_method_22_code 50 = .ok (.aload_n 0, 1) := by decide +kernel
theorem d_Mod_meets_51 : decode prog_10_method_22_code 51 = .ok (.getfield 54, 3) := by decide +kernel
theorem d_Mod_meets_54 : decode prog_10_method_22_code 54 = .ok (.iload_n 2, 1) := by decide +kernel
theorem d_Mod_meets_55 : decode prog_10_method_22_code 55 = .ok (.iaload, 1) := by decide +kernel
theorem d_Mod_meets_56 : decode prog_10_method_22_code 56 = .ok (.aload_n 0, 1) := by decide +kernel
theorem d_Mod_meets_57 : decode prog_10_method_22_code 57 = .ok (.getfield 20, 3) := by decide +kernel
theorem d_Mod_meets_60 : decode prog_10_method_22_code 60 = .ok (.iload_n 2, 1) := by decide +kernel
theorem d_Mod_meets_61 : decode prog_10_method_22_code 61 = .ok (.iaload, 1) := by decide +kernel
theorem d_Mod_meets_62 : decode prog_10_method_22_code 62 = .ok (.iadd, 1) := by decide +kernel
theorem d_Mod_meets_63 : decode prog_10_method_22_code 63 = .ok (.if_icmp .ge 29, 3) := by decide +kernel
theorem d_Mod_meets_66 : decode prog_10_method_22_code 66 = .ok (.aload_n 0, 1) := by decide +kernel
theorem d_Mod_meets_67 : decode prog_10_method_22_code 67 = .ok (.getfield 54, 3) := by decide +kernel
theorem d_Mod_meets_70 : decode prog_10_method_22_code 70 = .ok (.iload_n 2, 1) := by decide +kernel
theorem d_Mod_meets_71 : decode prog_10_method_22_code 71 = .ok (.iaload, 1) := by decide +kernel
theorem d_Mod_meets_72 : decode prog_10_method_22_code 72 = .ok (.aload_n 0, 1) := by decide +kernel
theorem d_Mod_meets_73 : decode prog_10_method_22_code 73 = .ok (.getfield 54, 3) := by decide +kernel
theorem d_Mod_meets_76 : decode prog_10_method_22_code 76 = .ok (.iload_n 1, 1) := by decide +kernel
theorem d_Mod_meets_77 : decode prog_10_method_22_code 77 = .ok (.iaload, 1) := by decide +kernel
theorem d_Mod_meets_78 : decode prog_10_method_22_code 78 = .ok (.aload_n 0, 1) := by decide +kernel
theorem d_Mod_meets_79 : decode prog_10_method_22_code 79 = .ok (.getfield 20, 3) := by decide +kernel
theorem d_Mod_meets_82 : decode prog_10_method_22_code 82 = .ok (.iload_n 1, 1) := by decide +kernel
theorem d_Mod_meets_83 : decode prog_10_method_22_code 83 = .ok (.iaload, 1) := by decide +kernel
theorem d_Mod_meets_84 : decode prog_10_method_22_code 84 = .ok (.iadd, 1) := by decide +kernel
theorem d_Mod_meets_85 : decode prog_10_method_22_code 85 = .ok (.if_icmp .ge 7, 3) := by decide +kernel
theorem d_Mod_meets_88 : decode prog_10_method_22_code 88 = .ok (.iconst 1, 1) := by decide +kernel
theorem d_Mod_meets_89 : decode prog_10_method_22_code 89 = .ok (.goto 4, 3) := by decide +kernel
theorem d_Mod_meets_92 : decode prog_10_method_22_code 92 = .ok (.iconst 0, 1) := by decide +kernel
theorem d_Mod_meets_93 : decode prog_10_method_22_code 93 = .ok (.ireturn, 1) := by decide +kernel
theorem d_Mod_gap_0 : decode prog_10_method_21_code 0 = .ok (.aload_n 0, 1) := by decide +kernel
theorem d_Mod_gap_1 : decode prog_10_method_21_code 1 = .ok (.getfield 51, 3) := by decide +kernel
theorem d_Mod_gap_4 : decode prog_10_method_21_code 4 = .ok (.iload_n 1, 1) := by decide +kernel
theorem d_Mod_gap_5 : decode prog_10_method_21_code 5 = .ok (.iaload, 1) := by decide +kernel
theorem d_Mod_gap_6 : decode prog_10_method_21_code 6 = .ok (.aload_n 0, 1) := by decide +kernel
theorem d_Mod_gap_7 : decode prog_10_method_21_code 7 = .ok (.getfield 17, 3) := by decide +kernel
theorem d_Mod_gap_10 : decode prog_10_method_21_code 10 = .ok (.iload_n 1, 1) := by decide +kernel
theorem d_Mod_gap_11 : decode prog_10_method_21_code 11 = .ok (.iaload, 1) := by decide +kernel
theorem d_Mod_gap_12 : decode prog_10_method_21_code 12 = .ok (.aload_n 0, 1) := by decide +kernel
theorem d_Mod_gap_13 : decode prog_10_method_21_code 13 = .ok (.getfield 51, 3) := by decide +kernel
theorem d_Mod_gap_16 : decode prog_10_method_21_code 16 = .ok (.iload_n 2, 1) := by decide +kernel
theorem d_Mod_gap_17 : decode prog_10_method_21_code 17 = .ok (.iaload, 1) := by decide +kernel
theorem d_Mod_gap_18 : decode prog_10_method_21_code 18 = .ok (.aload_n 0, 1) := by decide +kernel
theorem d_Mod_gap_19 : decode prog_10_method_21_code 19 = .ok (.getfield 17, 3) := by decide +kernel
theorem d_Mod_gap_22 : decode prog_10_method_21_code 22 = .ok (.iload_n 2, 1) := by decide +kernel
theorem d_Mod_gap_23 : decode prog_10_method_21_code 23 = .ok (.iaload, 1) := by decide +kernel
