theorem d_Floor_isCrossed_5 : decode prog_3_method_6_code 5 = .ok (.iload_n 0, 1) := by decide +kernel
theorem d_Floor_isCrossed_6 : decode prog_3_method_6_code 6 = .ok (.imul, 1) := by decide +kernel
theorem d_Floor_isCrossed_7 : decode prog_3_method_6_code 7 = .ok (.isub, 1) := by decide +kernel
theorem d_Floor_isCrossed_8 : decode prog_3_method_6_code 8 = .ok (.invokestatic 86, 3) := by decide +kernel
theorem d_Floor_isCrossed_11 : decode prog_3_method_6_code 11 = .ok (.imul, 1) := by decide +kernel
theorem d_Floor_isCrossed_12 : decode prog_3_method_6_code 12 = .ok (.iload_n 2, 1) := by decide +kernel
theorem d_Floor_isCrossed_13 : decode prog_3_method_6_code 13 = .ok (.invokestatic 86, 3) := by decide +kernel
theorem d_Floor_isCrossed_16 : decode prog_3_method_6_code 16 = .ok (.iload_n 3, 1) := by decide +kernel
theorem d_Floor_isCrossed_17 : decode prog_3_method_6_code 17 = .ok (.invokestatic 86, 3) := by decide +kernel
theorem d_Floor_isCrossed_20 : decode prog_3_method_6_code 20 = .ok (.iadd, 1) := by decide +kernel
theorem d_Floor_isCrossed_21 : decode prog_3_method_6_code 21 = .ok (.if_icmp .ge 7, 3) := by decide +kernel
theorem d_Floor_isCrossed_24 : decode prog_3_method_6_code 24 = .ok (.iconst 1, 1) := by decide +kernel
theorem d_Floor_isCrossed_25 : decode prog_3_method_6_code 25 = .ok (.goto 4, 3) := by decide +kernel
theorem d_Floor_isCrossed_28 : decode prog_3_method_6_code 28 = .ok (.iconst 0, 1) := by decide +kernel
theorem d_Floor_isCrossed_29 : decode prog_3_method_6_code 29 = .ok (.ireturn, 1) := by decide +kernel
theorem d_Floor_isNear_0 : decode prog_3_method_10_code 0 = .ok (.aload_n 0, 1) := by decide +kernel
theorem d_Floor_isNear_1 : decode prog_3_method_10_code 1 = .ok (.getfield 25, 3) := by decide +kernel
theorem d_Floor_isNear_4 : decode prog_3_method_10_code 4 = .ok (.iload_n 1, 1) := by decide +kernel
theorem d_Floor_isNear_5 : decode prog_3_method_10_code 5 = .ok (.iload_n 2, 1) := by decide +kernel
theorem d_Floor_isNear_6 : decode prog_3_method_10_code 6 = .ok (.invokevirtual 62, 3) := by decide +kernel
theorem d_Floor_isNear_9 : decode prog_3_method_10_code 9 = .ok (.ifCond .ne 5, 3) := by decide +kernel
theorem d_Floor_isNear_12 : decode prog_3_method_10_code 12 = .ok (.iconst 0, 1) := by decide +kernel
theorem d_Floor_isNear_13 : decode prog_3_method_10_code 13 = .ok (.ireturn, 1) := by decide +kernel
theorem d_Floor_isNear_14 : decode prog_3_method_10_code 14 = .ok (.aload_n 0, 1) := by decide +kernel
theorem d_Floor_isNear_15 : decode prog_3_method_10_code 15 = .ok (.getfield 15, 3) := by decide +kernel
theorem d_Floor_isNear_18 : decode prog_3_method_10_code 18 = .ok (.iload_n 1, 1) := by decide +kernel
theorem d_Floor_isNear_19 : decode prog_3_method_10_code 19 = .ok (.iload_n 2, 1) := by decide +kernel
theorem d_Floor_isNear_20 : decode prog_3_method_10_code 20 = .ok (.invokestatic 66, 3) := by decide +kernel
theorem d_Floor_isNear_23 : decode prog_3_method_10_code 23 = .ok (.iaload, 1) := by decide +kernel
theorem d_Floor_isNear_24 : decode prog_3_method_10_code 24 = .ok (.istore 4, 2) := by decide +kernel
theorem d_Floor_isNear_26 : decode prog_3_method_10_code 26 = .ok (.iload 4, 2) := by decide +kernel
theorem d_Floor_isNear_28 : decode prog_3_method_10_code 28 = .ok (.iconst (-1), 1) := by decide +kernel
theorem d_Floor_isNear_29 : decode prog_3_method_10_code 29 = .ok (.if_icmp .eq 13, 3) := by decide +kernel
theorem d_Floor_isNear_32 : decode prog_3_method_10_code 32 = .ok (.iload 4, 2) := by decide +kernel
theorem d_Floor_isNear_34 : decode prog_3_method_10_code 34 = .ok (.iload_n 3, 1) := by decide +kernel
theorem d_Floor_isNear_35 : decode prog_3_method_10_code 35 = .ok (.if_icmp .gt 7, 3) := by decide +kernel
theorem d_Floor_isNear_38 : decode prog_3_method_10_code 38 = .ok (.iconst 1, 1) := by decide +kernel
theorem d_Floor_isNear_39 : decode prog_3_method_10_code 39 = .ok (.goto 4, 3) := by decide +kernel
theorem d_Floor_isNear_42 : decode prog_3_method_10_code 42 = .ok (.iconst 0, 1) := by decide +kernel
theorem d_Floor_isNear_43 : decode prog_3_method_10_code 43 = .ok (.ireturn, 1) := by decide +kernel
theorem d_Floor_isSeen_0 : decode prog_3_method_4_code 0 = .ok (.aload_n 1, 1) := by decide +kernel
theorem d_Floor_isSeen_1 : decode prog_3_method_4_code 1 = .ok (.getfield 50, 3) := by decide +kernel
theorem d_Floor_isSeen_4 : decode prog_3_method_4_code 4 = .ok (.iload_n 2, 1) := by decide +kernel
theorem d_Floor_isSeen_5 : decode prog_3_method_4_code 5 = .ok (.iaload, 1) := by decide +kernel
theorem d_Floor_isSeen_6 : decode prog_3_method_4_code 6 = .ok (.istore 5, 2) := by decide +kernel
theorem d_Floor_isSeen_8 : decode prog_3_method_4_code 8 = .ok (.aload_n 1, 1) := by decide +kernel
theorem d_Floor_isSeen_9 : decode prog_3_method_4_code 9 = .ok (.getfield 53, 3) := by decide +kernel
theorem d_Floor_isSeen_12 : decode prog_3_method_4_code 12 = .ok (.iload_n 2, 1) := by decide +kernel
theorem d_Floor_isSeen_13 : decode prog_3_method_4_code 13 = .ok (.iaload, 1) := by decide +kernel
theorem d_Floor_isSeen_14 : decode prog_3_method_4_code 14 = .ok (.istore 6, 2) := by decide +kernel
theorem d_Floor_isSeen_16 : decode prog_3_method_4_code 16 = .ok (.iload 4, 2) := by decide +kernel
theorem d_Floor_isSeen_18 : decode prog_3_method_4_code 18 = .ok (.iload 6, 2) := by decide +kernel
theorem d_Floor_isSeen_20 : decode prog_3_method_4_code 20 = .ok (.invokestatic 70, 3) := by decide +kernel
theorem d_Floor_isSeen_23 : decode prog_3_method_4_code 23 = .ok (.istore 7, 2) := by decide +kernel
theorem d_Floor_isSeen_25 : decode prog_3_method_4_code 25 = .ok (.iload 7, 2) := by decide +kernel
theorem d_Floor_isSeen_27 : decode prog_3_method_4_code 27 = .ok (.iload 4, 2) := by decide +kernel
theorem d_Floor_isSeen_29 : decode prog_3_method_4_code 29 = .ok (.iload 6, 2) := by decide +kernel
theorem d_Floor_isSeen_31 : decode prog_3_method_4_code 31 = .ok (.invokestatic 75, 3) := by decide +kernel
theorem d_Floor_isSeen_34 : decode prog_3_method_4_code 34 = .ok (.if_icmp .gt 72, 3) := by decide +kernel
theorem d_Floor_isSeen_37 : decode prog_3_method_4_code 37 = .ok (.iload_n 3, 1) := by decide +kernel
theorem d_Floor_isSeen_38 : decode prog_3_method_4_code 38 = .ok (.iload 5, 2) := by decide +kernel
theorem d_Floor_isSeen_40 : decode prog_3_method_4_code 40 = .ok (.invokestatic 70, 3) := by decide +kernel
theorem d_Floor_isSeen_43 : decode prog_3_method_4_code 43 = .ok (.istore 8, 2) := by decide +kernel
theorem d_Floor_isSeen_45 : decode prog_3_method_4_code 45 = .ok (.iload 8, 2) := by decide +kernel
theorem d_Floor_isSeen_47 : decode prog_3_method_4_code 47 = .ok (.iload_n 3, 1) := by decide +kernel
theorem d_Floor_isSeen_48 : decode prog_3_method_4_code 48 = .ok (.iload 5, 2) := by decide +kernel
theorem d_Floor_isSeen_50 : decode prog_3_method_4_code 50 = .ok (.invokestatic 75, 3) := by decide +kernel
theorem d_Floor_isSeen_53 : decode prog_3_method_4_code 53 = .ok (.if_icmp .gt 47, 3) := by decide +kernel
theorem d_Floor_isSeen_56 : decode prog_3_method_4_code 56 = .ok (.aload_n 0, 1) := by decide +kernel
theorem d_Floor_isSeen_57 : decode prog_3_method_4_code 57 = .ok (.iload 8, 2) := by decide +kernel
theorem d_Floor_isSeen_59 : decode prog_3_method_4_code 59 = .ok (.iload 7, 2) := by decide +kernel
theorem d_Floor_isSeen_61 : decode prog_3_method_4_code 61 = .ok (.iload_n 2, 1) := by decide +kernel
theorem d_Floor_isSeen_62 : decode prog_3_method_4_code 62 = .ok (.invokevirtual 78, 3) := by decide +kernel
theorem d_Floor_isSeen_65 : decode prog_3_method_4_code 65 = .ok (.ifCond .eq 29, 3) := by decide +kernel
theorem d_Floor_isSeen_68 : decode prog_3_method_4_code 68 = .ok (.iload 8, 2) := by decide +kernel
theorem d_Floor_isSeen_70 : decode prog_3_method_4_code 70 = .ok (.iload_n 3, 1) := by decide +kernel
theorem d_Floor_isSeen_71 : decode prog_3_method_4_code 71 = .ok (.isub, 1) := by decide +kernel
theorem d_Floor_isSeen_72 : decode prog_3_method_4_code 72 = .ok (.iload 7, 2) := by decide +kernel
theorem d_Floor_isSeen_74 : decode prog_3_method_4_code 74 = .ok (.iload 4, 2) := by decide +kernel
theorem d_Floor_isSeen_76 : decode prog_3_method_4_code 76 = .ok (.isub, 1) := by decide +kernel
theorem d_Floor_isSeen_77 : decode prog_3_method_4_code 77 = .ok (.iload 5, 2) := by decide +kernel
theorem d_Floor_isSeen_79 : decode prog_3_method_4_code 79 = .ok (.iload_n 3, 1) := by decide +kernel
theorem d_Floor_isSeen_80 : decode prog_3_method_4_code 80 = .ok (.isub, 1) := by decide +kernel
theorem d_Floor_isSeen_81 : decode prog_3_method_4_code 81 = .ok (.iload 6, 2) := by decide +kernel
theorem d_Floor_isSeen_83 : decode prog_3_method_4_code 83 = .ok (.iload 4, 2) := by decide +kernel
theorem d_Floor_isSeen_85 : decode prog_3_method_4_code 85 = .ok (.isub, 1) := by decide +kernel
theorem d_Floor_isSeen_86 : decode prog_3_method_4_code 86 = .ok (.invokestatic 82, 3) := by decide +kernel
theorem d_Floor_isSeen_89 : decode prog_3_method_4_code 89 = .ok (.ifCond .eq 5, 3) := by decide +kernel
theorem d_Floor_isSeen_92 : decode prog_3_method_4_code 92 = .ok (.iconst 0, 1) := by decide +kernel
theorem d_Floor_isSeen_93 : decode prog_3_method_4_code 93 = .ok (.ireturn, 1) := by decide +kernel
theorem d_Floor_isSeen_94 : decode prog_3_method_4_code 94 = .ok (.iinc 8 1, 3) := by decide +kernel
theorem d_Floor_isSeen_97 : decode prog_3_method_4_code 97 = .ok (.goto (-52), 3) := by decide +kernel
theorem d_Floor_isSeen_100 : decode prog_3_method_4_code 100 = .ok (.iinc 7 1, 3) := by decide +kernel
theorem d_Floor_isSeen_103 : decode prog_3_method_4_code 103 = .ok (.goto (-78), 3) := by decide +kernel
theorem d_Floor_isSeen_106 : decode prog_3_method_4_code 106 = .ok (.iconst 1, 1) := by decide +kernel
theorem d_Floor_isSeen_107 : decode prog_3_method_4_code 107 = .ok (.ireturn, 1) := by decide +kernel
theorem d_Floor_lay_0 : decode prog_3_method_2_code 0 = .ok (.iconst 0, 1) := by decide +kernel
theorem d_Floor_lay_1 : decode prog_3_method_2_code 1 = .ok (.istore_n 2, 1) := by decide +kernel
theorem d_Floor_lay_2 : decode prog_3_method_2_code 2 = .ok (.iload_n 2, 1) := by decide +kernel
theorem d_Floor_lay_3 : decode prog_3_method_2_code 3 = .ok (.bipush 81, 2) := by decide +kernel
theorem d_Floor_lay_5 : decode prog_3_method_2_code 5 = .ok (.if_icmp .ge 33, 3) := by decide +kernel
theorem d_Floor_lay_8 : decode prog_3_method_2_code 8 = .ok (.aload_n 0, 1) := by decide +kernel
theorem d_Floor_lay_9 : decode prog_3_method_2_code 9 = .ok (.getfield 9, 3) := by decide +kernel
theorem d_Floor_lay_12 : decode prog_3_method_2_code 12 = .ok (.iload_n 2, 1) := by decide +kernel
theorem d_Floor_lay_13 : decode prog_3_method_2_code 13 = .ok (.aload_n 0, 1) := by decide +kernel
theorem d_Floor_lay_14 : decode prog_3_method_2_code 14 = .ok (.getfield 25, 3) := by decide +kernel
theorem d_Floor_lay_17 : decode prog_3_method_2_code 17 = .ok (.getfield 29, 3) := by decide +kernel
theorem d_Floor_lay_20 : decode prog_3_method_2_code 20 = .ok (.iload_n 2, 1) := by decide +kernel
theorem d_Floor_lay_21 : decode prog_3_method_2_code 21 = .ok (.baload, 1) := by decide +kernel
theorem d_Floor_lay_22 : decode prog_3_method_2_code 22 = .ok (.ifCond .eq 8, 3) := by decide +kernel
theorem d_Floor_lay_25 : decode prog_3_method_2_code 25 = .ok (.bipush (-2), 2) := by decide +kernel
theorem d_Floor_lay_27 : decode prog_3_method_2_code 27 = .ok (.goto 4, 3) := by decide +kernel
theorem d_Floor_lay_30 : decode prog_3_method_2_code 30 = .ok (.iconst (-1), 1) := by decide +kernel
theorem d_Floor_lay_31 : decode prog_3_method_2_code 31 = .ok (.iastore, 1) := by decide +kernel
theorem d_Floor_lay_32 : decode prog_3_method_2_code 32 = .ok (.iinc 2 1, 3) := by decide +kernel
theorem d_Floor_lay_35 : decode prog_3_method_2_code 35 = .ok (.goto (-33), 3) := by decide +kernel
theorem d_Floor_lay_38 : decode prog_3_method_2_code 38 = .ok (.iconst 0, 1) := by decide +kernel
theorem d_Floor_lay_39 : decode prog_3_method_2_code 39 = .ok (.istore_n 2, 1) := by decide +kernel
theorem d_Floor_lay_40 : decode prog_3_method_2_code 40 = .ok (.iload_n 2, 1) := by decide +kernel
theorem d_Floor_lay_41 : decode prog_3_method_2_code 41 = .ok (.aload_n 1, 1) := by decide +kernel
theorem d_Floor_lay_42 : decode prog_3_method_2_code 42 = .ok (.getfield 35, 3) := by decide +kernel
theorem d_Floor_lay_45 : decode prog_3_method_2_code 45 = .ok (.getfield 41, 3) := by decide +kernel
theorem d_Floor_lay_48 : decode prog_3_method_2_code 48 = .ok (.if_icmp .ge 15, 3) := by decide +kernel
theorem d_Floor_lay_51 : decode prog_3_method_2_code 51 = .ok (.aload_n 0, 1) := by decide +kernel
theorem d_Floor_lay_52 : decode prog_3_method_2_code 52 = .ok (.aload_n 1, 1) := by decide +kernel
theorem d_Floor_lay_53 : decode prog_3_method_2_code 53 = .ok (.iload_n 2, 1) := by decide +kernel
theorem d_Floor_lay_54 : decode prog_3_method_2_code 54 = .ok (.invokevirtual 46, 3) := by decide +kernel
theorem d_Floor_lay_57 : decode prog_3_method_2_code 57 = .ok (.iinc 2 1, 3) := by decide +kernel
theorem d_Floor_lay_60 : decode prog_3_method_2_code 60 = .ok (.goto (-20), 3) := by decide +kernel
theorem d_Floor_lay_63 : decode prog_3_method_2_code 63 = .ok (.return_, 1) := by decide +kernel
theorem d_Floor_measure_0 : decode prog_3_method_7_code 0 = .ok (.aload_n 0, 1) := by decide +kernel
theorem d_Floor_measure_1 : decode prog_3_method_7_code 1 = .ok (.getfield 15, 3) := by decide +kernel
theorem d_Floor_measure_4 : decode prog_3_method_7_code 4 = .ok (.iconst (-1), 1) := by decide +kernel
theorem d_Floor_measure_5 : decode prog_3_method_7_code 5 = .ok (.invokestatic 90, 3) := by decide +kernel
theorem d_Floor_measure_8 : decode prog_3_method_7_code 8 = .ok (.aload_n 0, 1) := by decide +kernel
theorem d_Floor_measure_9 : decode prog_3_method_7_code 9 = .ok (.iconst 0, 1) := by decide +kernel
theorem d_Floor_measure_10 : decode prog_3_method_7_code 10 = .ok (.putfield 21, 3) := by decide +kernel
theorem d_Floor_measure_13 : decode prog_3_method_7_code 13 = .ok (.iconst 0, 1) := by decide +kernel
theorem d_Floor_measure_14 : decode prog_3_method_7_code 14 = .ok (.istore_n 2, 1) := by decide +kernel
theorem d_Floor_measure_15 : decode prog_3_method_7_code 15 = .ok (.iload_n 2, 1) := by decide +kernel
theorem d_Floor_measure_16 : decode prog_3_method_7_code 16 = .ok (.aload_n 1, 1) := by decide +kernel
theorem d_Floor_measure_17 : decode prog_3_method_7_code 17 = .ok (.getfield 96, 3) := by decide +kernel
theorem d_Floor_measure_20 : decode prog_3_method_7_code 20 = .ok (.if_icmp .ge 29, 3) := by decide +kernel
theorem d_Floor_measure_23 : decode prog_3_method_7_code 23 = .ok (.aload_n 1, 1) := by decide +kernel
theorem d_Floor_measure_24 : decode prog_3_method_7_code 24 = .ok (.getfield 99, 3) := by decide +kernel
theorem d_Floor_measure_27 : decode prog_3_method_7_code 27 = .ok (.iload_n 2, 1) := by decide +kernel
theorem d_Floor_measure_28 : decode prog_3_method_7_code 28 = .ok (.iaload, 1) := by decide +kernel
theorem d_Floor_measure_29 : decode prog_3_method_7_code 29 = .ok (.istore_n 3, 1) := by decide +kernel
theorem d_Floor_measure_30 : decode prog_3_method_7_code 30 = .ok (.aload_n 0, 1) := by decide +kernel
theorem d_Floor_measure_31 : decode prog_3_method_7_code 31 = .ok (.iload_n 3, 1) := by decide +kernel
theorem d_Floor_measure_32 : decode prog_3_method_7_code 32 = .ok (.bipush 9, 2) := by decide +kernel
theorem d_Floor_measure_34 : decode prog_3_method_7_code 34 = .ok (.irem, 1) := by decide +kernel
theorem d_Floor_measure_35 : decode prog_3_method_7_code 35 = .ok (.iload_n 3, 1) := by decide +kernel
theorem d_Floor_measure_36 : decode prog_3_method_7_code 36 = .ok (.bipush 9, 2) := by decide +kernel
theorem d_Floor_measure_38 : decode prog_3_method_7_code 38 = .ok (.idiv, 1) := by decide +kernel
theorem d_Floor_measure_39 : decode prog_3_method_7_code 39 = .ok (.iconst 0, 1) := by decide +kernel
theorem d_Floor_measure_40 : decode prog_3_method_7_code 40 = .ok (.invokevirtual 102, 3) := by decide +kernel
theorem d_Floor_measure_43 : decode prog_3_method_7_code 43 = .ok (.iinc 2 1, 3) := by decide +kernel
theorem d_Floor_measure_46 : decode prog_3_method_7_code 46 = .ok (.goto (-31), 3) := by decide +kernel
theorem d_Floor_measure_49 : decode prog_3_method_7_code 49 = .ok (.iconst 0, 1) := by decide +kernel
theorem d_Floor_measure_50 : decode prog_3_method_7_code 50 = .ok (.istore_n 2, 1) := by decide +kernel
theorem d_Floor_measure_51 : decode prog_3_method_7_code 51 = .ok (.iload_n 2, 1) := by decide +kernel
theorem d_Floor_measure_52 : decode prog_3_method_7_code 52 = .ok (.aload_n 0, 1) := by decide +kernel
theorem d_Floor_measure_53 : decode prog_3_method_7_code 53 = .ok (.getfield 21, 3) := by decide +kernel
theorem d_Floor_measure_56 : decode prog_3_method_7_code 56 = .ok (.if_icmp .ge 95, 3) := by decide +kernel
theorem d_Floor_measure_59 : decode prog_3_method_7_code 59 = .ok (.iload_n 2, 1) := by decide +kernel
theorem d_Floor_measure_60 : decode prog_3_method_7_code 60 = .ok (.bipush 81, 2) := by decide +kernel
theorem d_Floor_measure_62 : decode prog_3_method_7_code 62 = .ok (.if_icmp .ge 89, 3) := by decide +kernel
theorem d_Floor_measure_65 : decode prog_3_method_7_code 65 = .ok (.aload_n 0, 1) := by decide +kernel
theorem d_Floor_measure_66 : decode prog_3_method_7_code 66 = .ok (.getfield 18, 3) := by decide +kernel
theorem d_Floor_measure_69 : decode prog_3_method_7_code 69 = .ok (.iload_n 2, 1) := by decide +kernel
theorem d_Floor_measure_70 : decode prog_3_method_7_code 70 = .ok (.iaload, 1) := by decide +kernel
theorem d_Floor_measure_71 : decode prog_3_method_7_code 71 = .ok (.bipush 9, 2) := by decide +kernel
theorem d_Floor_measure_73 : decode prog_3_method_7_code 73 = .ok (.irem, 1) := by decide +kernel
theorem d_Floor_measure_74 : decode prog_3_method_7_code 74 = .ok (.istore_n 3, 1) := by decide +kernel
theorem d_Floor_measure_75 : decode prog_3_method_7_code 75 = .ok (.aload_n 0, 1) := by decide +kernel
theorem d_Floor_measure_76 : decode prog_3_method_7_code 76 = .ok (.getfield 18, 3) := by decide +kernel
theorem d_Floor_measure_79 : decode prog_3_method_7_code 79 = .ok (.iload_n 2, 1) := by decide +kernel
theorem d_Floor_measure_80 : decode prog_3_method_7_code 80 = .ok (.iaload, 1) := by decide +kernel
theorem d_Floor_measure_81 : decode prog_3_method_7_code 81 = .ok (.bipush 9, 2) := by decide +kernel
theorem d_Floor_measure_83 : decode prog_3_method_7_code 83 = .ok (.idiv, 1) := by decide +kernel
theorem d_Floor_measure_84 : decode prog_3_method_7_code 84 = .ok (.istore 4, 2) := by decide +kernel
theorem d_Floor_measure_86 : decode prog_3_method_7_code 86 = .ok (.aload_n 0, 1) := by decide +kernel
theorem d_Floor_measure_87 : decode prog_3_method_7_code 87 = .ok (.getfield 15, 3) := by decide +kernel
theorem d_Floor_measure_90 : decode prog_3_method_7_code 90 = .ok (.aload_n 0, 1) := by decide +kernel
theorem d_Floor_measure_91 : decode prog_3_method_7_code 91 = .ok (.getfield 18, 3) := by decide +kernel
theorem d_Floor_measure_94 : decode prog_3_method_7_code 94 = .ok (.iload_n 2, 1) := by decide +kernel
theorem d_Floor_measure_95 : decode prog_3_method_7_code 95 = .ok (.iaload, 1) := by decide +kernel
theorem d_Floor_measure_96 : decode prog_3_method_7_code 96 = .ok (.iaload, 1) := by decide +kernel
theorem d_Floor_measure_97 : decode prog_3_method_7_code 97 = .ok (.iconst 1, 1) := by decide +kernel
theorem d_Floor_measure_98 : decode prog_3_method_7_code 98 = .ok (.iadd, 1) := by decide +kernel
theorem d_Floor_measure_99 : decode prog_3_method_7_code 99 = .ok (.istore 5, 2) := by decide +kernel
theorem d_Floor_measure_101 : decode prog_3_method_7_code 101 = .ok (.aload_n 0, 1) := by decide +kernel
theorem d_Floor_measure_102 : decode prog_3_method_7_code 102 = .ok (.iload_n 3, 1) := by decide +kernel
theorem d_Floor_measure_103 : decode prog_3_method_7_code 103 = .ok (.iconst 1, 1) := by decide +kernel
theorem d_Floor_measure_104 : decode prog_3_method_7_code 104 = .ok (.isub, 1) := by decide +kernel
theorem d_Floor_measure_105 : decode prog_3_method_7_code 105 = .ok (.iload 4, 2) := by decide +kernel
theorem d_Floor_measure_107 : decode prog_3_method_7_code 107 = .ok (.iload 5, 2) := by decide +kernel
theorem d_Floor_measure_109 : decode prog_3_method_7_code 109 = .ok (.invokevirtual 102, 3) := by decide +kernel
theorem d_Floor_measure_112 : decode prog_3_method_7_code 112 = .ok (.aload_n 0, 1) := by decide +kernel
theorem d_Floor_measure_113 : decode prog_3_method_7_code 113 = .ok (.iload_n 3, 1) := by decide +kernel
theorem d_Floor_measure_114 : decode prog_3_method_7_code 114 = .ok (.iconst 1, 1) := by decide +kernel
theorem d_Floor_measure_115 : decode prog_3_method_7_code 115 = .ok (.iadd, 1) := by decide +kernel
theorem d_Floor_measure_116 : decode prog_3_method_7_code 116 = .ok (.iload 4, 2) := by decide +kernel
theorem d_Floor_measure_118 : decode prog_3_method_7_code 118 = .ok (.iload 5, 2) := by decide +kernel
theorem d_Floor_measure_120 : decode prog_3_method_7_code 120 = .ok (.invokevirtual 102, 3) := by decide +kernel
theorem d_Floor_measure_123 : decode prog_3_method_7_code 123 = .ok (.aload_n 0, 1) := by decide +kernel
theorem d_Floor_measure_124 : decode prog_3_method_7_code 124 = .ok (.iload_n 3, 1) := by decide +kernel
theorem d_Floor_measure_125 : decode prog_3_method_7_code 125 = .ok (.iload 4, 2) := by decide +kernel
theorem d_Floor_measure_127 : decode prog_3_method_7_code 127 = .ok (.iconst 1, 1) := by decide +kernel
theorem d_Floor_measure_128 : decode prog_3_method_7_code 128 = .ok (.isub, 1) := by decide +kernel
theorem d_Floor_measure_129 : decode prog_3_method_7_code 129 = .ok (.iload 5, 2) := by decide +kernel
theorem d_Floor_measure_131 : decode prog_3_method_7_code 131 = .ok (.invokevirtual 102, 3) := by decide +kernel
theorem d_Floor_measure_134 : decode prog_3_method_7_code 134 = .ok (.aload_n 0, 1) := by decide +kernel
theorem d_Floor_measure_135 : decode prog_3_method_7_code 135 = .ok (.iload_n 3, 1) := by decide +kernel
theorem d_Floor_measure_136 : decode prog_3_method_7_code 136 = .ok (.iload 4, 2) := by decide +kernel
theorem d_Floor_measure_138 : decode prog_3_method_7_code 138 = .ok (.iconst 1, 1) := by decide +kernel
theorem d_Floor_measure_139 : decode prog_3_method_7_code 139 = .ok (.iadd, 1) := by decide +kernel
theorem d_Floor_measure_140 : decode prog_3_method_7_code 140 = .ok (.iload 5, 2) := by decide +kernel
theorem d_Floor_measure_142 : decode prog_3_method_7_code 142 = .ok (.invokevirtual 102, 3) := by decide +kernel
theorem d_Floor_measure_145 : decode prog_3_method_7_code 145 = .ok (.iinc 2 1, 3) := by decide +kernel
theorem d_Floor_measure_148 : decode prog_3_method_7_code 148 = .ok (.goto (-97), 3) := by decide +kernel
theorem d_Floor_measure_151 : decode prog_3_method_7_code 151 = .ok (.return_, 1) := by decide +kernel
theorem d_Floor_reach_0 : decode prog_3_method_8_code 0 = .ok (.aload_n 0, 1) := by decide +kernel
theorem d_Floor_reach_1 : decode prog_3_method_8_code 1 = .ok (.getfield 25, 3) := by decide +kernel
theorem d_Floor_reach_4 : decode prog_3_method_8_code 4 = .ok (.iload_n 1, 1) := by decide +kernel
theorem d_Floor_reach_5 : decode prog_3_method_8_code 5 = .ok (.iload_n 2, 1) := by decide +kernel
theorem d_Floor_reach_6 : decode prog_3_method_8_code 6 = .ok (.invokevirtual 62, 3) := by decide +kernel
theorem d_Floor_reach_9 : decode prog_3_method_8_code 9 = .ok (.ifCond .ne 4, 3) := by decide +kernel
theorem d_Floor_reach_12 : decode prog_3_method_8_code 12 = .ok (.return_, 1) := by decide +kernel
theorem d_Floor_reach_13 : decode prog_3_method_8_code 13 = .ok (.iload_n 1, 1) := by decide +kernel
theorem d_Floor_reach_14 : decode prog_3_method_8_code 14 = .ok (.iload_n 2, 1) := by decide +kernel
theorem d_Floor_reach_15 : decode prog_3_method_8_code 15 = .ok (.invokestatic 66, 3) := by decide +kernel
theorem d_Floor_reach_18 : decode prog_3_method_8_code 18 = .ok (.istore 4, 2) := by decide +kernel
theorem d_Floor_reach_20 : decode prog_3_method_8_code 20 = .ok (.aload_n 0, 1) := by decide +kernel
theorem d_Floor_reach_21 : decode prog_3_method_8_code 21 = .ok (.getfield 9, 3) := by decide +kernel
theorem d_Floor_reach_24 : decode prog_3_method_8_code 24 = .ok (.iload 4, 2) := by decide +kernel
theorem d_Floor_reach_26 : decode prog_3_method_8_code 26 = .ok (.iaload, 1) := by decide +kernel
theorem d_Floor_reach_27 : decode prog_3_method_8_code 27 = .ok (.iconst (-1), 1) := by decide +kernel
theorem d_Floor_reach_28 : decode prog_3_method_8_code 28 = .ok (.if_icmp .ne 23, 3) := by decide +kernel
theorem d_Floor_reach_31 : decode prog_3_method_8_code 31 = .ok (.aload_n 0, 1) := by decide +kernel
theorem d_Floor_reach_32 : decode prog_3_method_8_code 32 = .ok (.getfield 15, 3) := by decide +kernel
theorem d_Floor_reach_35 : decode prog_3_method_8_code 35 = .ok (.iload 4, 2) := by decide +kernel
theorem d_Floor_reach_37 : decode prog_3_method_8_code 37 = .ok (.iaload, 1) := by decide +kernel
theorem d_Floor_reach_38 : decode prog_3_method_8_code 38 = .ok (.iconst (-1), 1) := by decide +kernel
theorem d_Floor_reach_39 : decode prog_3_method_8_code 39 = .ok (.if_icmp .ne 12, 3) := by decide +kernel
theorem d_Floor_reach_42 : decode prog_3_method_8_code 42 = .ok (.aload_n 0, 1) := by decide +kernel
theorem d_Floor_reach_43 : decode prog_3_method_8_code 43 = .ok (.getfield 21, 3) := by decide +kernel
theorem d_Floor_reach_46 : decode prog_3_method_8_code 46 = .ok (.bipush 81, 2) := by decide +kernel
theorem d_Floor_reach_48 : decode prog_3_method_8_code 48 = .ok (.if_icmp .lt 4, 3) := by decide +kernel
theorem d_Floor_reach_51 : decode prog_3_method_8_code 51 = .ok (.return_, 1) := by decide +kernel
theorem d_Floor_reach_52 : decode prog_3_method_8_code 52 = .ok (.aload_n 0, 1) := by decide +kernel
theorem d_Floor_reach_53 : decode prog_3_method_8_code 53 = .ok (.getfield 15, 3) := by decide +kernel
theorem d_Floor_reach_56 : decode prog_3_method_8_code 56 = .ok (.iload 4, 2) := by decide +kernel
theorem d_Floor_reach_58 : decode prog_3_method_8_code 58 = .ok (.iload_n 3, 1) := by decide +kernel
theorem d_Floor_reach_59 : decode prog_3_method_8_code 59 = .ok (.iastore, 1) := by decide +kernel
theorem d_Floor_reach_60 : decode prog_3_method_8_code 60 = .ok (.aload_n 0, 1) := by decide +kernel
theorem d_Floor_reach_61 : decode prog_3_method_8_code 61 = .ok (.getfield 18, 3) := by decide +kernel
theorem d_Floor_reach_64 : decode prog_3_method_8_code 64 = .ok (.aload_n 0, 1) := by decide +kernel
theorem d_Floor_reach_65 : decode prog_3_method_8_code 65 = .ok (.getfield 21, 3) := by decide +kernel
theorem d_Floor_reach_68 : decode prog_3_method_8_code 68 = .ok (.iload 4, 2) := by decide +kernel
theorem d_Floor_reach_70 : decode prog_3_method_8_code 70 = .ok (.iastore, 1) := by decide +kernel
theorem d_Floor_reach_71 : decode prog_3_method_8_code 71 = .ok (.aload_n 0, 1) := by decide +kernel
theorem d_Floor_reach_72 : decode prog_3_method_8_code 72 = .ok (.dup, 1) := by decide +kernel
theorem d_Floor_reach_73 : decode prog_3_method_8_code 73 = .ok (.getfield 21, 3) := by decide +kernel
theorem d_Floor_reach_76 : decode prog_3_method_8_code 76 = .ok (.iconst 1, 1) := by decide +kernel
theorem d_Floor_reach_77 : decode prog_3_method_8_code 77 = .ok (.iadd, 1) := by decide +kernel
theorem d_Floor_reach_78 : decode prog_3_method_8_code 78 = .ok (.putfield 21, 3) := by decide +kernel
theorem d_Floor_reach_81 : decode prog_3_method_8_code 81 = .ok (.return_, 1) := by decide +kernel
theorem d_Grid_init_0 : decode prog_4_method_1_code 0 = .ok (.aload_n 0, 1) := by decide +kernel
theorem d_Grid_init_1 : decode prog_4_method_1_code 1 = .ok (.invokespecial 3, 3) := by decide +kernel
theorem d_Grid_init_4 : decode prog_4_method_1_code 4 = .ok (.aload_n 0, 1) := by decide +kernel
theorem d_Grid_init_5 : decode prog_4_method_1_code 5 = .ok (.bipush 81, 2) := by decide +kernel
theorem d_Grid_init_7 : decode prog_4_method_1_code 7 = .ok (.newarray .boolean, 2) := by decide +kernel
theorem d_Grid_init_9 : decode prog_4_method_1_code 9 = .ok (.putfield 9, 3) := by decide +kernel
theorem d_Grid_init_12 : decode prog_4_method_1_code 12 = .ok (.aload_n 0, 1) := by decide +kernel
theorem d_Grid_init_13 : decode prog_4_method_1_code 13 = .ok (.bipush 81, 2) := by decide +kernel
theorem d_Grid_init_15 : decode prog_4_method_1_code 15 = .ok (.newarray .int, 2) := by decide +kernel
theorem d_Grid_init_17 : decode prog_4_method_1_code 17 = .ok (.putfield 15, 3) := by decide +kernel
theorem d_Grid_init_20 : decode prog_4_method_1_code 20 = .ok (.aload_n 0, 1) := by decide +kernel
theorem d_Grid_init_21 : decode prog_4_method_1_code 21 = .ok (.iconst 0, 1) := by decide +kernel
theorem d_Grid_init_22 : decode prog_4_method_1_code 22 = .ok (.putfield 19, 3) := by decide +kernel
theorem d_Grid_init_25 : decode prog_4_method_1_code 25 = .ok (.aload_n 0, 1) := by decide +kernel
theorem d_Grid_init_26 : decode prog_4_method_1_code 26 = .ok (.iload_n 1, 1) := by decide +kernel
theorem d_Grid_init_27 : decode prog_4_method_1_code 27 = .ok (.putfield 23, 3) := by decide +kernel
theorem d_Grid_init_30 : decode prog_4_method_1_code 30 = .ok (.aload_n 0, 1) := by decide +kernel
theorem d_Grid_init_31 : decode prog_4_method_1_code 31 = .ok (.iload_n 2, 1) := by decide +kernel
theorem d_Grid_init_32 : decode prog_4_method_1_code 32 = .ok (.putfield 26, 3) := by decide +kernel
theorem d_Grid_init_35 : decode prog_4_method_1_code 35 = .ok (.return_, 1) := by decide +kernel
theorem d_Grid_carries_0 : decode prog_4_method_4_code 0 = .ok (.aload_n 0, 1) := by decide +kernel
theorem d_Grid_carries_1 : decode prog_4_method_4_code 1 = .ok (.iload_n 1, 1) := by decide +kernel
theorem d_Grid_carries_2 : decode prog_4_method_4_code 2 = .ok (.iload_n 2, 1) := by decide +kernel
theorem d_Grid_carries_3 : decode prog_4_method_4_code 3 = .ok (.invokevirtual 29, 3) := by decide +kernel
theorem d_Grid_carries_6 : decode prog_4_method_4_code 6 = .ok (.ifCond .eq 24, 3) := by decide +kernel
theorem d_Grid_carries_9 : decode prog_4_method_4_code 9 = .ok (.iload_n 1, 1) := by decide +kernel
theorem d_Grid_carries_10 : decode prog_4_method_4_code 10 = .ok (.iload_n 3, 1) := by decide +kernel
theorem d_Grid_carries_11 : decode prog_4_method_4_code 11 = .ok (.iadd, 1) := by decide +kernel
theorem d_Grid_carries_12 : decode prog_4_method_4_code 12 = .ok (.aload_n 0, 1) := by decide +kernel
theorem d_Grid_carries_13 : decode prog_4_method_4_code 13 = .ok (.getfield 23, 3) := by decide +kernel
theorem d_Grid_carries_16 : decode prog_4_method_4_code 16 = .ok (.if_icmp .gt 14, 3) := by decide +kernel
theorem d_Grid_carries_19 : decode prog_4_method_4_code 19 = .ok (.iload_n 2, 1) := by decide +kernel
theorem d_Grid_carries_20 : decode prog_4_method_4_code 20 = .ok (.iload 4, 2) := by decide +kernel
theorem d_Grid_carries_22 : decode prog_4_method_4_code 22 = .ok (.iadd, 1) := by decide +kernel
theorem d_Grid_carries_23 : decode prog_4_method_4_code 23 = .ok (.aload_n 0, 1) := by decide +kernel
theorem d_Grid_carries_24 : decode prog_4_method_4_code 24 = .ok (.getfield 26, 3) := by decide +kernel
theorem d_Grid_carries_27 : decode prog_4_method_4_code 27 = .ok (.if_icmp .le 5, 3) := by decide +kernel
theorem d_Grid_carries_30 : decode prog_4_method_4_code 30 = .ok (.iconst 0, 1) := by decide +kernel
theorem d_Grid_carries_31 : decode prog_4_method_4_code 31 = .ok (.ireturn, 1) := by decide +kernel
theorem d_Grid_carries_32 : decode prog_4_method_4_code 32 = .ok (.iload_n 2, 1) := by decide +kernel
theorem d_Grid_carries_33 : decode prog_4_method_4_code 33 = .ok (.istore 6, 2) := by decide +kernel
theorem d_Grid_carries_35 : decode prog_4_method_4_code 35 = .ok (.iload 6, 2) := by decide +kernel
theorem d_Grid_carries_37 : decode prog_4_method_4_code 37 = .ok (.iload_n 2, 1) := by decide +kernel
theorem d_Grid_carries_38 : decode prog_4_method_4_code 38 = .ok (.iload 4, 2) := by decide +kernel
theorem d_Grid_carries_40 : decode prog_4_method_4_code 40 = .ok (.iadd, 1) := by decide +kernel
theorem d_Grid_carries_41 : decode prog_4_method_4_code 41 = .ok (.if_icmp .ge 64, 3) := by decide +kernel
theorem d_Grid_carries_44 : decode prog_4_method_4_code 44 = .ok (.iload_n 1, 1) := by decide +kernel
theorem d_Grid_carries_45 : decode prog_4_method_4_code 45 = .ok (.istore 7, 2) := by decide +kernel
theorem d_Grid_carries_47 : decode prog_4_method_4_code 47 = .ok (.iload 7, 2) := by decide +kernel
theorem d_Grid_carries_49 : decode prog_4_method_4_code 49 = .ok (.iload_n 1, 1) := by decide +kernel
theorem d_Grid_carries_50 : decode prog_4_method_4_code 50 = .ok (.iload_n 3, 1) := by decide +kernel
theorem d_Grid_carries_51 : decode prog_4_method_4_code 51 = .ok (.iadd, 1) := by decide +kernel
theorem d_Grid_carries_52 : decode prog_4_method_4_code 52 = .ok (.if_icmp .ge 47, 3) := by decide +kernel
theorem d_Grid_carries_55 : decode prog_4_method_4_code 55 = .ok (.iload 7, 2) := by decide +kernel
theorem d_Grid_carries_57 : decode prog_4_method_4_code 57 = .ok (.iload 6, 2) := by decide +kernel
theorem d_Grid_carries_59 : decode prog_4_method_4_code 59 = .ok (.invokestatic 33, 3) := by decide +kernel
theorem d_Grid_carries_62 : decode prog_4_method_4_code 62 = .ok (.istore 8, 2) := by decide +kernel
theorem d_Grid_carries_64 : decode prog_4_method_4_code 64 = .ok (.aload_n 0, 1) := by decide +kernel
theorem d_Grid_carries_65 : decode prog_4_method_4_code 65 = .ok (.getfield 9, 3) := by decide +kernel
theorem d_Grid_carries_68 : decode prog_4_method_4_code 68 = .ok (.iload 8, 2) := by decide +kernel
theorem d_Grid_carries_70 : decode prog_4_method_4_code 70 = .ok (.baload, 1) := by decide +kernel
theorem d_Grid_carries_71 : decode prog_4_method_4_code 71 = .ok (.ifCond .ne 20, 3) := by decide +kernel
theorem d_Grid_carries_74 : decode prog_4_method_4_code 74 = .ok (.iload 5, 2) := by decide +kernel
theorem d_Grid_carries_76 : decode prog_4_method_4_code 76 = .ok (.ifCond .eq 17, 3) := by decide +kernel
theorem d_Grid_carries_79 : decode prog_4_method_4_code 79 = .ok (.aload_n 0, 1) := by decide +kernel
theorem d_Grid_carries_80 : decode prog_4_method_4_code 80 = .ok (.getfield 15, 3) := by decide +kernel
theorem d_Grid_carries_83 : decode prog_4_method_4_code 83 = .ok (.iload 8, 2) := by decide +kernel
theorem d_Grid_carries_85 : decode prog_4_method_4_code 85 = .ok (.iaload, 1) := by decide +kernel
theorem d_Grid_carries_86 : decode prog_4_method_4_code 86 = .ok (.iload 5, 2) := by decide +kernel
theorem d_Grid_carries_88 : decode prog_4_method_4_code 88 = .ok (.if_icmp .eq 5, 3) := by decide +kernel
theorem d_Grid_carries_91 : decode prog_4_method_4_code 91 = .ok (.iconst 0, 1) := by decide +kernel
theorem d_Grid_carries_92 : decode prog_4_method_4_code 92 = .ok (.ireturn, 1) := by decide +kernel
theorem d_Grid_carries_93 : decode prog_4_method_4_code 93 = .ok (.iinc 7 1, 3) := by decide +kernel
theorem d_Grid_carries_96 : decode prog_4_method_4_code 96 = .ok (.goto (-49), 3) := by decide +kernel
theorem d_Grid_carries_99 : decode prog_4_method_4_code 99 = .ok (.iinc 6 1, 3) := by decide +kernel
theorem d_Grid_carries_102 : decode prog_4_method_4_code 102 = .ok (.goto (-67), 3) := by decide +kernel
theorem d_Grid_carries_105 : decode prog_4_method_4_code 105 = .ok (.iconst 1, 1) := by decide +kernel
theorem d_Grid_carries_106 : decode prog_4_method_4_code 106 = .ok (.ireturn, 1) := by decide +kernel
theorem d_Grid_holds_0 : decode prog_4_method_2_code 0 = .ok (.iload_n 1, 1) := by decide +kernel
theorem d_Grid_holds_1 : decode prog_4_method_2_code 1 = .ok (.ifCond .lt 27, 3) := by decide +kernel
theorem d_Grid_holds_4 : decode prog_4_method_2_code 4 = .ok (.iload_n 1, 1) := by decide +kernel
theorem d_Grid_holds_5 : decode prog_4_method_2_code 5 = .ok (.aload_n 0, 1) := by decide +kernel
theorem d_Grid_holds_6 : decode prog_4_method_2_code 6 = .ok (.getfield 23, 3) := by decide +kernel
theorem d_Grid_holds_9 : decode prog_4_method_2_code 9 = .ok (.if_icmp .ge 19, 3) := by decide +kernel
theorem d_Grid_holds_12 : decode prog_4_method_2_code 12 = .ok (.iload_n 2, 1) := by decide +kernel
theorem d_Grid_holds_13 : decode prog_4_method_2_code 13 = .ok (.ifCond .lt 15, 3) := by decide +kernel
theorem d_Grid_holds_16 : decode prog_4_method_2_code 16 = .ok (.iload_n 2, 1) := by decide +kernel
theorem d_Grid_holds_17 : decode prog_4_method_2_code 17 = .ok (.aload_n 0, 1) := by decide +kernel
theorem d_Grid_holds_18 : decode prog_4_method_2_code 18 = .ok (.getfield 26, 3) := by decide +kernel
theorem d_Grid_holds_21 : decode prog_4_method_2_code 21 = .ok (.if_icmp .ge 7, 3) := by decide +kernel
theorem d_Grid_holds_24 : decode prog_4_method_2_code 24 = .ok (.iconst 1, 1) := by decide +kernel
theorem d_Grid_holds_25 : decode prog_4_method_2_code 25 = .ok (.goto 4, 3) := by decide +kernel
theorem d_Grid_holds_28 : decode prog_4_method_2_code 28 = .ok (.iconst 0, 1) := by decide +kernel
theorem d_Grid_holds_29 : decode prog_4_method_2_code 29 = .ok (.ireturn, 1) := by decide +kernel
theorem d_Grid_setWall_0 : decode prog_4_method_3_code 0 = .ok (.aload_n 0, 1) := by decide +kernel
theorem d_Grid_setWall_1 : decode prog_4_method_3_code 1 = .ok (.getfield 9, 3) := by decide +kernel
theorem d_Grid_setWall_4 : decode prog_4_method_3_code 4 = .ok (.iload_n 1, 1) := by decide +kernel
theorem d_Grid_setWall_5 : decode prog_4_method_3_code 5 = .ok (.iload_n 2, 1) := by decide +kernel
theorem d_Grid_setWall_6 : decode prog_4_method_3_code 6 = .ok (.bastore, 1) := by decide +kernel
theorem d_Grid_setWall_7 : decode prog_4_method_3_code 7 = .ok (.aload_n 0, 1) := by decide +kernel
theorem d_Grid_setWall_8 : decode prog_4_method_3_code 8 = .ok (.dup, 1) := by decide +kernel
theorem d_Grid_setWall_9 : decode prog_4_method_3_code 9 = .ok (.getfield 19, 3) := by decide +kernel
theorem d_Grid_setWall_12 : decode prog_4_method_3_code 12 = .ok (.iload_n 2, 1) := by decide +kernel
theorem d_Grid_setWall_13 : decode prog_4_method_3_code 13 = .ok (.ifCond .eq 7, 3) := by decide +kernel
theorem d_Grid_setWall_16 : decode prog_4_method_3_code 16 = .ok (.iconst 1, 1) := by decide +kernel
theorem d_Grid_setWall_17 : decode prog_4_method_3_code 17 = .ok (.goto 4, 3) := by decide +kernel
theorem d_Grid_setWall_20 : decode prog_4_method_3_code 20 = .ok (.iconst (-1), 1) := by decide +kernel
theorem d_Grid_setWall_21 : decode prog_4_method_3_code 21 = .ok (.iadd, 1) := by decide +kernel
theorem d_Grid_setWall_22 : decode prog_4_method_3_code 22 = .ok (.putfield 19, 3) := by decide +kernel
theorem d_Grid_setWall_25 : decode prog_4_method_3_code 25 = .ok (.return_, 1) := by decide +kernel
theorem d_Layout_init_0 : decode prog_5_method_1_code 0 = .ok (.aload_n 0, 1) := by decide +kernel
theorem d_Layout_init_1 : decode prog_5_method_1_code 1 = .ok (.invokespecial 3, 3) := by decide +kernel
theorem d_Layout_init_4 : decode prog_5_method_1_code 4 = .ok (.aload_n 0, 1) := by decide +kernel
theorem d_Layout_init_5 : decode prog_5_method_1_code 5 = .ok (.bipush 7, 2) := by decide +kernel
theorem d_Layout_init_7 : decode prog_5_method_1_code 7 = .ok (.newarray .int, 2) := by decide +kernel
theorem d_Layout_init_9 : decode prog_5_method_1_code 9 = .ok (.putfield 9, 3) := by decide +kernel
theorem d_Layout_init_12 : decode prog_5_method_1_code 12 = .ok (.aload_n 0, 1) := by decide +kernel
theorem d_Layout_init_13 : decode prog_5_method_1_code 13 = .ok (.bipush 7, 2) := by decide +kernel
theorem d_Layout_init_15 : decode prog_5_method_1_code 15 = .ok (.newarray .int, 2) := by decide +kernel
theorem d_Layout_init_17 : decode prog_5_method_1_code 17 = .ok (.putfield 15, 3) := by decide +kernel
theorem d_Layout_init_20 : decode prog_5_method_1_code 20 = .ok (.aload_n 0, 1) := by decide +kernel
theorem d_Layout_init_21 : decode prog_5_method_1_code 21 = .ok (.aload_n 1, 1) := by decide +kernel
theorem d_Layout_init_22 : decode prog_5_method_1_code 22 = .ok (.putfield 18, 3) := by decide +kernel
theorem d_Layout_init_25 : decode prog_5_method_1_code 25 = .ok (.return_, 1) := by decide +kernel
theorem d_Layout_between_0 : decode prog_5_method_4_code 0 = .ok (.iload_n 2, 1) := by decide +kernel
theorem d_Layout_between_1 : decode prog_5_method_4_code 1 = .ok (.iload_n 0, 1) := by decide +kernel
theorem d_Layout_between_2 : decode prog_5_method_4_code 2 = .ok (.isub, 1) := by decide +kernel
theorem d_Layout_between_3 : decode prog_5_method_4_code 3 = .ok (.iload_n 1, 1) := by decide +kernel
theorem d_Layout_between_4 : decode prog_5_method_4_code 4 = .ok (.isub, 1) := by decide +kernel
theorem d_Layout_between_5 : decode prog_5_method_4_code 5 = .ok (.iload_n 0, 1) := by decide +kernel
theorem d_Layout_between_6 : decode prog_5_method_4_code 6 = .ok (.iload_n 2, 1) := by decide +kernel
