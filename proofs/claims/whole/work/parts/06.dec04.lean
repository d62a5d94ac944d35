theorem d_Layout_between_7 : decode prog_5_method_4_code 7 = .ok (.isub, 1) := by decide +kernel
theorem d_Layout_between_8 : decode prog_5_method_4_code 8 = .ok (.iload_n 3, 1) := by decide +kernel
theorem d_Layout_between_9 : decode prog_5_method_4_code 9 = .ok (.isub, 1) := by decide +kernel
theorem d_Layout_between_10 : decode prog_5_method_4_code 10 = .ok (.invokestatic 34, 3) := by decide +kernel
theorem d_Layout_between_13 : decode prog_5_method_4_code 13 = .ok (.ireturn, 1) := by decide +kernel
theorem d_Layout_copyFrom_0 : decode prog_5_method_3_code 0 = .ok (.aload_n 1, 1) := by decide +kernel
theorem d_Layout_copyFrom_1 : decode prog_5_method_3_code 1 = .ok (.getfield 9, 3) := by decide +kernel
theorem d_Layout_copyFrom_4 : decode prog_5_method_3_code 4 = .ok (.iconst 0, 1) := by decide +kernel
theorem d_Layout_copyFrom_5 : decode prog_5_method_3_code 5 = .ok (.aload_n 0, 1) := by decide +kernel
theorem d_Layout_copyFrom_6 : decode prog_5_method_3_code 6 = .ok (.getfield 9, 3) := by decide +kernel
theorem d_Layout_copyFrom_9 : decode prog_5_method_3_code 9 = .ok (.iconst 0, 1) := by decide +kernel
theorem d_Layout_copyFrom_10 : decode prog_5_method_3_code 10 = .ok (.bipush 7, 2) := by decide +kernel
theorem d_Layout_copyFrom_12 : decode prog_5_method_3_code 12 = .ok (.invokestatic 40, 3) := by decide +kernel
theorem d_Layout_copyFrom_15 : decode prog_5_method_3_code 15 = .ok (.aload_n 1, 1) := by decide +kernel
theorem d_Layout_copyFrom_16 : decode prog_5_method_3_code 16 = .ok (.getfield 15, 3) := by decide +kernel
theorem d_Layout_copyFrom_19 : decode prog_5_method_3_code 19 = .ok (.iconst 0, 1) := by decide +kernel
theorem d_Layout_copyFrom_20 : decode prog_5_method_3_code 20 = .ok (.aload_n 0, 1) := by decide +kernel
theorem d_Layout_copyFrom_21 : decode prog_5_method_3_code 21 = .ok (.getfield 15, 3) := by decide +kernel
theorem d_Layout_copyFrom_24 : decode prog_5_method_3_code 24 = .ok (.iconst 0, 1) := by decide +kernel
theorem d_Layout_copyFrom_25 : decode prog_5_method_3_code 25 = .ok (.bipush 7, 2) := by decide +kernel
theorem d_Layout_copyFrom_27 : decode prog_5_method_3_code 27 = .ok (.invokestatic 40, 3) := by decide +kernel
theorem d_Layout_copyFrom_30 : decode prog_5_method_3_code 30 = .ok (.return_, 1) := by decide +kernel
theorem d_Layout_gapOf_0 : decode prog_5_method_2_code 0 = .ok (.aload_n 0, 1) := by decide +kernel
theorem d_Layout_gapOf_1 : decode prog_5_method_2_code 1 = .ok (.getfield 9, 3) := by decide +kernel
theorem d_Layout_gapOf_4 : decode prog_5_method_2_code 4 = .ok (.iload_n 1, 1) := by decide +kernel
theorem d_Layout_gapOf_5 : decode prog_5_method_2_code 5 = .ok (.iaload, 1) := by decide +kernel
theorem d_Layout_gapOf_6 : decode prog_5_method_2_code 6 = .ok (.aload_n 0, 1) := by decide +kernel
theorem d_Layout_gapOf_7 : decode prog_5_method_2_code 7 = .ok (.getfield 18, 3) := by decide +kernel
theorem d_Layout_gapOf_10 : decode prog_5_method_2_code 10 = .ok (.getfield 22, 3) := by decide +kernel
theorem d_Layout_gapOf_13 : decode prog_5_method_2_code 13 = .ok (.iload_n 1, 1) := by decide +kernel
theorem d_Layout_gapOf_14 : decode prog_5_method_2_code 14 = .ok (.iaload, 1) := by decide +kernel
theorem d_Layout_gapOf_15 : decode prog_5_method_2_code 15 = .ok (.aload_n 0, 1) := by decide +kernel
theorem d_Layout_gapOf_16 : decode prog_5_method_2_code 16 = .ok (.getfield 9, 3) := by decide +kernel
theorem d_Layout_gapOf_19 : decode prog_5_method_2_code 19 = .ok (.iload_n 2, 1) := by decide +kernel
theorem d_Layout_gapOf_20 : decode prog_5_method_2_code 20 = .ok (.iaload, 1) := by decide +kernel
theorem d_Layout_gapOf_21 : decode prog_5_method_2_code 21 = .ok (.aload_n 0, 1) := by decide +kernel
theorem d_Layout_gapOf_22 : decode prog_5_method_2_code 22 = .ok (.getfield 18, 3) := by decide +kernel
theorem d_Layout_gapOf_25 : decode prog_5_method_2_code 25 = .ok (.getfield 22, 3) := by decide +kernel
theorem d_Layout_gapOf_28 : decode prog_5_method_2_code 28 = .ok (.iload_n 2, 1) := by decide +kernel
theorem d_Layout_gapOf_29 : decode prog_5_method_2_code 29 = .ok (.iaload, 1) := by decide +kernel
theorem d_Layout_gapOf_30 : decode prog_5_method_2_code 30 = .ok (.invokestatic 27, 3) := by decide +kernel
theorem d_Layout_gapOf_33 : decode prog_5_method_2_code 33 = .ok (.istore_n 3, 1) := by decide +kernel
theorem d_Layout_gapOf_34 : decode prog_5_method_2_code 34 = .ok (.aload_n 0, 1) := by decide +kernel
theorem d_Layout_gapOf_35 : decode prog_5_method_2_code 35 = .ok (.getfield 15, 3) := by decide +kernel
theorem d_Layout_gapOf_38 : decode prog_5_method_2_code 38 = .ok (.iload_n 1, 1) := by decide +kernel
theorem d_Layout_gapOf_39 : decode prog_5_method_2_code 39 = .ok (.iaload, 1) := by decide +kernel
theorem d_Layout_gapOf_40 : decode prog_5_method_2_code 40 = .ok (.aload_n 0, 1) := by decide +kernel
theorem d_Layout_gapOf_41 : decode prog_5_method_2_code 41 = .ok (.getfield 18, 3) := by decide +kernel
theorem d_Layout_gapOf_44 : decode prog_5_method_2_code 44 = .ok (.getfield 31, 3) := by decide +kernel
theorem d_Layout_gapOf_47 : decode prog_5_method_2_code 47 = .ok (.iload_n 1, 1) := by decide +kernel
theorem d_Layout_gapOf_48 : decode prog_5_method_2_code 48 = .ok (.iaload, 1) := by decide +kernel
theorem d_Layout_gapOf_49 : decode prog_5_method_2_code 49 = .ok (.aload_n 0, 1) := by decide +kernel
theorem d_Layout_gapOf_50 : decode prog_5_method_2_code 50 = .ok (.getfield 15, 3) := by decide +kernel
theorem d_Layout_gapOf_53 : decode prog_5_method_2_code 53 = .ok (.iload_n 2, 1) := by decide +kernel
theorem d_Layout_gapOf_54 : decode prog_5_method_2_code 54 = .ok (.iaload, 1) := by decide +kernel
theorem d_Layout_gapOf_55 : decode prog_5_method_2_code 55 = .ok (.aload_n 0, 1) := by decide +kernel
theorem d_Layout_gapOf_56 : decode prog_5_method_2_code 56 = .ok (.getfield 18, 3) := by decide +kernel
theorem d_Layout_gapOf_59 : decode prog_5_method_2_code 59 = .ok (.getfield 31, 3) := by decide +kernel
theorem d_Layout_gapOf_62 : decode prog_5_method_2_code 62 = .ok (.iload_n 2, 1) := by decide +kernel
theorem d_Layout_gapOf_63 : decode prog_5_method_2_code 63 = .ok (.iaload, 1) := by decide +kernel
theorem d_Layout_gapOf_64 : decode prog_5_method_2_code 64 = .ok (.invokestatic 27, 3) := by decide +kernel
theorem d_Layout_gapOf_67 : decode prog_5_method_2_code 67 = .ok (.istore 4, 2) := by decide +kernel
theorem d_Layout_gapOf_69 : decode prog_5_method_2_code 69 = .ok (.iload_n 3, 1) := by decide +kernel
theorem d_Layout_gapOf_70 : decode prog_5_method_2_code 70 = .ok (.iload 4, 2) := by decide +kernel
theorem d_Layout_gapOf_72 : decode prog_5_method_2_code 72 = .ok (.invokestatic 34, 3) := by decide +kernel
theorem d_Layout_gapOf_75 : decode prog_5_method_2_code 75 = .ok (.ireturn, 1) := by decide +kernel
theorem d_Places_init_0 : decode prog_6_method_1_code 0 = .ok (.aload_n 0, 1) := by decide +kernel
theorem d_Places_init_1 : decode prog_6_method_1_code 1 = .ok (.invokespecial 3, 3) := by decide +kernel
theorem d_Places_init_4 : decode prog_6_method_1_code 4 = .ok (.aload_n 0, 1) := by decide +kernel
theorem d_Places_init_5 : decode prog_6_method_1_code 5 = .ok (.bipush 8, 2) := by decide +kernel
theorem d_Places_init_7 : decode prog_6_method_1_code 7 = .ok (.newarray .int, 2) := by decide +kernel
theorem d_Places_init_9 : decode prog_6_method_1_code 9 = .ok (.putfield 9, 3) := by decide +kernel
theorem d_Places_init_12 : decode prog_6_method_1_code 12 = .ok (.aload_n 0, 1) := by decide +kernel
theorem d_Places_init_13 : decode prog_6_method_1_code 13 = .ok (.bipush 8, 2) := by decide +kernel
theorem d_Places_init_15 : decode prog_6_method_1_code 15 = .ok (.newarray .int, 2) := by decide +kernel
theorem d_Places_init_17 : decode prog_6_method_1_code 17 = .ok (.putfield 15, 3) := by decide +kernel
theorem d_Places_init_20 : decode prog_6_method_1_code 20 = .ok (.aload_n 0, 1) := by decide +kernel
theorem d_Places_init_21 : decode prog_6_method_1_code 21 = .ok (.bipush 56, 2) := by decide +kernel
theorem d_Places_init_23 : decode prog_6_method_1_code 23 = .ok (.newarray .boolean, 2) := by decide +kernel
theorem d_Places_init_25 : decode prog_6_method_1_code 25 = .ok (.putfield 18, 3) := by decide +kernel
theorem d_Places_init_28 : decode prog_6_method_1_code 28 = .ok (.aload_n 0, 1) := by decide +kernel
theorem d_Places_init_29 : decode prog_6_method_1_code 29 = .ok (.iconst 0, 1) := by decide +kernel
theorem d_Places_init_30 : decode prog_6_method_1_code 30 = .ok (.putfield 22, 3) := by decide +kernel
theorem d_Places_init_33 : decode prog_6_method_1_code 33 = .ok (.return_, 1) := by decide +kernel
theorem d_Places_add_0 : decode prog_6_method_2_code 0 = .ok (.aload_n 0, 1) := by decide +kernel
theorem d_Places_add_1 : decode prog_6_method_2_code 1 = .ok (.getfield 22, 3) := by decide +kernel
theorem d_Places_add_4 : decode prog_6_method_2_code 4 = .ok (.istore_n 3, 1) := by decide +kernel
theorem d_Places_add_5 : decode prog_6_method_2_code 5 = .ok (.aload_n 0, 1) := by decide +kernel
theorem d_Places_add_6 : decode prog_6_method_2_code 6 = .ok (.getfield 9, 3) := by decide +kernel
theorem d_Places_add_9 : decode prog_6_method_2_code 9 = .ok (.iload_n 3, 1) := by decide +kernel
theorem d_Places_add_10 : decode prog_6_method_2_code 10 = .ok (.iload_n 1, 1) := by decide +kernel
theorem d_Places_add_11 : decode prog_6_method_2_code 11 = .ok (.iastore, 1) := by decide +kernel
theorem d_Places_add_12 : decode prog_6_method_2_code 12 = .ok (.aload_n 0, 1) := by decide +kernel
theorem d_Places_add_13 : decode prog_6_method_2_code 13 = .ok (.getfield 15, 3) := by decide +kernel
theorem d_Places_add_16 : decode prog_6_method_2_code 16 = .ok (.iload_n 3, 1) := by decide +kernel
theorem d_Places_add_17 : decode prog_6_method_2_code 17 = .ok (.iload_n 2, 1) := by decide +kernel
theorem d_Places_add_18 : decode prog_6_method_2_code 18 = .ok (.iastore, 1) := by decide +kernel
theorem d_Places_add_19 : decode prog_6_method_2_code 19 = .ok (.aload_n 0, 1) := by decide +kernel
theorem d_Places_add_20 : decode prog_6_method_2_code 20 = .ok (.dup, 1) := by decide +kernel
theorem d_Places_add_21 : decode prog_6_method_2_code 21 = .ok (.getfield 22, 3) := by decide +kernel
theorem d_Places_add_24 : decode prog_6_method_2_code 24 = .ok (.iconst 1, 1) := by decide +kernel
theorem d_Places_add_25 : decode prog_6_method_2_code 25 = .ok (.iadd, 1) := by decide +kernel
theorem d_Places_add_26 : decode prog_6_method_2_code 26 = .ok (.putfield 22, 3) := by decide +kernel
theorem d_Places_add_29 : decode prog_6_method_2_code 29 = .ok (.iload_n 3, 1) := by decide +kernel
theorem d_Places_add_30 : decode prog_6_method_2_code 30 = .ok (.ireturn, 1) := by decide +kernel
theorem d_Places_standOn_0 : decode prog_6_method_3_code 0 = .ok (.iconst 0, 1) := by decide +kernel
theorem d_Places_standOn_1 : decode prog_6_method_3_code 1 = .ok (.istore_n 2, 1) := by decide +kernel
theorem d_Places_standOn_2 : decode prog_6_method_3_code 2 = .ok (.iload_n 2, 1) := by decide +kernel
theorem d_Places_standOn_3 : decode prog_6_method_3_code 3 = .ok (.aload_n 0, 1) := by decide +kernel
theorem d_Places_standOn_4 : decode prog_6_method_3_code 4 = .ok (.getfield 22, 3) := by decide +kernel
theorem d_Places_standOn_7 : decode prog_6_method_3_code 7 = .ok (.if_icmp .ge 30, 3) := by decide +kernel
theorem d_Places_standOn_10 : decode prog_6_method_3_code 10 = .ok (.aload_n 0, 1) := by decide +kernel
theorem d_Places_standOn_11 : decode prog_6_method_3_code 11 = .ok (.getfield 9, 3) := by decide +kernel
theorem d_Places_standOn_14 : decode prog_6_method_3_code 14 = .ok (.iload_n 2, 1) := by decide +kernel
theorem d_Places_standOn_15 : decode prog_6_method_3_code 15 = .ok (.iaload, 1) := by decide +kernel
theorem d_Places_standOn_16 : decode prog_6_method_3_code 16 = .ok (.aload_n 0, 1) := by decide +kernel
theorem d_Places_standOn_17 : decode prog_6_method_3_code 17 = .ok (.getfield 15, 3) := by decide +kernel
theorem d_Places_standOn_20 : decode prog_6_method_3_code 20 = .ok (.iload_n 2, 1) := by decide +kernel
theorem d_Places_standOn_21 : decode prog_6_method_3_code 21 = .ok (.iaload, 1) := by decide +kernel
theorem d_Places_standOn_22 : decode prog_6_method_3_code 22 = .ok (.invokestatic 26, 3) := by decide +kernel
theorem d_Places_standOn_25 : decode prog_6_method_3_code 25 = .ok (.iload_n 1, 1) := by decide +kernel
theorem d_Places_standOn_26 : decode prog_6_method_3_code 26 = .ok (.if_icmp .ne 5, 3) := by decide +kernel
theorem d_Places_standOn_29 : decode prog_6_method_3_code 29 = .ok (.iconst 1, 1) := by decide +kernel
theorem d_Places_standOn_30 : decode prog_6_method_3_code 30 = .ok (.ireturn, 1) := by decide +kernel
theorem d_Places_standOn_31 : decode prog_6_method_3_code 31 = .ok (.iinc 2 1, 3) := by decide +kernel
theorem d_Places_standOn_34 : decode prog_6_method_3_code 34 = .ok (.goto (-32), 3) := by decide +kernel
theorem d_Places_standOn_37 : decode prog_6_method_3_code 37 = .ok (.iconst 0, 1) := by decide +kernel
theorem d_Places_standOn_38 : decode prog_6_method_3_code 38 = .ok (.ireturn, 1) := by decide +kernel
theorem d_Search_init_0 : decode prog_7_method_1_code 0 = .ok (.aload_n 0, 1) := by decide +kernel
theorem d_Search_init_1 : decode prog_7_method_1_code 1 = .ok (.invokespecial 3, 3) := by decide +kernel
theorem d_Search_init_4 : decode prog_7_method_1_code 4 = .ok (.aload_n 0, 1) := by decide +kernel
theorem d_Search_init_5 : decode prog_7_method_1_code 5 = .ok (.sipush 567, 3) := by decide +kernel
theorem d_Search_init_8 : decode prog_7_method_1_code 8 = .ok (.newarray .int, 2) := by decide +kernel
theorem d_Search_init_10 : decode prog_7_method_1_code 10 = .ok (.putfield 9, 3) := by decide +kernel
theorem d_Search_init_13 : decode prog_7_method_1_code 13 = .ok (.aload_n 0, 1) := by decide +kernel
theorem d_Search_init_14 : decode prog_7_method_1_code 14 = .ok (.bipush 7, 2) := by decide +kernel
theorem d_Search_init_16 : decode prog_7_method_1_code 16 = .ok (.newarray .int, 2) := by decide +kernel
theorem d_Search_init_18 : decode prog_7_method_1_code 18 = .ok (.putfield 15, 3) := by decide +kernel
theorem d_Search_init_21 : decode prog_7_method_1_code 21 = .ok (.aload_n 0, 1) := by decide +kernel
theorem d_Search_init_22 : decode prog_7_method_1_code 22 = .ok (.iconst 0, 1) := by decide +kernel
theorem d_Search_init_23 : decode prog_7_method_1_code 23 = .ok (.putfield 18, 3) := by decide +kernel
theorem d_Search_init_26 : decode prog_7_method_1_code 26 = .ok (.aload_n 0, 1) := by decide +kernel
theorem d_Search_init_27 : decode prog_7_method_1_code 27 = .ok (.iconst 0, 1) := by decide +kernel
theorem d_Search_init_28 : decode prog_7_method_1_code 28 = .ok (.putfield 22, 3) := by decide +kernel
theorem d_Search_init_31 : decode prog_7_method_1_code 31 = .ok (.aload_n 0, 1) := by decide +kernel
theorem d_Search_init_32 : decode prog_7_method_1_code 32 = .ok (.iconst (-1), 1) := by decide +kernel
theorem d_Search_init_33 : decode prog_7_method_1_code 33 = .ok (.putfield 25, 3) := by decide +kernel
theorem d_Search_init_36 : decode prog_7_method_1_code 36 = .ok (.aload_n 0, 1) := by decide +kernel
theorem d_Search_init_37 : decode prog_7_method_1_code 37 = .ok (.aload_n 1, 1) := by decide +kernel
theorem d_Search_init_38 : decode prog_7_method_1_code 38 = .ok (.putfield 28, 3) := by decide +kernel
theorem d_Search_init_41 : decode prog_7_method_1_code 41 = .ok (.aload_n 0, 1) := by decide +kernel
theorem d_Search_init_42 : decode prog_7_method_1_code 42 = .ok (.aload_n 2, 1) := by decide +kernel
theorem d_Search_init_43 : decode prog_7_method_1_code 43 = .ok (.putfield 32, 3) := by decide +kernel
theorem d_Search_init_46 : decode prog_7_method_1_code 46 = .ok (.aload_n 0, 1) := by decide +kernel
theorem d_Search_init_47 : decode prog_7_method_1_code 47 = .ok (.aload_n 3, 1) := by decide +kernel
theorem d_Search_init_48 : decode prog_7_method_1_code 48 = .ok (.putfield 36, 3) := by decide +kernel
theorem d_Search_init_51 : decode prog_7_method_1_code 51 = .ok (.aload_n 0, 1) := by decide +kernel
theorem d_Search_init_52 : decode prog_7_method_1_code 52 = .ok (.aload 4, 2) := by decide +kernel
theorem d_Search_init_54 : decode prog_7_method_1_code 54 = .ok (.putfield 40, 3) := by decide +kernel
theorem d_Search_init_57 : decode prog_7_method_1_code 57 = .ok (.aload_n 0, 1) := by decide +kernel
theorem d_Search_init_58 : decode prog_7_method_1_code 58 = .ok (.aload 5, 2) := by decide +kernel
theorem d_Search_init_60 : decode prog_7_method_1_code 60 = .ok (.putfield 44, 3) := by decide +kernel
theorem d_Search_init_63 : decode prog_7_method_1_code 63 = .ok (.aload_n 0, 1) := by decide +kernel
theorem d_Search_init_64 : decode prog_7_method_1_code 64 = .ok (.new 48, 3) := by decide +kernel
theorem d_Search_init_67 : decode prog_7_method_1_code 67 = .ok (.dup, 1) := by decide +kernel
theorem d_Search_init_68 : decode prog_7_method_1_code 68 = .ok (.aload_n 2, 1) := by decide +kernel
theorem d_Search_init_69 : decode prog_7_method_1_code 69 = .ok (.invokespecial 50, 3) := by decide +kernel
theorem d_Search_init_72 : decode prog_7_method_1_code 72 = .ok (.putfield 53, 3) := by decide +kernel
theorem d_Search_init_75 : decode prog_7_method_1_code 75 = .ok (.aload_n 0, 1) := by decide +kernel
theorem d_Search_init_76 : decode prog_7_method_1_code 76 = .ok (.new 48, 3) := by decide +kernel
theorem d_Search_init_79 : decode prog_7_method_1_code 79 = .ok (.dup, 1) := by decide +kernel
theorem d_Search_init_80 : decode prog_7_method_1_code 80 = .ok (.aload_n 2, 1) := by decide +kernel
theorem d_Search_init_81 : decode prog_7_method_1_code 81 = .ok (.invokespecial 50, 3) := by decide +kernel
theorem d_Search_init_84 : decode prog_7_method_1_code 84 = .ok (.putfield 57, 3) := by decide +kernel
theorem d_Search_init_87 : decode prog_7_method_1_code 87 = .ok (.return_, 1) := by decide +kernel
theorem d_Search_allEscape_0 : decode prog_7_method_11_code 0 = .ok (.aload_n 0, 1) := by decide +kernel
theorem d_Search_allEscape_1 : decode prog_7_method_11_code 1 = .ok (.getfield 40, 3) := by decide +kernel
theorem d_Search_allEscape_4 : decode prog_7_method_11_code 4 = .ok (.getfield 162, 3) := by decide +kernel
theorem d_Search_allEscape_7 : decode prog_7_method_11_code 7 = .ok (.ifCond .ne 5, 3) := by decide +kernel
theorem d_Search_allEscape_10 : decode prog_7_method_11_code 10 = .ok (.iconst 1, 1) := by decide +kernel
theorem d_Search_allEscape_11 : decode prog_7_method_11_code 11 = .ok (.ireturn, 1) := by decide +kernel
theorem d_Search_allEscape_12 : decode prog_7_method_11_code 12 = .ok (.aload_n 0, 1) := by decide +kernel
theorem d_Search_allEscape_13 : decode prog_7_method_11_code 13 = .ok (.getfield 44, 3) := by decide +kernel
theorem d_Search_allEscape_16 : decode prog_7_method_11_code 16 = .ok (.aload_n 0, 1) := by decide +kernel
theorem d_Search_allEscape_17 : decode prog_7_method_11_code 17 = .ok (.getfield 40, 3) := by decide +kernel
theorem d_Search_allEscape_20 : decode prog_7_method_11_code 20 = .ok (.invokevirtual 165, 3) := by decide +kernel
theorem d_Search_allEscape_23 : decode prog_7_method_11_code 23 = .ok (.iconst 0, 1) := by decide +kernel
theorem d_Search_allEscape_24 : decode prog_7_method_11_code 24 = .ok (.istore_n 1, 1) := by decide +kernel
theorem d_Search_allEscape_25 : decode prog_7_method_11_code 25 = .ok (.iload_n 1, 1) := by decide +kernel
theorem d_Search_allEscape_26 : decode prog_7_method_11_code 26 = .ok (.aload_n 0, 1) := by decide +kernel
theorem d_Search_allEscape_27 : decode prog_7_method_11_code 27 = .ok (.getfield 32, 3) := by decide +kernel
theorem d_Search_allEscape_30 : decode prog_7_method_11_code 30 = .ok (.getfield 63, 3) := by decide +kernel
theorem d_Search_allEscape_33 : decode prog_7_method_11_code 33 = .ok (.if_icmp .ge 33, 3) := by decide +kernel
theorem d_Search_allEscape_36 : decode prog_7_method_11_code 36 = .ok (.aload_n 0, 1) := by decide +kernel
theorem d_Search_allEscape_37 : decode prog_7_method_11_code 37 = .ok (.getfield 44, 3) := by decide +kernel
theorem d_Search_allEscape_40 : decode prog_7_method_11_code 40 = .ok (.aload_n 0, 1) := by decide +kernel
theorem d_Search_allEscape_41 : decode prog_7_method_11_code 41 = .ok (.getfield 53, 3) := by decide +kernel
theorem d_Search_allEscape_44 : decode prog_7_method_11_code 44 = .ok (.iload_n 1, 1) := by decide +kernel
theorem d_Search_allEscape_45 : decode prog_7_method_11_code 45 = .ok (.aload_n 0, 1) := by decide +kernel
theorem d_Search_allEscape_46 : decode prog_7_method_11_code 46 = .ok (.getfield 40, 3) := by decide +kernel
theorem d_Search_allEscape_49 : decode prog_7_method_11_code 49 = .ok (.getfield 169, 3) := by decide +kernel
theorem d_Search_allEscape_52 : decode prog_7_method_11_code 52 = .ok (.invokevirtual 172, 3) := by decide +kernel
theorem d_Search_allEscape_55 : decode prog_7_method_11_code 55 = .ok (.ifCond .ne 5, 3) := by decide +kernel
theorem d_Search_allEscape_58 : decode prog_7_method_11_code 58 = .ok (.iconst 0, 1) := by decide +kernel
theorem d_Search_allEscape_59 : decode prog_7_method_11_code 59 = .ok (.ireturn, 1) := by decide +kernel
theorem d_Search_allEscape_60 : decode prog_7_method_11_code 60 = .ok (.iinc 1 1, 3) := by decide +kernel
theorem d_Search_allEscape_63 : decode prog_7_method_11_code 63 = .ok (.goto (-38), 3) := by decide +kernel
theorem d_Search_allEscape_66 : decode prog_7_method_11_code 66 = .ok (.iconst 1, 1) := by decide +kernel
theorem d_Search_allEscape_67 : decode prog_7_method_11_code 67 = .ok (.ireturn, 1) := by decide +kernel
theorem d_Search_allSeen_0 : decode prog_7_method_10_code 0 = .ok (.iconst 0, 1) := by decide +kernel
theorem d_Search_allSeen_1 : decode prog_7_method_10_code 1 = .ok (.istore_n 1, 1) := by decide +kernel
theorem d_Search_allSeen_2 : decode prog_7_method_10_code 2 = .ok (.iload_n 1, 1) := by decide +kernel
theorem d_Search_allSeen_3 : decode prog_7_method_10_code 3 = .ok (.aload_n 0, 1) := by decide +kernel
theorem d_Search_allSeen_4 : decode prog_7_method_10_code 4 = .ok (.getfield 36, 3) := by decide +kernel
theorem d_Search_allSeen_7 : decode prog_7_method_10_code 7 = .ok (.getfield 146, 3) := by decide +kernel
theorem d_Search_allSeen_10 : decode prog_7_method_10_code 10 = .ok (.if_icmp .ge 79, 3) := by decide +kernel
theorem d_Search_allSeen_13 : decode prog_7_method_10_code 13 = .ok (.iconst 0, 1) := by decide +kernel
theorem d_Search_allSeen_14 : decode prog_7_method_10_code 14 = .ok (.istore_n 2, 1) := by decide +kernel
theorem d_Search_allSeen_15 : decode prog_7_method_10_code 15 = .ok (.iload_n 2, 1) := by decide +kernel
theorem d_Search_allSeen_16 : decode prog_7_method_10_code 16 = .ok (.aload_n 0, 1) := by decide +kernel
theorem d_Search_allSeen_17 : decode prog_7_method_10_code 17 = .ok (.getfield 32, 3) := by decide +kernel
theorem d_Search_allSeen_20 : decode prog_7_method_10_code 20 = .ok (.getfield 63, 3) := by decide +kernel
theorem d_Search_allSeen_23 : decode prog_7_method_10_code 23 = .ok (.if_icmp .ge 60, 3) := by decide +kernel
theorem d_Search_allSeen_26 : decode prog_7_method_10_code 26 = .ok (.aload_n 0, 1) := by decide +kernel
theorem d_Search_allSeen_27 : decode prog_7_method_10_code 27 = .ok (.getfield 36, 3) := by decide +kernel
theorem d_Search_allSeen_30 : decode prog_7_method_10_code 30 = .ok (.getfield 149, 3) := by decide +kernel
theorem d_Search_allSeen_33 : decode prog_7_method_10_code 33 = .ok (.iload_n 1, 1) := by decide +kernel
theorem d_Search_allSeen_34 : decode prog_7_method_10_code 34 = .ok (.iload_n 2, 1) := by decide +kernel
theorem d_Search_allSeen_35 : decode prog_7_method_10_code 35 = .ok (.invokestatic 153, 3) := by decide +kernel
theorem d_Search_allSeen_38 : decode prog_7_method_10_code 38 = .ok (.baload, 1) := by decide +kernel
theorem d_Search_allSeen_39 : decode prog_7_method_10_code 39 = .ok (.ifCond .eq 38, 3) := by decide +kernel
theorem d_Search_allSeen_42 : decode prog_7_method_10_code 42 = .ok (.aload_n 0, 1) := by decide +kernel
theorem d_Search_allSeen_43 : decode prog_7_method_10_code 43 = .ok (.getfield 44, 3) := by decide +kernel
theorem d_Search_allSeen_46 : decode prog_7_method_10_code 46 = .ok (.aload_n 0, 1) := by decide +kernel
theorem d_Search_allSeen_47 : decode prog_7_method_10_code 47 = .ok (.getfield 53, 3) := by decide +kernel
theorem d_Search_allSeen_50 : decode prog_7_method_10_code 50 = .ok (.iload_n 2, 1) := by decide +kernel
theorem d_Search_allSeen_51 : decode prog_7_method_10_code 51 = .ok (.aload_n 0, 1) := by decide +kernel
theorem d_Search_allSeen_52 : decode prog_7_method_10_code 52 = .ok (.getfield 36, 3) := by decide +kernel
theorem d_Search_allSeen_55 : decode prog_7_method_10_code 55 = .ok (.getfield 156, 3) := by decide +kernel
theorem d_Search_allSeen_58 : decode prog_7_method_10_code 58 = .ok (.iload_n 1, 1) := by decide +kernel
theorem d_Search_allSeen_59 : decode prog_7_method_10_code 59 = .ok (.iaload, 1) := by decide +kernel
theorem d_Search_allSeen_60 : decode prog_7_method_10_code 60 = .ok (.aload_n 0, 1) := by decide +kernel
theorem d_Search_allSeen_61 : decode prog_7_method_10_code 61 = .ok (.getfield 36, 3) := by decide +kernel
theorem d_Search_allSeen_64 : decode prog_7_method_10_code 64 = .ok (.getfield 157, 3) := by decide +kernel
theorem d_Search_allSeen_67 : decode prog_7_method_10_code 67 = .ok (.iload_n 1, 1) := by decide +kernel
theorem d_Search_allSeen_68 : decode prog_7_method_10_code 68 = .ok (.iaload, 1) := by decide +kernel
theorem d_Search_allSeen_69 : decode prog_7_method_10_code 69 = .ok (.invokevirtual 158, 3) := by decide +kernel
theorem d_Search_allSeen_72 : decode prog_7_method_10_code 72 = .ok (.ifCond .ne 5, 3) := by decide +kernel
theorem d_Search_allSeen_75 : decode prog_7_method_10_code 75 = .ok (.iconst 0, 1) := by decide +kernel
theorem d_Search_allSeen_76 : decode prog_7_method_10_code 76 = .ok (.ireturn, 1) := by decide +kernel
theorem d_Search_allSeen_77 : decode prog_7_method_10_code 77 = .ok (.iinc 2 1, 3) := by decide +kernel
theorem d_Search_allSeen_80 : decode prog_7_method_10_code 80 = .ok (.goto (-65), 3) := by decide +kernel
theorem d_Search_allSeen_83 : decode prog_7_method_10_code 83 = .ok (.iinc 1 1, 3) := by decide +kernel
theorem d_Search_allSeen_86 : decode prog_7_method_10_code 86 = .ok (.goto (-84), 3) := by decide +kernel
theorem d_Search_allSeen_89 : decode prog_7_method_10_code 89 = .ok (.iconst 1, 1) := by decide +kernel
theorem d_Search_allSeen_90 : decode prog_7_method_10_code 90 = .ok (.ireturn, 1) := by decide +kernel
theorem d_Search_begin_0 : decode prog_7_method_4_code 0 = .ok (.aload_n 0, 1) := by decide +kernel
theorem d_Search_begin_1 : decode prog_7_method_4_code 1 = .ok (.invokevirtual 60, 3) := by decide +kernel
theorem d_Search_begin_4 : decode prog_7_method_4_code 4 = .ok (.aload_n 0, 1) := by decide +kernel
theorem d_Search_begin_5 : decode prog_7_method_4_code 5 = .ok (.iload_n 1, 1) := by decide +kernel
theorem d_Search_begin_6 : decode prog_7_method_4_code 6 = .ok (.putfield 18, 3) := by decide +kernel
theorem d_Search_begin_9 : decode prog_7_method_4_code 9 = .ok (.iconst 0, 1) := by decide +kernel
theorem d_Search_begin_10 : decode prog_7_method_4_code 10 = .ok (.istore_n 2, 1) := by decide +kernel
theorem d_Search_begin_11 : decode prog_7_method_4_code 11 = .ok (.iload_n 2, 1) := by decide +kernel
theorem d_Search_begin_12 : decode prog_7_method_4_code 12 = .ok (.aload_n 0, 1) := by decide +kernel
theorem d_Search_begin_13 : decode prog_7_method_4_code 13 = .ok (.getfield 32, 3) := by decide +kernel
theorem d_Search_begin_16 : decode prog_7_method_4_code 16 = .ok (.getfield 63, 3) := by decide +kernel
theorem d_Search_begin_19 : decode prog_7_method_4_code 19 = .ok (.if_icmp .ge 14, 3) := by decide +kernel
theorem d_Search_begin_22 : decode prog_7_method_4_code 22 = .ok (.aload_n 0, 1) := by decide +kernel
theorem d_Search_begin_23 : decode prog_7_method_4_code 23 = .ok (.iload_n 2, 1) := by decide +kernel
theorem d_Search_begin_24 : decode prog_7_method_4_code 24 = .ok (.invokevirtual 68, 3) := by decide +kernel
theorem d_Search_begin_27 : decode prog_7_method_4_code 27 = .ok (.iinc 2 1, 3) := by decide +kernel
theorem d_Search_begin_30 : decode prog_7_method_4_code 30 = .ok (.goto (-19), 3) := by decide +kernel
theorem d_Search_begin_33 : decode prog_7_method_4_code 33 = .ok (.return_, 1) := by decide +kernel
theorem d_Search_forget_0 : decode prog_7_method_2_code 0 = .ok (.aload_n 0, 1) := by decide +kernel
theorem d_Search_forget_1 : decode prog_7_method_2_code 1 = .ok (.iconst 0, 1) := by decide +kernel
theorem d_Search_forget_2 : decode prog_7_method_2_code 2 = .ok (.putfield 22, 3) := by decide +kernel
theorem d_Search_forget_5 : decode prog_7_method_2_code 5 = .ok (.aload_n 0, 1) := by decide +kernel
theorem d_Search_forget_6 : decode prog_7_method_2_code 6 = .ok (.iconst (-1), 1) := by decide +kernel
theorem d_Search_forget_7 : decode prog_7_method_2_code 7 = .ok (.putfield 25, 3) := by decide +kernel
theorem d_Search_forget_10 : decode prog_7_method_2_code 10 = .ok (.return_, 1) := by decide +kernel
theorem d_Search_gainOf_0 : decode prog_7_method_8_code 0 = .ok (.iconst 0, 1) := by decide +kernel
theorem d_Search_gainOf_1 : decode prog_7_method_8_code 1 = .ok (.istore_n 2, 1) := by decide +kernel
theorem d_Search_gainOf_2 : decode prog_7_method_8_code 2 = .ok (.iconst 0, 1) := by decide +kernel
theorem d_Search_gainOf_3 : decode prog_7_method_8_code 3 = .ok (.istore_n 3, 1) := by decide +kernel
theorem d_Search_gainOf_4 : decode prog_7_method_8_code 4 = .ok (.iload_n 3, 1) := by decide +kernel
theorem d_Search_gainOf_5 : decode prog_7_method_8_code 5 = .ok (.iload_n 1, 1) := by decide +kernel
theorem d_Search_gainOf_6 : decode prog_7_method_8_code 6 = .ok (.if_icmp .ge 46, 3) := by decide +kernel
theorem d_Search_gainOf_9 : decode prog_7_method_8_code 9 = .ok (.aload_n 0, 1) := by decide +kernel
theorem d_Search_gainOf_10 : decode prog_7_method_8_code 10 = .ok (.getfield 32, 3) := by decide +kernel
theorem d_Search_gainOf_13 : decode prog_7_method_8_code 13 = .ok (.getfield 127, 3) := by decide +kernel
theorem d_Search_gainOf_16 : decode prog_7_method_8_code 16 = .ok (.iload_n 1, 1) := by decide +kernel
theorem d_Search_gainOf_17 : decode prog_7_method_8_code 17 = .ok (.iload_n 3, 1) := by decide +kernel
theorem d_Search_gainOf_18 : decode prog_7_method_8_code 18 = .ok (.invokestatic 124, 3) := by decide +kernel
theorem d_Search_gainOf_21 : decode prog_7_method_8_code 21 = .ok (.iaload, 1) := by decide +kernel
theorem d_Search_gainOf_22 : decode prog_7_method_8_code 22 = .ok (.istore 4, 2) := by decide +kernel
theorem d_Search_gainOf_24 : decode prog_7_method_8_code 24 = .ok (.iload 4, 2) := by decide +kernel
theorem d_Search_gainOf_26 : decode prog_7_method_8_code 26 = .ok (.ifCond .eq 20, 3) := by decide +kernel
theorem d_Search_gainOf_29 : decode prog_7_method_8_code 29 = .ok (.aload_n 0, 1) := by decide +kernel
theorem d_Search_gainOf_30 : decode prog_7_method_8_code 30 = .ok (.getfield 53, 3) := by decide +kernel
theorem d_Search_gainOf_33 : decode prog_7_method_8_code 33 = .ok (.iload_n 1, 1) := by decide +kernel
theorem d_Search_gainOf_34 : decode prog_7_method_8_code 34 = .ok (.iload_n 3, 1) := by decide +kernel
theorem d_Search_gainOf_35 : decode prog_7_method_8_code 35 = .ok (.invokevirtual 118, 3) := by decide +kernel
theorem d_Search_gainOf_38 : decode prog_7_method_8_code 38 = .ok (.ifCond .ne 8, 3) := by decide +kernel
theorem d_Search_gainOf_41 : decode prog_7_method_8_code 41 = .ok (.iload_n 2, 1) := by decide +kernel
theorem d_Search_gainOf_42 : decode prog_7_method_8_code 42 = .ok (.iload 4, 2) := by decide +kernel
theorem d_Search_gainOf_44 : decode prog_7_method_8_code 44 = .ok (.iadd, 1) := by decide +kernel
theorem d_Search_gainOf_45 : decode prog_7_method_8_code 45 = .ok (.istore_n 2, 1) := by decide +kernel
theorem d_Search_gainOf_46 : decode prog_7_method_8_code 46 = .ok (.iinc 3 1, 3) := by decide +kernel
theorem d_Search_gainOf_49 : decode prog_7_method_8_code 49 = .ok (.goto (-45), 3) := by decide +kernel
theorem d_Search_gainOf_52 : decode prog_7_method_8_code 52 = .ok (.iload_n 2, 1) := by decide +kernel
theorem d_Search_gainOf_53 : decode prog_7_method_8_code 53 = .ok (.ireturn, 1) := by decide +kernel
theorem d_Search_hasFound_0 : decode prog_7_method_3_code 0 = .ok (.aload_n 0, 1) := by decide +kernel
theorem d_Search_hasFound_1 : decode prog_7_method_3_code 1 = .ok (.getfield 25, 3) := by decide +kernel
theorem d_Search_hasFound_4 : decode prog_7_method_3_code 4 = .ok (.iconst (-1), 1) := by decide +kernel
theorem d_Search_hasFound_5 : decode prog_7_method_3_code 5 = .ok (.if_icmp .eq 7, 3) := by decide +kernel
theorem d_Search_hasFound_8 : decode prog_7_method_3_code 8 = .ok (.iconst 1, 1) := by decide +kernel
theorem d_Search_hasFound_9 : decode prog_7_method_3_code 9 = .ok (.goto 4, 3) := by decide +kernel
theorem d_Search_hasFound_12 : decode prog_7_method_3_code 12 = .ok (.iconst 0, 1) := by decide +kernel
theorem d_Search_hasFound_13 : decode prog_7_method_3_code 13 = .ok (.ireturn, 1) := by decide +kernel
theorem d_Search_judge_0 : decode prog_7_method_9_code 0 = .ok (.iload_n 1, 1) := by decide +kernel
theorem d_Search_judge_1 : decode prog_7_method_9_code 1 = .ok (.aload_n 0, 1) := by decide +kernel
theorem d_Search_judge_2 : decode prog_7_method_9_code 2 = .ok (.getfield 25, 3) := by decide +kernel
theorem d_Search_judge_5 : decode prog_7_method_9_code 5 = .ok (.if_icmp .gt 4, 3) := by decide +kernel
theorem d_Search_judge_8 : decode prog_7_method_9_code 8 = .ok (.return_, 1) := by decide +kernel
theorem d_Search_judge_9 : decode prog_7_method_9_code 9 = .ok (.aload_n 0, 1) := by decide +kernel
theorem d_Search_judge_10 : decode prog_7_method_9_code 10 = .ok (.getfield 44, 3) := by decide +kernel
theorem d_Search_judge_13 : decode prog_7_method_9_code 13 = .ok (.aload_n 0, 1) := by decide +kernel
theorem d_Search_judge_14 : decode prog_7_method_9_code 14 = .ok (.getfield 53, 3) := by decide +kernel
theorem d_Search_judge_17 : decode prog_7_method_9_code 17 = .ok (.invokevirtual 130, 3) := by decide +kernel
theorem d_Search_judge_20 : decode prog_7_method_9_code 20 = .ok (.aload_n 0, 1) := by decide +kernel
theorem d_Search_judge_21 : decode prog_7_method_9_code 21 = .ok (.invokevirtual 136, 3) := by decide +kernel
theorem d_Search_judge_24 : decode prog_7_method_9_code 24 = .ok (.ifCond .eq 26, 3) := by decide +kernel
theorem d_Search_judge_27 : decode prog_7_method_9_code 27 = .ok (.aload_n 0, 1) := by decide +kernel
theorem d_Search_judge_28 : decode prog_7_method_9_code 28 = .ok (.invokevirtual 140, 3) := by decide +kernel
theorem d_Search_judge_31 : decode prog_7_method_9_code 31 = .ok (.ifCond .eq 19, 3) := by decide +kernel
theorem d_Search_judge_34 : decode prog_7_method_9_code 34 = .ok (.aload_n 0, 1) := by decide +kernel
theorem d_Search_judge_35 : decode prog_7_method_9_code 35 = .ok (.getfield 57, 3) := by decide +kernel
theorem d_Search_judge_38 : decode prog_7_method_9_code 38 = .ok (.aload_n 0, 1) := by decide +kernel
theorem d_Search_judge_39 : decode prog_7_method_9_code 39 = .ok (.getfield 53, 3) := by decide +kernel
theorem d_Search_judge_42 : decode prog_7_method_9_code 42 = .ok (.invokevirtual 143, 3) := by decide +kernel
theorem d_Search_judge_45 : decode prog_7_method_9_code 45 = .ok (.aload_n 0, 1) := by decide +kernel
theorem d_Search_judge_46 : decode prog_7_method_9_code 46 = .ok (.iload_n 1, 1) := by decide +kernel
theorem d_Search_judge_47 : decode prog_7_method_9_code 47 = .ok (.putfield 25, 3) := by decide +kernel
theorem d_Search_judge_50 : decode prog_7_method_9_code 50 = .ok (.return_, 1) := by decide +kernel
theorem d_Search_keepsApart_0 : decode prog_7_method_7_code 0 = .ok (.iconst 0, 1) := by decide +kernel
theorem d_Search_keepsApart_1 : decode prog_7_method_7_code 1 = .ok (.istore_n 2, 1) := by decide +kernel
theorem d_Search_keepsApart_2 : decode prog_7_method_7_code 2 = .ok (.iload_n 2, 1) := by decide +kernel
theorem d_Search_keepsApart_3 : decode prog_7_method_7_code 3 = .ok (.iload_n 1, 1) := by decide +kernel
theorem d_Search_keepsApart_4 : decode prog_7_method_7_code 4 = .ok (.if_icmp .ge 36, 3) := by decide +kernel
theorem d_Search_keepsApart_7 : decode prog_7_method_7_code 7 = .ok (.aload_n 0, 1) := by decide +kernel
theorem d_Search_keepsApart_8 : decode prog_7_method_7_code 8 = .ok (.getfield 53, 3) := by decide +kernel
theorem d_Search_keepsApart_11 : decode prog_7_method_7_code 11 = .ok (.iload_n 1, 1) := by decide +kernel
theorem d_Search_keepsApart_12 : decode prog_7_method_7_code 12 = .ok (.iload_n 2, 1) := by decide +kernel
theorem d_Search_keepsApart_13 : decode prog_7_method_7_code 13 = .ok (.invokevirtual 118, 3) := by decide +kernel
theorem d_Search_keepsApart_16 : decode prog_7_method_7_code 16 = .ok (.aload_n 0, 1) := by decide +kernel
theorem d_Search_keepsApart_17 : decode prog_7_method_7_code 17 = .ok (.getfield 32, 3) := by decide +kernel
theorem d_Search_keepsApart_20 : decode prog_7_method_7_code 20 = .ok (.getfield 121, 3) := by decide +kernel
theorem d_Search_keepsApart_23 : decode prog_7_method_7_code 23 = .ok (.iload_n 1, 1) := by decide +kernel
theorem d_Search_keepsApart_24 : decode prog_7_method_7_code 24 = .ok (.iload_n 2, 1) := by decide +kernel
theorem d_Search_keepsApart_25 : decode prog_7_method_7_code 25 = .ok (.invokestatic 124, 3) := by decide +kernel
theorem d_Search_keepsApart_28 : decode prog_7_method_7_code 28 = .ok (.iaload, 1) := by decide +kernel
theorem d_Search_keepsApart_29 : decode prog_7_method_7_code 29 = .ok (.if_icmp .ge 5, 3) := by decide +kernel
theorem d_Search_keepsApart_32 : decode prog_7_method_7_code 32 = .ok (.iconst 0, 1) := by decide +kernel
theorem d_Search_keepsApart_33 : decode prog_7_method_7_code 33 = .ok (.ireturn, 1) := by decide +kernel
theorem d_Search_keepsApart_34 : decode prog_7_method_7_code 34 = .ok (.iinc 2 1, 3) := by decide +kernel
theorem d_Search_keepsApart_37 : decode prog_7_method_7_code 37 = .ok (.goto (-35), 3) := by decide +kernel
theorem d_Search_keepsApart_40 : decode prog_7_method_7_code 40 = .ok (.iconst 1, 1) := by decide +kernel
theorem d_Search_keepsApart_41 : decode prog_7_method_7_code 41 = .ok (.ireturn, 1) := by decide +kernel
theorem d_Search_listSpots_0 : decode prog_7_method_5_code 0 = .ok (.iconst 0, 1) := by decide +kernel
theorem d_Search_listSpots_1 : decode prog_7_method_5_code 1 = .ok (.istore_n 2, 1) := by decide +kernel
theorem d_Search_listSpots_2 : decode prog_7_method_5_code 2 = .ok (.iconst 0, 1) := by decide +kernel
theorem d_Search_listSpots_3 : decode prog_7_method_5_code 3 = .ok (.istore_n 3, 1) := by decide +kernel
theorem d_Search_listSpots_4 : decode prog_7_method_5_code 4 = .ok (.iload_n 3, 1) := by decide +kernel
theorem d_Search_listSpots_5 : decode prog_7_method_5_code 5 = .ok (.aload_n 0, 1) := by decide +kernel
theorem d_Search_listSpots_6 : decode prog_7_method_5_code 6 = .ok (.getfield 28, 3) := by decide +kernel
theorem d_Search_listSpots_9 : decode prog_7_method_5_code 9 = .ok (.getfield 72, 3) := by decide +kernel
theorem d_Search_listSpots_12 : decode prog_7_method_5_code 12 = .ok (.if_icmp .ge 90, 3) := by decide +kernel
theorem d_Search_listSpots_15 : decode prog_7_method_5_code 15 = .ok (.iconst 0, 1) := by decide +kernel
theorem d_Search_listSpots_16 : decode prog_7_method_5_code 16 = .ok (.istore 4, 2) := by decide +kernel
theorem d_Search_listSpots_18 : decode prog_7_method_5_code 18 = .ok (.iload 4, 2) := by decide +kernel
theorem d_Search_listSpots_20 : decode prog_7_method_5_code 20 = .ok (.aload_n 0, 1) := by decide +kernel
theorem d_Search_listSpots_21 : decode prog_7_method_5_code 21 = .ok (.getfield 28, 3) := by decide +kernel
theorem d_Search_listSpots_24 : decode prog_7_method_5_code 24 = .ok (.getfield 77, 3) := by decide +kernel
theorem d_Search_listSpots_27 : decode prog_7_method_5_code 27 = .ok (.if_icmp .ge 69, 3) := by decide +kernel
theorem d_Search_listSpots_30 : decode prog_7_method_5_code 30 = .ok (.aload_n 0, 1) := by decide +kernel
theorem d_Search_listSpots_31 : decode prog_7_method_5_code 31 = .ok (.getfield 28, 3) := by decide +kernel
theorem d_Search_listSpots_34 : decode prog_7_method_5_code 34 = .ok (.iload 4, 2) := by decide +kernel
theorem d_Search_listSpots_36 : decode prog_7_method_5_code 36 = .ok (.iload_n 3, 1) := by decide +kernel
theorem d_Search_listSpots_37 : decode prog_7_method_5_code 37 = .ok (.aload_n 0, 1) := by decide +kernel
theorem d_Search_listSpots_38 : decode prog_7_method_5_code 38 = .ok (.getfield 32, 3) := by decide +kernel
theorem d_Search_listSpots_41 : decode prog_7_method_5_code 41 = .ok (.getfield 80, 3) := by decide +kernel
theorem d_Search_listSpots_44 : decode prog_7_method_5_code 44 = .ok (.iload_n 1, 1) := by decide +kernel
theorem d_Search_listSpots_45 : decode prog_7_method_5_code 45 = .ok (.iaload, 1) := by decide +kernel
theorem d_Search_listSpots_46 : decode prog_7_method_5_code 46 = .ok (.aload_n 0, 1) := by decide +kernel
theorem d_Search_listSpots_47 : decode prog_7_method_5_code 47 = .ok (.getfield 32, 3) := by decide +kernel
theorem d_Search_listSpots_50 : decode prog_7_method_5_code 50 = .ok (.getfield 83, 3) := by decide +kernel
theorem d_Search_listSpots_53 : decode prog_7_method_5_code 53 = .ok (.iload_n 1, 1) := by decide +kernel
theorem d_Search_listSpots_54 : decode prog_7_method_5_code 54 = .ok (.iaload, 1) := by decide +kernel
theorem d_Search_listSpots_55 : decode prog_7_method_5_code 55 = .ok (.aload_n 0, 1) := by decide +kernel
