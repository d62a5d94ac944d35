theorem d_CaseLayout_init_0 : decode prog_1_method_1_code 0 = .ok (.aload_n 0, 1) := by decide +kernel
theorem d_CaseLayout_init_1 : decode prog_1_method_1_code 1 = .ok (.invokespecial 3, 3) := by decide +kernel
theorem d_CaseLayout_init_4 : decode prog_1_method_1_code 4 = .ok (.aload_n 0, 1) := by decide +kernel
theorem d_CaseLayout_init_5 : decode prog_1_method_1_code 5 = .ok (.new 9, 3) := by decide +kernel
theorem d_CaseLayout_init_8 : decode prog_1_method_1_code 8 = .ok (.dup, 1) := by decide +kernel
theorem d_CaseLayout_init_9 : decode prog_1_method_1_code 9 = .ok (.iload_n 1, 1) := by decide +kernel
theorem d_CaseLayout_init_10 : decode prog_1_method_1_code 10 = .ok (.iconst 1, 1) := by decide +kernel
theorem d_CaseLayout_init_11 : decode prog_1_method_1_code 11 = .ok (.bipush 9, 2) := by decide +kernel
theorem d_CaseLayout_init_13 : decode prog_1_method_1_code 13 = .ok (.invokestatic 11, 3) := by decide +kernel
theorem d_CaseLayout_init_16 : decode prog_1_method_1_code 16 = .ok (.iload_n 2, 1) := by decide +kernel
theorem d_CaseLayout_init_17 : decode prog_1_method_1_code 17 = .ok (.iconst 1, 1) := by decide +kernel
theorem d_CaseLayout_init_18 : decode prog_1_method_1_code 18 = .ok (.bipush 9, 2) := by decide +kernel
theorem d_CaseLayout_init_20 : decode prog_1_method_1_code 20 = .ok (.invokestatic 11, 3) := by decide +kernel
theorem d_CaseLayout_init_23 : decode prog_1_method_1_code 23 = .ok (.invokespecial 15, 3) := by decide +kernel
theorem d_CaseLayout_init_26 : decode prog_1_method_1_code 26 = .ok (.putfield 18, 3) := by decide +kernel
theorem d_CaseLayout_init_29 : decode prog_1_method_1_code 29 = .ok (.aload_n 0, 1) := by decide +kernel
theorem d_CaseLayout_init_30 : decode prog_1_method_1_code 30 = .ok (.new 22, 3) := by decide +kernel
theorem d_CaseLayout_init_33 : decode prog_1_method_1_code 33 = .ok (.dup, 1) := by decide +kernel
theorem d_CaseLayout_init_34 : decode prog_1_method_1_code 34 = .ok (.invokespecial 24, 3) := by decide +kernel
theorem d_CaseLayout_init_37 : decode prog_1_method_1_code 37 = .ok (.putfield 25, 3) := by decide +kernel
theorem d_CaseLayout_init_40 : decode prog_1_method_1_code 40 = .ok (.aload_n 0, 1) := by decide +kernel
theorem d_CaseLayout_init_41 : decode prog_1_method_1_code 41 = .ok (.new 29, 3) := by decide +kernel
theorem d_CaseLayout_init_44 : decode prog_1_method_1_code 44 = .ok (.dup, 1) := by decide +kernel
theorem d_CaseLayout_init_45 : decode prog_1_method_1_code 45 = .ok (.invokespecial 31, 3) := by decide +kernel
theorem d_CaseLayout_init_48 : decode prog_1_method_1_code 48 = .ok (.putfield 32, 3) := by decide +kernel
theorem d_CaseLayout_init_51 : decode prog_1_method_1_code 51 = .ok (.aload_n 0, 1) := by decide +kernel
theorem d_CaseLayout_init_52 : decode prog_1_method_1_code 52 = .ok (.new 36, 3) := by decide +kernel
theorem d_CaseLayout_init_55 : decode prog_1_method_1_code 55 = .ok (.dup, 1) := by decide +kernel
theorem d_CaseLayout_init_56 : decode prog_1_method_1_code 56 = .ok (.invokespecial 38, 3) := by decide +kernel
theorem d_CaseLayout_init_59 : decode prog_1_method_1_code 59 = .ok (.putfield 39, 3) := by decide +kernel
theorem d_CaseLayout_init_62 : decode prog_1_method_1_code 62 = .ok (.aload_n 0, 1) := by decide +kernel
theorem d_CaseLayout_init_63 : decode prog_1_method_1_code 63 = .ok (.new 43, 3) := by decide +kernel
theorem d_CaseLayout_init_66 : decode prog_1_method_1_code 66 = .ok (.dup, 1) := by decide +kernel
theorem d_CaseLayout_init_67 : decode prog_1_method_1_code 67 = .ok (.aload_n 0, 1) := by decide +kernel
theorem d_CaseLayout_init_68 : decode prog_1_method_1_code 68 = .ok (.getfield 18, 3) := by decide +kernel
theorem d_CaseLayout_init_71 : decode prog_1_method_1_code 71 = .ok (.invokespecial 45, 3) := by decide +kernel
theorem d_CaseLayout_init_74 : decode prog_1_method_1_code 74 = .ok (.putfield 48, 3) := by decide +kernel
theorem d_CaseLayout_init_77 : decode prog_1_method_1_code 77 = .ok (.aload_n 0, 1) := by decide +kernel
theorem d_CaseLayout_init_78 : decode prog_1_method_1_code 78 = .ok (.new 52, 3) := by decide +kernel
theorem d_CaseLayout_init_81 : decode prog_1_method_1_code 81 = .ok (.dup, 1) := by decide +kernel
theorem d_CaseLayout_init_82 : decode prog_1_method_1_code 82 = .ok (.aload_n 0, 1) := by decide +kernel
theorem d_CaseLayout_init_83 : decode prog_1_method_1_code 83 = .ok (.getfield 18, 3) := by decide +kernel
theorem d_CaseLayout_init_86 : decode prog_1_method_1_code 86 = .ok (.aload_n 0, 1) := by decide +kernel
theorem d_CaseLayout_init_87 : decode prog_1_method_1_code 87 = .ok (.getfield 25, 3) := by decide +kernel
theorem d_CaseLayout_init_90 : decode prog_1_method_1_code 90 = .ok (.aload_n 0, 1) := by decide +kernel
theorem d_CaseLayout_init_91 : decode prog_1_method_1_code 91 = .ok (.getfield 32, 3) := by decide +kernel
theorem d_CaseLayout_init_94 : decode prog_1_method_1_code 94 = .ok (.aload_n 0, 1) := by decide +kernel
theorem d_CaseLayout_init_95 : decode prog_1_method_1_code 95 = .ok (.getfield 39, 3) := by decide +kernel
theorem d_CaseLayout_init_98 : decode prog_1_method_1_code 98 = .ok (.aload_n 0, 1) := by decide +kernel
theorem d_CaseLayout_init_99 : decode prog_1_method_1_code 99 = .ok (.getfield 48, 3) := by decide +kernel
theorem d_CaseLayout_init_102 : decode prog_1_method_1_code 102 = .ok (.invokespecial 54, 3) := by decide +kernel
theorem d_CaseLayout_init_105 : decode prog_1_method_1_code 105 = .ok (.putfield 57, 3) := by decide +kernel
theorem d_CaseLayout_init_108 : decode prog_1_method_1_code 108 = .ok (.return_, 1) := by decide +kernel
theorem d_CaseLayout_apart_0 : decode prog_1_method_5_code 0 = .ok (.aload_n 0, 1) := by decide +kernel
theorem d_CaseLayout_apart_1 : decode prog_1_method_5_code 1 = .ok (.iload_n 1, 1) := by decide +kernel
theorem d_CaseLayout_apart_2 : decode prog_1_method_5_code 2 = .ok (.iload_n 2, 1) := by decide +kernel
theorem d_CaseLayout_apart_3 : decode prog_1_method_5_code 3 = .ok (.invokevirtual 106, 3) := by decide +kernel
theorem d_CaseLayout_apart_6 : decode prog_1_method_5_code 6 = .ok (.iload_n 3, 1) := by decide +kernel
theorem d_CaseLayout_apart_7 : decode prog_1_method_5_code 7 = .ok (.iconst 0, 1) := by decide +kernel
theorem d_CaseLayout_apart_8 : decode prog_1_method_5_code 8 = .ok (.iconst 5, 1) := by decide +kernel
theorem d_CaseLayout_apart_9 : decode prog_1_method_5_code 9 = .ok (.invokestatic 84, 3) := by decide +kernel
theorem d_CaseLayout_apart_12 : decode prog_1_method_5_code 12 = .ok (.aload_n 0, 1) := by decide +kernel
theorem d_CaseLayout_apart_13 : decode prog_1_method_5_code 13 = .ok (.getfield 57, 3) := by decide +kernel
theorem d_CaseLayout_apart_16 : decode prog_1_method_5_code 16 = .ok (.invokevirtual 81, 3) := by decide +kernel
theorem d_CaseLayout_apart_19 : decode prog_1_method_5_code 19 = .ok (.aload_n 0, 1) := by decide +kernel
theorem d_CaseLayout_apart_20 : decode prog_1_method_5_code 20 = .ok (.getfield 25, 3) := by decide +kernel
theorem d_CaseLayout_apart_23 : decode prog_1_method_5_code 23 = .ok (.getfield 109, 3) := by decide +kernel
theorem d_CaseLayout_apart_26 : decode prog_1_method_5_code 26 = .ok (.iload_n 1, 1) := by decide +kernel
theorem d_CaseLayout_apart_27 : decode prog_1_method_5_code 27 = .ok (.iload_n 2, 1) := by decide +kernel
theorem d_CaseLayout_apart_28 : decode prog_1_method_5_code 28 = .ok (.iload_n 3, 1) := by decide +kernel
theorem d_CaseLayout_apart_29 : decode prog_1_method_5_code 29 = .ok (.invokestatic 112, 3) := by decide +kernel
theorem d_CaseLayout_apart_32 : decode prog_1_method_5_code 32 = .ok (.ireturn, 1) := by decide +kernel
theorem d_CaseLayout_at_0 : decode prog_1_method_13_code 0 = .ok (.aload_n 0, 1) := by decide +kernel
theorem d_CaseLayout_at_1 : decode prog_1_method_13_code 1 = .ok (.iload_n 1, 1) := by decide +kernel
theorem d_CaseLayout_at_2 : decode prog_1_method_13_code 2 = .ok (.invokevirtual 133, 3) := by decide +kernel
theorem d_CaseLayout_at_5 : decode prog_1_method_13_code 5 = .ok (.iload_n 2, 1) := by decide +kernel
theorem d_CaseLayout_at_6 : decode prog_1_method_13_code 6 = .ok (.ifCond .eq 18, 3) := by decide +kernel
theorem d_CaseLayout_at_9 : decode prog_1_method_13_code 9 = .ok (.iload_n 2, 1) := by decide +kernel
theorem d_CaseLayout_at_10 : decode prog_1_method_13_code 10 = .ok (.iconst 1, 1) := by decide +kernel
theorem d_CaseLayout_at_11 : decode prog_1_method_13_code 11 = .ok (.if_icmp .eq 13, 3) := by decide +kernel
theorem d_CaseLayout_at_14 : decode prog_1_method_13_code 14 = .ok (.new 167, 3) := by decide +kernel
theorem d_CaseLayout_at_17 : decode prog_1_method_13_code 17 = .ok (.dup, 1) := by decide +kernel
theorem d_CaseLayout_at_18 : decode prog_1_method_13_code 18 = .ok (.ldc 169, 2) := by decide +kernel
theorem d_CaseLayout_at_20 : decode prog_1_method_13_code 20 = .ok (.invokespecial 171, 3) := by decide +kernel
theorem d_CaseLayout_at_23 : decode prog_1_method_13_code 23 = .ok (.athrow, 1) := by decide +kernel
theorem d_CaseLayout_at_24 : decode prog_1_method_13_code 24 = .ok (.aload_n 0, 1) := by decide +kernel
theorem d_CaseLayout_at_25 : decode prog_1_method_13_code 25 = .ok (.invokevirtual 172, 3) := by decide +kernel
theorem d_CaseLayout_at_28 : decode prog_1_method_13_code 28 = .ok (.iload_n 2, 1) := by decide +kernel
theorem d_CaseLayout_at_29 : decode prog_1_method_13_code 29 = .ok (.ifCond .ne 18, 3) := by decide +kernel
theorem d_CaseLayout_at_32 : decode prog_1_method_13_code 32 = .ok (.aload_n 0, 1) := by decide +kernel
theorem d_CaseLayout_at_33 : decode prog_1_method_13_code 33 = .ok (.getfield 57, 3) := by decide +kernel
theorem d_CaseLayout_at_36 : decode prog_1_method_13_code 36 = .ok (.getfield 175, 3) := by decide +kernel
theorem d_CaseLayout_at_39 : decode prog_1_method_13_code 39 = .ok (.getfield 179, 3) := by decide +kernel
theorem d_CaseLayout_at_42 : decode prog_1_method_13_code 42 = .ok (.iload_n 1, 1) := by decide +kernel
theorem d_CaseLayout_at_43 : decode prog_1_method_13_code 43 = .ok (.iaload, 1) := by decide +kernel
theorem d_CaseLayout_at_44 : decode prog_1_method_13_code 44 = .ok (.goto 15, 3) := by decide +kernel
theorem d_CaseLayout_at_47 : decode prog_1_method_13_code 47 = .ok (.aload_n 0, 1) := by decide +kernel
theorem d_CaseLayout_at_48 : decode prog_1_method_13_code 48 = .ok (.getfield 57, 3) := by decide +kernel
theorem d_CaseLayout_at_51 : decode prog_1_method_13_code 51 = .ok (.getfield 175, 3) := by decide +kernel
theorem d_CaseLayout_at_54 : decode prog_1_method_13_code 54 = .ok (.getfield 184, 3) := by decide +kernel
theorem d_CaseLayout_at_57 : decode prog_1_method_13_code 57 = .ok (.iload_n 1, 1) := by decide +kernel
theorem d_CaseLayout_at_58 : decode prog_1_method_13_code 58 = .ok (.iaload, 1) := by decide +kernel
theorem d_CaseLayout_at_59 : decode prog_1_method_13_code 59 = .ok (.ireturn, 1) := by decide +kernel
theorem d_CaseLayout_cellOf_0 : decode prog_1_method_25_code 0 = .ok (.iload_n 1, 1) := by decide +kernel
theorem d_CaseLayout_cellOf_1 : decode prog_1_method_25_code 1 = .ok (.bipush 9, 2) := by decide +kernel
theorem d_CaseLayout_cellOf_3 : decode prog_1_method_25_code 3 = .ok (.imul, 1) := by decide +kernel
theorem d_CaseLayout_cellOf_4 : decode prog_1_method_25_code 4 = .ok (.iload_n 0, 1) := by decide +kernel
theorem d_CaseLayout_cellOf_5 : decode prog_1_method_25_code 5 = .ok (.iadd, 1) := by decide +kernel
theorem d_CaseLayout_cellOf_6 : decode prog_1_method_25_code 6 = .ok (.ireturn, 1) := by decide +kernel
theorem d_CaseLayout_count_0 : decode prog_1_method_17_code 0 = .ok (.iload_n 1, 1) := by decide +kernel
theorem d_CaseLayout_count_1 : decode prog_1_method_17_code 1 = .ok (.tableswitch 63 0 3 #[31, 39, 47, 55], 31) := by decide +kernel
theorem d_CaseLayout_count_32 : decode prog_1_method_17_code 32 = .ok (.aload_n 0, 1) := by decide +kernel
theorem d_CaseLayout_count_33 : decode prog_1_method_17_code 33 = .ok (.getfield 25, 3) := by decide +kernel
theorem d_CaseLayout_count_36 : decode prog_1_method_17_code 36 = .ok (.getfield 92, 3) := by decide +kernel
theorem d_CaseLayout_count_39 : decode prog_1_method_17_code 39 = .ok (.ireturn, 1) := by decide +kernel
theorem d_CaseLayout_count_40 : decode prog_1_method_17_code 40 = .ok (.aload_n 0, 1) := by decide +kernel
theorem d_CaseLayout_count_41 : decode prog_1_method_17_code 41 = .ok (.getfield 32, 3) := by decide +kernel
theorem d_CaseLayout_count_44 : decode prog_1_method_17_code 44 = .ok (.getfield 119, 3) := by decide +kernel
theorem d_CaseLayout_count_47 : decode prog_1_method_17_code 47 = .ok (.ireturn, 1) := by decide +kernel
theorem d_CaseLayout_count_48 : decode prog_1_method_17_code 48 = .ok (.aload_n 0, 1) := by decide +kernel
theorem d_CaseLayout_count_49 : decode prog_1_method_17_code 49 = .ok (.getfield 39, 3) := by decide +kernel
theorem d_CaseLayout_count_52 : decode prog_1_method_17_code 52 = .ok (.getfield 142, 3) := by decide +kernel
theorem d_CaseLayout_count_55 : decode prog_1_method_17_code 55 = .ok (.ireturn, 1) := by decide +kernel
theorem d_CaseLayout_count_56 : decode prog_1_method_17_code 56 = .ok (.aload_n 0, 1) := by decide +kernel
theorem d_CaseLayout_count_57 : decode prog_1_method_17_code 57 = .ok (.getfield 18, 3) := by decide +kernel
theorem d_CaseLayout_count_60 : decode prog_1_method_17_code 60 = .ok (.getfield 207, 3) := by decide +kernel
theorem d_CaseLayout_count_63 : decode prog_1_method_17_code 63 = .ok (.ireturn, 1) := by decide +kernel
theorem d_CaseLayout_count_64 : decode prog_1_method_17_code 64 = .ok (.new 167, 3) := by decide +kernel
theorem d_CaseLayout_count_67 : decode prog_1_method_17_code 67 = .ok (.dup, 1) := by decide +kernel
theorem d_CaseLayout_count_68 : decode prog_1_method_17_code 68 = .ok (.ldc 210, 2) := by decide +kernel
theorem d_CaseLayout_count_70 : decode prog_1_method_17_code 70 = .ok (.invokespecial 171, 3) := by decide +kernel
theorem d_CaseLayout_count_73 : decode prog_1_method_17_code 73 = .ok (.athrow, 1) := by decide +kernel
theorem d_CaseLayout_escape_0 : decode prog_1_method_16_code 0 = .ok (.aload_n 0, 1) := by decide +kernel
theorem d_CaseLayout_escape_1 : decode prog_1_method_16_code 1 = .ok (.iload_n 1, 1) := by decide +kernel
theorem d_CaseLayout_escape_2 : decode prog_1_method_16_code 2 = .ok (.iload_n 2, 1) := by decide +kernel
theorem d_CaseLayout_escape_3 : decode prog_1_method_16_code 3 = .ok (.invokevirtual 61, 3) := by decide +kernel
theorem d_CaseLayout_escape_6 : decode prog_1_method_16_code 6 = .ok (.aload_n 0, 1) := by decide +kernel
theorem d_CaseLayout_escape_7 : decode prog_1_method_16_code 7 = .ok (.invokevirtual 172, 3) := by decide +kernel
theorem d_CaseLayout_escape_10 : decode prog_1_method_16_code 10 = .ok (.aload_n 0, 1) := by decide +kernel
theorem d_CaseLayout_escape_11 : decode prog_1_method_16_code 11 = .ok (.getfield 48, 3) := by decide +kernel
theorem d_CaseLayout_escape_14 : decode prog_1_method_16_code 14 = .ok (.aload_n 0, 1) := by decide +kernel
theorem d_CaseLayout_escape_15 : decode prog_1_method_16_code 15 = .ok (.getfield 57, 3) := by decide +kernel
theorem d_CaseLayout_escape_18 : decode prog_1_method_16_code 18 = .ok (.getfield 175, 3) := by decide +kernel
theorem d_CaseLayout_escape_21 : decode prog_1_method_16_code 21 = .ok (.invokevirtual 190, 3) := by decide +kernel
theorem d_CaseLayout_escape_24 : decode prog_1_method_16_code 24 = .ok (.aload_n 0, 1) := by decide +kernel
theorem d_CaseLayout_escape_25 : decode prog_1_method_16_code 25 = .ok (.getfield 48, 3) := by decide +kernel
theorem d_CaseLayout_escape_28 : decode prog_1_method_16_code 28 = .ok (.aload_n 0, 1) := by decide +kernel
theorem d_CaseLayout_escape_29 : decode prog_1_method_16_code 29 = .ok (.getfield 39, 3) := by decide +kernel
theorem d_CaseLayout_escape_32 : decode prog_1_method_16_code 32 = .ok (.invokevirtual 200, 3) := by decide +kernel
theorem d_CaseLayout_escape_35 : decode prog_1_method_16_code 35 = .ok (.aload_n 0, 1) := by decide +kernel
theorem d_CaseLayout_escape_36 : decode prog_1_method_16_code 36 = .ok (.getfield 48, 3) := by decide +kernel
theorem d_CaseLayout_escape_39 : decode prog_1_method_16_code 39 = .ok (.getfield 204, 3) := by decide +kernel
theorem d_CaseLayout_escape_42 : decode prog_1_method_16_code 42 = .ok (.iload_n 1, 1) := by decide +kernel
theorem d_CaseLayout_escape_43 : decode prog_1_method_16_code 43 = .ok (.iload_n 2, 1) := by decide +kernel
theorem d_CaseLayout_escape_44 : decode prog_1_method_16_code 44 = .ok (.invokestatic 64, 3) := by decide +kernel
theorem d_CaseLayout_escape_47 : decode prog_1_method_16_code 47 = .ok (.iaload, 1) := by decide +kernel
theorem d_CaseLayout_escape_48 : decode prog_1_method_16_code 48 = .ok (.ireturn, 1) := by decide +kernel
theorem d_CaseLayout_exit_0 : decode prog_1_method_9_code 0 = .ok (.aload_n 0, 1) := by decide +kernel
theorem d_CaseLayout_exit_1 : decode prog_1_method_9_code 1 = .ok (.iload_n 1, 1) := by decide +kernel
theorem d_CaseLayout_exit_2 : decode prog_1_method_9_code 2 = .ok (.iload_n 2, 1) := by decide +kernel
theorem d_CaseLayout_exit_3 : decode prog_1_method_9_code 3 = .ok (.invokevirtual 61, 3) := by decide +kernel
theorem d_CaseLayout_exit_6 : decode prog_1_method_9_code 6 = .ok (.aload_n 0, 1) := by decide +kernel
theorem d_CaseLayout_exit_7 : decode prog_1_method_9_code 7 = .ok (.getfield 39, 3) := by decide +kernel
theorem d_CaseLayout_exit_10 : decode prog_1_method_9_code 10 = .ok (.getfield 142, 3) := by decide +kernel
theorem d_CaseLayout_exit_13 : decode prog_1_method_9_code 13 = .ok (.bipush 6, 2) := by decide +kernel
theorem d_CaseLayout_exit_15 : decode prog_1_method_9_code 15 = .ok (.if_icmp .lt 13, 3) := by decide +kernel
theorem d_CaseLayout_exit_18 : decode prog_1_method_9_code 18 = .ok (.new 96, 3) := by decide +kernel
theorem d_CaseLayout_exit_21 : decode prog_1_method_9_code 21 = .ok (.dup, 1) := by decide +kernel
theorem d_CaseLayout_exit_22 : decode prog_1_method_9_code 22 = .ok (.ldc 143, 2) := by decide +kernel
theorem d_CaseLayout_exit_24 : decode prog_1_method_9_code 24 = .ok (.invokespecial 100, 3) := by decide +kernel
theorem d_CaseLayout_exit_27 : decode prog_1_method_9_code 27 = .ok (.athrow, 1) := by decide +kernel
theorem d_CaseLayout_exit_28 : decode prog_1_method_9_code 28 = .ok (.iload_n 1, 1) := by decide +kernel
theorem d_CaseLayout_exit_29 : decode prog_1_method_9_code 29 = .ok (.iload_n 2, 1) := by decide +kernel
theorem d_CaseLayout_exit_30 : decode prog_1_method_9_code 30 = .ok (.invokestatic 64, 3) := by decide +kernel
theorem d_CaseLayout_exit_33 : decode prog_1_method_9_code 33 = .ok (.istore_n 3, 1) := by decide +kernel
theorem d_CaseLayout_exit_34 : decode prog_1_method_9_code 34 = .ok (.aload_n 0, 1) := by decide +kernel
theorem d_CaseLayout_exit_35 : decode prog_1_method_9_code 35 = .ok (.getfield 18, 3) := by decide +kernel
theorem d_CaseLayout_exit_38 : decode prog_1_method_9_code 38 = .ok (.getfield 68, 3) := by decide +kernel
theorem d_CaseLayout_exit_41 : decode prog_1_method_9_code 41 = .ok (.iload_n 3, 1) := by decide +kernel
theorem d_CaseLayout_exit_42 : decode prog_1_method_9_code 42 = .ok (.baload, 1) := by decide +kernel
theorem d_CaseLayout_exit_43 : decode prog_1_method_9_code 43 = .ok (.ifCond .ne 14, 3) := by decide +kernel
theorem d_CaseLayout_exit_46 : decode prog_1_method_9_code 46 = .ok (.aload_n 0, 1) := by decide +kernel
theorem d_CaseLayout_exit_47 : decode prog_1_method_9_code 47 = .ok (.getfield 39, 3) := by decide +kernel
theorem d_CaseLayout_exit_50 : decode prog_1_method_9_code 50 = .ok (.iload_n 3, 1) := by decide +kernel
theorem d_CaseLayout_exit_51 : decode prog_1_method_9_code 51 = .ok (.invokevirtual 76, 3) := by decide +kernel
theorem d_CaseLayout_exit_54 : decode prog_1_method_9_code 54 = .ok (.ifCond .eq 13, 3) := by decide +kernel
theorem d_CaseLayout_exit_57 : decode prog_1_method_9_code 57 = .ok (.new 122, 3) := by decide +kernel
theorem d_CaseLayout_exit_60 : decode prog_1_method_9_code 60 = .ok (.dup, 1) := by decide +kernel
theorem d_CaseLayout_exit_61 : decode prog_1_method_9_code 61 = .ok (.ldc 145, 2) := by decide +kernel
theorem d_CaseLayout_exit_63 : decode prog_1_method_9_code 63 = .ok (.invokespecial 126, 3) := by decide +kernel
theorem d_CaseLayout_exit_66 : decode prog_1_method_9_code 66 = .ok (.athrow, 1) := by decide +kernel
theorem d_CaseLayout_exit_67 : decode prog_1_method_9_code 67 = .ok (.aload_n 0, 1) := by decide +kernel
theorem d_CaseLayout_exit_68 : decode prog_1_method_9_code 68 = .ok (.getfield 57, 3) := by decide +kernel
theorem d_CaseLayout_exit_71 : decode prog_1_method_9_code 71 = .ok (.invokevirtual 81, 3) := by decide +kernel
theorem d_CaseLayout_exit_74 : decode prog_1_method_9_code 74 = .ok (.aload_n 0, 1) := by decide +kernel
theorem d_CaseLayout_exit_75 : decode prog_1_method_9_code 75 = .ok (.getfield 39, 3) := by decide +kernel
theorem d_CaseLayout_exit_78 : decode prog_1_method_9_code 78 = .ok (.iload_n 3, 1) := by decide +kernel
theorem d_CaseLayout_exit_79 : decode prog_1_method_9_code 79 = .ok (.invokevirtual 147, 3) := by decide +kernel
theorem d_CaseLayout_exit_82 : decode prog_1_method_9_code 82 = .ok (.ireturn, 1) := by decide +kernel
theorem d_CaseLayout_most_0 : decode prog_1_method_10_code 0 = .ok (.iload_n 1, 1) := by decide +kernel
theorem d_CaseLayout_most_1 : decode prog_1_method_10_code 1 = .ok (.iconst 0, 1) := by decide +kernel
theorem d_CaseLayout_most_2 : decode prog_1_method_10_code 2 = .ok (.bipush 99, 2) := by decide +kernel
theorem d_CaseLayout_most_4 : decode prog_1_method_10_code 4 = .ok (.invokestatic 84, 3) := by decide +kernel
theorem d_CaseLayout_most_7 : decode prog_1_method_10_code 7 = .ok (.aload_n 0, 1) := by decide +kernel
theorem d_CaseLayout_most_8 : decode prog_1_method_10_code 8 = .ok (.getfield 39, 3) := by decide +kernel
theorem d_CaseLayout_most_11 : decode prog_1_method_10_code 11 = .ok (.getfield 150, 3) := by decide +kernel
theorem d_CaseLayout_most_14 : decode prog_1_method_10_code 14 = .ok (.istore_n 2, 1) := by decide +kernel
theorem d_CaseLayout_most_15 : decode prog_1_method_10_code 15 = .ok (.aload_n 0, 1) := by decide +kernel
theorem d_CaseLayout_most_16 : decode prog_1_method_10_code 16 = .ok (.getfield 39, 3) := by decide +kernel
theorem d_CaseLayout_most_19 : decode prog_1_method_10_code 19 = .ok (.iload_n 1, 1) := by decide +kernel
theorem d_CaseLayout_most_20 : decode prog_1_method_10_code 20 = .ok (.putfield 150, 3) := by decide +kernel
theorem d_CaseLayout_most_23 : decode prog_1_method_10_code 23 = .ok (.aload_n 0, 1) := by decide +kernel
theorem d_CaseLayout_most_24 : decode prog_1_method_10_code 24 = .ok (.getfield 57, 3) := by decide +kernel
theorem d_CaseLayout_most_27 : decode prog_1_method_10_code 27 = .ok (.invokevirtual 81, 3) := by decide +kernel
theorem d_CaseLayout_most_30 : decode prog_1_method_10_code 30 = .ok (.iload_n 2, 1) := by decide +kernel
theorem d_CaseLayout_most_31 : decode prog_1_method_10_code 31 = .ok (.ireturn, 1) := by decide +kernel
theorem d_CaseLayout_needCell_0 : decode prog_1_method_18_code 0 = .ok (.aload_n 0, 1) := by decide +kernel
theorem d_CaseLayout_needCell_1 : decode prog_1_method_18_code 1 = .ok (.getfield 18, 3) := by decide +kernel
theorem d_CaseLayout_needCell_4 : decode prog_1_method_18_code 4 = .ok (.iload_n 1, 1) := by decide +kernel
theorem d_CaseLayout_needCell_5 : decode prog_1_method_18_code 5 = .ok (.iload_n 2, 1) := by decide +kernel
theorem d_CaseLayout_needCell_6 : decode prog_1_method_18_code 6 = .ok (.invokevirtual 212, 3) := by decide +kernel
theorem d_CaseLayout_needCell_9 : decode prog_1_method_18_code 9 = .ok (.ifCond .ne 13, 3) := by decide +kernel
theorem d_CaseLayout_needCell_12 : decode prog_1_method_18_code 12 = .ok (.new 167, 3) := by decide +kernel
theorem d_CaseLayout_needCell_15 : decode prog_1_method_18_code 15 = .ok (.dup, 1) := by decide +kernel
theorem d_CaseLayout_needCell_16 : decode prog_1_method_18_code 16 = .ok (.ldc 215, 2) := by decide +kernel
theorem d_CaseLayout_needCell_18 : decode prog_1_method_18_code 18 = .ok (.invokespecial 171, 3) := by decide +kernel
theorem d_CaseLayout_needCell_21 : decode prog_1_method_18_code 21 = .ok (.athrow, 1) := by decide +kernel
theorem d_CaseLayout_needCell_22 : decode prog_1_method_18_code 22 = .ok (.return_, 1) := by decide +kernel
theorem d_CaseLayout_needFound_0 : decode prog_1_method_22_code 0 = .ok (.aload_n 0, 1) := by decide +kernel
theorem d_CaseLayout_needFound_1 : decode prog_1_method_22_code 1 = .ok (.getfield 57, 3) := by decide +kernel
theorem d_CaseLayout_needFound_4 : decode prog_1_method_22_code 4 = .ok (.invokevirtual 160, 3) := by decide +kernel
theorem d_CaseLayout_needFound_7 : decode prog_1_method_22_code 7 = .ok (.ifCond .ne 13, 3) := by decide +kernel
theorem d_CaseLayout_needFound_10 : decode prog_1_method_22_code 10 = .ok (.new 96, 3) := by decide +kernel
theorem d_CaseLayout_needFound_13 : decode prog_1_method_22_code 13 = .ok (.dup, 1) := by decide +kernel
theorem d_CaseLayout_needFound_14 : decode prog_1_method_22_code 14 = .ok (.ldc 223, 2) := by decide +kernel
theorem d_CaseLayout_needFound_16 : decode prog_1_method_22_code 16 = .ok (.invokespecial 100, 3) := by decide +kernel
theorem d_CaseLayout_needFound_19 : decode prog_1_method_22_code 19 = .ok (.athrow, 1) := by decide +kernel
theorem d_CaseLayout_needFound_20 : decode prog_1_method_22_code 20 = .ok (.return_, 1) := by decide +kernel
theorem d_CaseLayout_needPair_0 : decode prog_1_method_21_code 0 = .ok (.aload_n 0, 1) := by decide +kernel
theorem d_CaseLayout_needPair_1 : decode prog_1_method_21_code 1 = .ok (.iload_n 1, 1) := by decide +kernel
theorem d_CaseLayout_needPair_2 : decode prog_1_method_21_code 2 = .ok (.invokevirtual 133, 3) := by decide +kernel
theorem d_CaseLayout_needPair_5 : decode prog_1_method_21_code 5 = .ok (.aload_n 0, 1) := by decide +kernel
theorem d_CaseLayout_needPair_6 : decode prog_1_method_21_code 6 = .ok (.iload_n 2, 1) := by decide +kernel
theorem d_CaseLayout_needPair_7 : decode prog_1_method_21_code 7 = .ok (.invokevirtual 133, 3) := by decide +kernel
theorem d_CaseLayout_needPair_10 : decode prog_1_method_21_code 10 = .ok (.iload_n 1, 1) := by decide +kernel
theorem d_CaseLayout_needPair_11 : decode prog_1_method_21_code 11 = .ok (.iload_n 2, 1) := by decide +kernel
theorem d_CaseLayout_needPair_12 : decode prog_1_method_21_code 12 = .ok (.if_icmp .ne 13, 3) := by decide +kernel
theorem d_CaseLayout_needPair_15 : decode prog_1_method_21_code 15 = .ok (.new 122, 3) := by decide +kernel
theorem d_CaseLayout_needPair_18 : decode prog_1_method_21_code 18 = .ok (.dup, 1) := by decide +kernel
theorem d_CaseLayout_needPair_19 : decode prog_1_method_21_code 19 = .ok (.ldc 221, 2) := by decide +kernel
theorem d_CaseLayout_needPair_21 : decode prog_1_method_21_code 21 = .ok (.invokespecial 126, 3) := by decide +kernel
theorem d_CaseLayout_needPair_24 : decode prog_1_method_21_code 24 = .ok (.athrow, 1) := by decide +kernel
theorem d_CaseLayout_needPair_25 : decode prog_1_method_21_code 25 = .ok (.return_, 1) := by decide +kernel
theorem d_CaseLayout_needPlace_0 : decode prog_1_method_20_code 0 = .ok (.iload_n 1, 1) := by decide +kernel
theorem d_CaseLayout_needPlace_1 : decode prog_1_method_20_code 1 = .ok (.ifCond .lt 14, 3) := by decide +kernel
theorem d_CaseLayout_needPlace_4 : decode prog_1_method_20_code 4 = .ok (.iload_n 1, 1) := by decide +kernel
theorem d_CaseLayout_needPlace_5 : decode prog_1_method_20_code 5 = .ok (.aload_n 0, 1) := by decide +kernel
theorem d_CaseLayout_needPlace_6 : decode prog_1_method_20_code 6 = .ok (.getfield 32, 3) := by decide +kernel
theorem d_CaseLayout_needPlace_9 : decode prog_1_method_20_code 9 = .ok (.getfield 119, 3) := by decide +kernel
theorem d_CaseLayout_needPlace_12 : decode prog_1_method_20_code 12 = .ok (.if_icmp .lt 13, 3) := by decide +kernel
theorem d_CaseLayout_needPlace_15 : decode prog_1_method_20_code 15 = .ok (.new 167, 3) := by decide +kernel
theorem d_CaseLayout_needPlace_18 : decode prog_1_method_20_code 18 = .ok (.dup, 1) := by decide +kernel
theorem d_CaseLayout_needPlace_19 : decode prog_1_method_20_code 19 = .ok (.ldc 219, 2) := by decide +kernel
theorem d_CaseLayout_needPlace_21 : decode prog_1_method_20_code 21 = .ok (.invokespecial 171, 3) := by decide +kernel
theorem d_CaseLayout_needPlace_24 : decode prog_1_method_20_code 24 = .ok (.athrow, 1) := by decide +kernel
theorem d_CaseLayout_needPlace_25 : decode prog_1_method_20_code 25 = .ok (.return_, 1) := by decide +kernel
theorem d_CaseLayout_needThing_0 : decode prog_1_method_19_code 0 = .ok (.iload_n 1, 1) := by decide +kernel
theorem d_CaseLayout_needThing_1 : decode prog_1_method_19_code 1 = .ok (.ifCond .lt 14, 3) := by decide +kernel
theorem d_CaseLayout_needThing_4 : decode prog_1_method_19_code 4 = .ok (.iload_n 1, 1) := by decide +kernel
theorem d_CaseLayout_needThing_5 : decode prog_1_method_19_code 5 = .ok (.aload_n 0, 1) := by decide +kernel
theorem d_CaseLayout_needThing_6 : decode prog_1_method_19_code 6 = .ok (.getfield 25, 3) := by decide +kernel
theorem d_CaseLayout_needThing_9 : decode prog_1_method_19_code 9 = .ok (.getfield 92, 3) := by decide +kernel
theorem d_CaseLayout_needThing_12 : decode prog_1_method_19_code 12 = .ok (.if_icmp .lt 13, 3) := by decide +kernel
theorem d_CaseLayout_needThing_15 : decode prog_1_method_19_code 15 = .ok (.new 167, 3) := by decide +kernel
theorem d_CaseLayout_needThing_18 : decode prog_1_method_19_code 18 = .ok (.dup, 1) := by decide +kernel
theorem d_CaseLayout_needThing_19 : decode prog_1_method_19_code 19 = .ok (.ldc 217, 2) := by decide +kernel
theorem d_CaseLayout_needThing_21 : decode prog_1_method_19_code 21 = .ok (.invokespecial 171, 3) := by decide +kernel
theorem d_CaseLayout_needThing_24 : decode prog_1_method_19_code 24 = .ok (.athrow, 1) := by decide +kernel
theorem d_CaseLayout_needThing_25 : decode prog_1_method_19_code 25 = .ok (.return_, 1) := by decide +kernel
theorem d_CaseLayout_needWithin_0 : decode prog_1_method_23_code 0 = .ok (.iload_n 0, 1) := by decide +kernel
theorem d_CaseLayout_needWithin_1 : decode prog_1_method_23_code 1 = .ok (.iload_n 1, 1) := by decide +kernel
theorem d_CaseLayout_needWithin_2 : decode prog_1_method_23_code 2 = .ok (.if_icmp .lt 8, 3) := by decide +kernel
theorem d_CaseLayout_needWithin_5 : decode prog_1_method_23_code 5 = .ok (.iload_n 0, 1) := by decide +kernel
theorem d_CaseLayout_needWithin_6 : decode prog_1_method_23_code 6 = .ok (.iload_n 2, 1) := by decide +kernel
theorem d_CaseLayout_needWithin_7 : decode prog_1_method_23_code 7 = .ok (.if_icmp .le 13, 3) := by decide +kernel
theorem d_CaseLayout_needWithin_10 : decode prog_1_method_23_code 10 = .ok (.new 122, 3) := by decide +kernel
theorem d_CaseLayout_needWithin_13 : decode prog_1_method_23_code 13 = .ok (.dup, 1) := by decide +kernel
theorem d_CaseLayout_needWithin_14 : decode prog_1_method_23_code 14 = .ok (.ldc 225, 2) := by decide +kernel
theorem d_CaseLayout_needWithin_16 : decode prog_1_method_23_code 16 = .ok (.invokespecial 126, 3) := by decide +kernel
theorem d_CaseLayout_needWithin_19 : decode prog_1_method_23_code 19 = .ok (.athrow, 1) := by decide +kernel
theorem d_CaseLayout_needWithin_20 : decode prog_1_method_23_code 20 = .ok (.return_, 1) := by decide +kernel
theorem d_CaseLayout_nodes_0 : decode prog_1_method_12_code 0 = .ok (.aload_n 0, 1) := by decide +kernel
theorem d_CaseLayout_nodes_1 : decode prog_1_method_12_code 1 = .ok (.getfield 57, 3) := by decide +kernel
theorem d_CaseLayout_nodes_4 : decode prog_1_method_12_code 4 = .ok (.getfield 164, 3) := by decide +kernel
theorem d_CaseLayout_nodes_7 : decode prog_1_method_12_code 7 = .ok (.ireturn, 1) := by decide +kernel
theorem d_CaseLayout_pairOf_0 : decode prog_1_method_26_code 0 = .ok (.iload_n 0, 1) := by decide +kernel
theorem d_CaseLayout_pairOf_1 : decode prog_1_method_26_code 1 = .ok (.bipush 7, 2) := by decide +kernel
theorem d_CaseLayout_pairOf_3 : decode prog_1_method_26_code 3 = .ok (.imul, 1) := by decide +kernel
theorem d_CaseLayout_pairOf_4 : decode prog_1_method_26_code 4 = .ok (.iload_n 1, 1) := by decide +kernel
theorem d_CaseLayout_pairOf_5 : decode prog_1_method_26_code 5 = .ok (.iadd, 1) := by decide +kernel
theorem d_CaseLayout_pairOf_6 : decode prog_1_method_26_code 6 = .ok (.ireturn, 1) := by decide +kernel
theorem d_CaseLayout_place_0 : decode prog_1_method_7_code 0 = .ok (.aload_n 0, 1) := by decide +kernel
theorem d_CaseLayout_place_1 : decode prog_1_method_7_code 1 = .ok (.iload_n 1, 1) := by decide +kernel
theorem d_CaseLayout_place_2 : decode prog_1_method_7_code 2 = .ok (.iload_n 2, 1) := by decide +kernel
theorem d_CaseLayout_place_3 : decode prog_1_method_7_code 3 = .ok (.invokevirtual 61, 3) := by decide +kernel
theorem d_CaseLayout_place_6 : decode prog_1_method_7_code 6 = .ok (.aload_n 0, 1) := by decide +kernel
theorem d_CaseLayout_place_7 : decode prog_1_method_7_code 7 = .ok (.getfield 32, 3) := by decide +kernel
theorem d_CaseLayout_place_10 : decode prog_1_method_7_code 10 = .ok (.getfield 119, 3) := by decide +kernel
theorem d_CaseLayout_place_13 : decode prog_1_method_7_code 13 = .ok (.bipush 8, 2) := by decide +kernel
theorem d_CaseLayout_place_15 : decode prog_1_method_7_code 15 = .ok (.if_icmp .lt 13, 3) := by decide +kernel
theorem d_CaseLayout_place_18 : decode prog_1_method_7_code 18 = .ok (.new 96, 3) := by decide +kernel
theorem d_CaseLayout_place_21 : decode prog_1_method_7_code 21 = .ok (.dup, 1) := by decide +kernel
theorem d_CaseLayout_place_22 : decode prog_1_method_7_code 22 = .ok (.ldc 120, 2) := by decide +kernel
theorem d_CaseLayout_place_24 : decode prog_1_method_7_code 24 = .ok (.invokespecial 100, 3) := by decide +kernel
theorem d_CaseLayout_place_27 : decode prog_1_method_7_code 27 = .ok (.athrow, 1) := by decide +kernel
theorem d_CaseLayout_place_28 : decode prog_1_method_7_code 28 = .ok (.aload_n 0, 1) := by decide +kernel
theorem d_CaseLayout_place_29 : decode prog_1_method_7_code 29 = .ok (.getfield 18, 3) := by decide +kernel
theorem d_CaseLayout_place_32 : decode prog_1_method_7_code 32 = .ok (.getfield 68, 3) := by decide +kernel
theorem d_CaseLayout_place_35 : decode prog_1_method_7_code 35 = .ok (.iload_n 1, 1) := by decide +kernel
theorem d_CaseLayout_place_36 : decode prog_1_method_7_code 36 = .ok (.iload_n 2, 1) := by decide +kernel
theorem d_CaseLayout_place_37 : decode prog_1_method_7_code 37 = .ok (.invokestatic 64, 3) := by decide +kernel
theorem d_CaseLayout_place_40 : decode prog_1_method_7_code 40 = .ok (.baload, 1) := by decide +kernel
theorem d_CaseLayout_place_41 : decode prog_1_method_7_code 41 = .ok (.ifCond .eq 13, 3) := by decide +kernel
theorem d_CaseLayout_place_44 : decode prog_1_method_7_code 44 = .ok (.new 122, 3) := by decide +kernel
theorem d_CaseLayout_place_47 : decode prog_1_method_7_code 47 = .ok (.dup, 1) := by decide +kernel
theorem d_CaseLayout_place_48 : decode prog_1_method_7_code 48 = .ok (.ldc 124, 2) := by decide +kernel
theorem d_CaseLayout_place_50 : decode prog_1_method_7_code 50 = .ok (.invokespecial 126, 3) := by decide +kernel
theorem d_CaseLayout_place_53 : decode prog_1_method_7_code 53 = .ok (.athrow, 1) := by decide +kernel
theorem d_CaseLayout_place_54 : decode prog_1_method_7_code 54 = .ok (.aload_n 0, 1) := by decide +kernel
theorem d_CaseLayout_place_55 : decode prog_1_method_7_code 55 = .ok (.getfield 32, 3) := by decide +kernel
theorem d_CaseLayout_place_58 : decode prog_1_method_7_code 58 = .ok (.iload_n 1, 1) := by decide +kernel
theorem d_CaseLayout_place_59 : decode prog_1_method_7_code 59 = .ok (.iload_n 2, 1) := by decide +kernel
theorem d_CaseLayout_place_60 : decode prog_1_method_7_code 60 = .ok (.invokevirtual 127, 3) := by decide +kernel
theorem d_CaseLayout_place_63 : decode prog_1_method_7_code 63 = .ok (.ireturn, 1) := by decide +kernel
theorem d_CaseLayout_run_0 : decode prog_1_method_11_code 0 = .ok (.iload_n 1, 1) := by decide +kernel
theorem d_CaseLayout_run_1 : decode prog_1_method_11_code 1 = .ok (.iconst 0, 1) := by decide +kernel
theorem d_CaseLayout_run_2 : decode prog_1_method_11_code 2 = .ok (.sipush 20000, 3) := by decide +kernel
theorem d_CaseLayout_run_5 : decode prog_1_method_11_code 5 = .ok (.invokestatic 84, 3) := by decide +kernel
theorem d_CaseLayout_run_8 : decode prog_1_method_11_code 8 = .ok (.aload_n 0, 1) := by decide +kernel
theorem d_CaseLayout_run_9 : decode prog_1_method_11_code 9 = .ok (.getfield 57, 3) := by decide +kernel
theorem d_CaseLayout_run_12 : decode prog_1_method_11_code 12 = .ok (.iload_n 1, 1) := by decide +kernel
theorem d_CaseLayout_run_13 : decode prog_1_method_11_code 13 = .ok (.invokevirtual 153, 3) := by decide +kernel
theorem d_CaseLayout_run_16 : decode prog_1_method_11_code 16 = .ok (.aload_n 0, 1) := by decide +kernel
theorem d_CaseLayout_run_17 : decode prog_1_method_11_code 17 = .ok (.getfield 57, 3) := by decide +kernel
theorem d_CaseLayout_run_20 : decode prog_1_method_11_code 20 = .ok (.iconst 0, 1) := by decide +kernel
theorem d_CaseLayout_run_21 : decode prog_1_method_11_code 21 = .ok (.iconst 0, 1) := by decide +kernel
theorem d_CaseLayout_run_22 : decode prog_1_method_11_code 22 = .ok (.invokevirtual 156, 3) := by decide +kernel
theorem d_CaseLayout_run_25 : decode prog_1_method_11_code 25 = .ok (.ifCond .ne 5, 3) := by decide +kernel
theorem d_CaseLayout_run_28 : decode prog_1_method_11_code 28 = .ok (.iconst 1, 1) := by decide +kernel
theorem d_CaseLayout_run_29 : decode prog_1_method_11_code 29 = .ok (.ireturn, 1) := by decide +kernel
theorem d_CaseLayout_run_30 : decode prog_1_method_11_code 30 = .ok (.aload_n 0, 1) := by decide +kernel
theorem d_CaseLayout_run_31 : decode prog_1_method_11_code 31 = .ok (.getfield 57, 3) := by decide +kernel
theorem d_CaseLayout_run_34 : decode prog_1_method_11_code 34 = .ok (.invokevirtual 160, 3) := by decide +kernel
theorem d_CaseLayout_run_37 : decode prog_1_method_11_code 37 = .ok (.ifCond .eq 7, 3) := by decide +kernel
theorem d_CaseLayout_run_40 : decode prog_1_method_11_code 40 = .ok (.iconst 0, 1) := by decide +kernel
theorem d_CaseLayout_run_41 : decode prog_1_method_11_code 41 = .ok (.goto 4, 3) := by decide +kernel
theorem d_CaseLayout_run_44 : decode prog_1_method_11_code 44 = .ok (.iconst 2, 1) := by decide +kernel
theorem d_CaseLayout_run_45 : decode prog_1_method_11_code 45 = .ok (.ireturn, 1) := by decide +kernel
theorem d_CaseLayout_sees_0 : decode prog_1_method_8_code 0 = .ok (.aload_n 0, 1) := by decide +kernel
theorem d_CaseLayout_sees_1 : decode prog_1_method_8_code 1 = .ok (.iload_n 1, 1) := by decide +kernel
theorem d_CaseLayout_sees_2 : decode prog_1_method_8_code 2 = .ok (.invokevirtual 129, 3) := by decide +kernel
theorem d_CaseLayout_sees_5 : decode prog_1_method_8_code 5 = .ok (.aload_n 0, 1) := by decide +kernel
theorem d_CaseLayout_sees_6 : decode prog_1_method_8_code 6 = .ok (.iload_n 2, 1) := by decide +kernel
theorem d_CaseLayout_sees_7 : decode prog_1_method_8_code 7 = .ok (.invokevirtual 133, 3) := by decide +kernel
theorem d_CaseLayout_sees_10 : decode prog_1_method_8_code 10 = .ok (.iload_n 1, 1) := by decide +kernel
theorem d_CaseLayout_sees_11 : decode prog_1_method_8_code 11 = .ok (.iload_n 2, 1) := by decide +kernel
theorem d_CaseLayout_sees_12 : decode prog_1_method_8_code 12 = .ok (.invokestatic 136, 3) := by decide +kernel
theorem d_CaseLayout_sees_15 : decode prog_1_method_8_code 15 = .ok (.istore 4, 2) := by decide +kernel
theorem d_CaseLayout_sees_17 : decode prog_1_method_8_code 17 = .ok (.aload_n 0, 1) := by decide +kernel
theorem d_CaseLayout_sees_18 : decode prog_1_method_8_code 18 = .ok (.getfield 32, 3) := by decide +kernel
theorem d_CaseLayout_sees_21 : decode prog_1_method_8_code 21 = .ok (.getfield 139, 3) := by decide +kernel
theorem d_CaseLayout_sees_24 : decode prog_1_method_8_code 24 = .ok (.iload 4, 2) := by decide +kernel
theorem d_CaseLayout_sees_26 : decode prog_1_method_8_code 26 = .ok (.baload, 1) := by decide +kernel
theorem d_CaseLayout_sees_27 : decode prog_1_method_8_code 27 = .ok (.iload_n 3, 1) := by decide +kernel
theorem d_CaseLayout_sees_28 : decode prog_1_method_8_code 28 = .ok (.if_icmp .eq 7, 3) := by decide +kernel
theorem d_CaseLayout_sees_31 : decode prog_1_method_8_code 31 = .ok (.iconst 1, 1) := by decide +kernel
theorem d_CaseLayout_sees_32 : decode prog_1_method_8_code 32 = .ok (.goto 4, 3) := by decide +kernel
theorem d_CaseLayout_sees_35 : decode prog_1_method_8_code 35 = .ok (.iconst 0, 1) := by decide +kernel
theorem d_CaseLayout_sees_36 : decode prog_1_method_8_code 36 = .ok (.istore 5, 2) := by decide +kernel
theorem d_CaseLayout_sees_38 : decode prog_1_method_8_code 38 = .ok (.aload_n 0, 1) := by decide +kernel
theorem d_CaseLayout_sees_39 : decode prog_1_method_8_code 39 = .ok (.getfield 32, 3) := by decide +kernel
theorem d_CaseLayout_sees_42 : decode prog_1_method_8_code 42 = .ok (.getfield 139, 3) := by decide +kernel
theorem d_CaseLayout_sees_45 : decode prog_1_method_8_code 45 = .ok (.iload 4, 2) := by decide +kernel
theorem d_CaseLayout_sees_47 : decode prog_1_method_8_code 47 = .ok (.iload_n 3, 1) := by decide +kernel
theorem d_CaseLayout_sees_48 : decode prog_1_method_8_code 48 = .ok (.bastore, 1) := by decide +kernel
theorem d_CaseLayout_sees_49 : decode prog_1_method_8_code 49 = .ok (.aload_n 0, 1) := by decide +kernel
theorem d_CaseLayout_sees_50 : decode prog_1_method_8_code 50 = .ok (.getfield 57, 3) := by decide +kernel
theorem d_CaseLayout_sees_53 : decode prog_1_method_8_code 53 = .ok (.invokevirtual 81, 3) := by decide +kernel
theorem d_CaseLayout_sees_56 : decode prog_1_method_8_code 56 = .ok (.iload 5, 2) := by decide +kernel
theorem d_CaseLayout_sees_58 : decode prog_1_method_8_code 58 = .ok (.ireturn, 1) := by decide +kernel
theorem d_CaseLayout_setBoth_0 : decode prog_1_method_28_code 0 = .ok (.aload_n 0, 1) := by decide +kernel
theorem d_CaseLayout_setBoth_1 : decode prog_1_method_28_code 1 = .ok (.iload_n 1, 1) := by decide +kernel
theorem d_CaseLayout_setBoth_2 : decode prog_1_method_28_code 2 = .ok (.iload_n 2, 1) := by decide +kernel
theorem d_CaseLayout_setBoth_3 : decode prog_1_method_28_code 3 = .ok (.invokestatic 235, 3) := by decide +kernel
theorem d_CaseLayout_setBoth_6 : decode prog_1_method_28_code 6 = .ok (.iaload, 1) := by decide +kernel
theorem d_CaseLayout_setBoth_7 : decode prog_1_method_28_code 7 = .ok (.istore 4, 2) := by decide +kernel
theorem d_CaseLayout_setBoth_9 : decode prog_1_method_28_code 9 = .ok (.aload_n 0, 1) := by decide +kernel
theorem d_CaseLayout_setBoth_10 : decode prog_1_method_28_code 10 = .ok (.iload_n 1, 1) := by decide +kernel
theorem d_CaseLayout_setBoth_11 : decode prog_1_method_28_code 11 = .ok (.iload_n 2, 1) := by decide +kernel
theorem d_CaseLayout_setBoth_12 : decode prog_1_method_28_code 12 = .ok (.invokestatic 235, 3) := by decide +kernel
