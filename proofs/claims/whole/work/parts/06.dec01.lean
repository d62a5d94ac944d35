theorem d_Grid_holds_0 : decode prog_4_method_2_code 0 = .ok (.iload_n 1, 1) := by decide +kernel
theorem d_Grid_holds_1 : decode prog_4_method_2_code 1 = .ok (.ifCond .lt 27, 3) := by decide +kernel
theorem d_Grid_holds_4 : decode prog_4_method_2_code 4 = .ok (.iload_n 1, 1) := by decide +kernel
theorem d_Grid_holds_5 : decode prog_4_method_2_code 5 = .ok (.aload_n 0, 1) := by decide +kernel
theorem d_Grid_holds_6 : decode prog_4_method_2_code 6 = .ok (.getfield 23, 3) := by decide +kernel
theorem d_Grid_holds_9 : decode prog_4_method_2_code 9 = .ok (.if_icmp .ge 19, 3) := by decide +kernel
theorem d_Grid_holds_12 : decode prog_4_method_2_code 12 = .ok (.iload_n 2, 1) := by decide +kernel
theorem d_Grid_holds_13 : decode prog_4_method_2_code 13 = .ok (.ifCond .lt 15, 3) := by decide +kernel
theorem d_Grid_holds_16 : decode prog_4_method_2_code 16 = .ok (.iload_n 2, 1) := by decide +kernel
theorem d_Grid_holds_17 : decode prog_4_method_2_code 17 = .ok (.aload_n 0, 1) := by decide +kernel
theorem d_Grid_holds_18 : decode prog_4_method_2_code 18 = .ok (.getfield 26, 3) := by decide +kernel
theorem d_Grid_holds_21 : decode prog_4_method_2_code 21 = .ok (.if_icmp .ge 7, 3) := by decide +kernel
theorem d_Grid_holds_24 : decode prog_4_method_2_code 24 = .ok (.iconst 1, 1) := by decide +kernel
theorem d_Grid_holds_25 : decode prog_4_method_2_code 25 = .ok (.goto 4, 3) := by decide +kernel
theorem d_Grid_holds_28 : decode prog_4_method_2_code 28 = .ok (.iconst 0, 1) := by decide +kernel
theorem d_Grid_holds_29 : decode prog_4_method_2_code 29 = .ok (.ireturn, 1) := by decide +kernel
theorem d_Grid_setWall_0 : decode prog_4_method_3_code 0 = .ok (.aload_n 0, 1) := by decide +kernel
theorem d_Grid_setWall_1 : decode prog_4_method_3_code 1 = .ok (.getfield 9, 3) := by decide +kernel
theorem d_Grid_setWall_4 : decode prog_4_method_3_code 4 = .ok (.iload_n 1, 1) := by decide +kernel
theorem d_Grid_setWall_5 : decode prog_4_method_3_code 5 = .ok (.iload_n 2, 1) := by decide +kernel
theorem d_Grid_setWall_6 : decode prog_4_method_3_code 6 = .ok (.bastore, 1) := by decide +kernel
theorem d_Grid_setWall_7 : decode prog_4_method_3_code 7 = .ok (.aload_n 0, 1) := by decide +kernel
theorem d_Grid_setWall_8 : decode prog_4_method_3_code 8 = .ok (.dup, 1) := by decide +kernel
theorem d_Grid_setWall_9 : decode prog_4_method_3_code 9 = .ok (.getfield 19, 3) := by decide +kernel
theorem d_Grid_setWall_12 : decode prog_4_method_3_code 12 = .ok (.iload_n 2, 1) := by decide +kernel
theorem d_Grid_setWall_13 : decode prog_4_method_3_code 13 = .ok (.ifCond .eq 7, 3) := by decide +kernel
theorem d_Grid_setWall_16 : decode prog_4_method_3_code 16 = .ok (.iconst 1, 1) := by decide +kernel
theorem d_Grid_setWall_17 : decode prog_4_method_3_code 17 = .ok (.goto 4, 3) := by decide +kernel
theorem d_Grid_setWall_20 : decode prog_4_method_3_code 20 = .ok (.iconst (-1), 1) := by decide +kernel
theorem d_Grid_setWall_21 : decode prog_4_method_3_code 21 = .ok (.iadd, 1) := by decide +kernel
theorem d_Grid_setWall_22 : decode prog_4_method_3_code 22 = .ok (.putfield 19, 3) := by decide +kernel
theorem d_Grid_setWall_25 : decode prog_4_method_3_code 25 = .ok (.return_, 1) := by decide +kernel
theorem d_Things_add_0 : decode prog_8_method_2_code 0 = .ok (.aload_n 0, 1) := by decide +kernel
theorem d_Things_add_1 : decode prog_8_method_2_code 1 = .ok (.getfield 27, 3) := by decide +kernel
theorem d_Things_add_4 : decode prog_8_method_2_code 4 = .ok (.istore 4, 2) := by decide +kernel
theorem d_Things_add_6 : decode prog_8_method_2_code 6 = .ok (.aload_n 0, 1) := by decide +kernel
theorem d_Things_add_7 : decode prog_8_method_2_code 7 = .ok (.getfield 9, 3) := by decide +kernel
theorem d_Things_add_10 : decode prog_8_method_2_code 10 = .ok (.iload 4, 2) := by decide +kernel
theorem d_Things_add_12 : decode prog_8_method_2_code 12 = .ok (.iload_n 1, 1) := by decide +kernel
theorem d_Things_add_13 : decode prog_8_method_2_code 13 = .ok (.iastore, 1) := by decide +kernel
theorem d_Things_add_14 : decode prog_8_method_2_code 14 = .ok (.aload_n 0, 1) := by decide +kernel
theorem d_Things_add_15 : decode prog_8_method_2_code 15 = .ok (.getfield 15, 3) := by decide +kernel
theorem d_Things_add_18 : decode prog_8_method_2_code 18 = .ok (.iload 4, 2) := by decide +kernel
theorem d_Things_add_20 : decode prog_8_method_2_code 20 = .ok (.iload_n 2, 1) := by decide +kernel
theorem d_Things_add_21 : decode prog_8_method_2_code 21 = .ok (.iastore, 1) := by decide +kernel
theorem d_Things_add_22 : decode prog_8_method_2_code 22 = .ok (.aload_n 0, 1) := by decide +kernel
theorem d_Things_add_23 : decode prog_8_method_2_code 23 = .ok (.getfield 18, 3) := by decide +kernel
theorem d_Things_add_26 : decode prog_8_method_2_code 26 = .ok (.iload 4, 2) := by decide +kernel
theorem d_Things_add_28 : decode prog_8_method_2_code 28 = .ok (.iload_n 3, 1) := by decide +kernel
theorem d_Things_add_29 : decode prog_8_method_2_code 29 = .ok (.iastore, 1) := by decide +kernel
theorem d_Things_add_30 : decode prog_8_method_2_code 30 = .ok (.aload_n 0, 1) := by decide +kernel
theorem d_Things_add_31 : decode prog_8_method_2_code 31 = .ok (.dup, 1) := by decide +kernel
theorem d_Things_add_32 : decode prog_8_method_2_code 32 = .ok (.getfield 27, 3) := by decide +kernel
theorem d_Things_add_35 : decode prog_8_method_2_code 35 = .ok (.iconst 1, 1) := by decide +kernel
theorem d_Things_add_36 : decode prog_8_method_2_code 36 = .ok (.iadd, 1) := by decide +kernel
theorem d_Things_add_37 : decode prog_8_method_2_code 37 = .ok (.putfield 27, 3) := by decide +kernel
theorem d_Things_add_40 : decode prog_8_method_2_code 40 = .ok (.iload 4, 2) := by decide +kernel
theorem d_Things_add_42 : decode prog_8_method_2_code 42 = .ok (.ireturn, 1) := by decide +kernel
theorem d_Places_standOn_0 : decode prog_6_method_3_code 0 = .ok (.iconst 0, 1) := by decide +kernel
theorem d_Places_standOn_1 : decode prog_6_method_3_code 1 = .ok (.istore_n 2, 1) := by decide +kernel
theorem d_Places_standOn_2 : decode prog_6_method_3_code 2 = .ok (.iload_n 2, 1) := by decide +kernel
theorem d_Places_standOn_3 : decode prog_6_method_3_code 3 = .ok (.aload_n 0, 1) := by decide +kernel
theorem d_Places_standOn_4 : decode prog_6_method_3_code 4 = .ok (.getfield 22, 3) := by decide +kernel
theorem d_Places_standOn_7 : decode prog_6_method_3_code 7 = .ok (.if_icmp .ge 30, 3) := by decide +kernel
theorem d_Places_standOn_10 : decode prog_6_method_3_code 10 = .ok (.aload_n 0, 1) := by decide +kernel
theorem d_Places_standOn_11 : decode prog_6_method_3_code 11 = .ok (.getfield 9, 3) := by decide +kernel
theorem d_Places_standOn_14 : decode prog_6_method_3_code 14 = .ok (.iload_n 2, 1) := by decide +kernel
theorem d_Places_standOn_15 : decode prog_6_method_3_code 15 = .ok (.iaload, 1) := by decide +kernel
theorem d_Places_standOn_16 : decode prog_6_method_3_code 16 = .ok (.aload_n 0, 1) := by decide +kernel
theorem d_Places_standOn_17 : decode prog_6_method_3_code 17 = .ok (.getfield 15, 3) := by decide +kernel
theorem d_Places_standOn_20 : decode prog_6_method_3_code 20 = .ok (.iload_n 2, 1) := by decide +kernel
theorem d_Places_standOn_21 : decode prog_6_method_3_code 21 = .ok (.iaload, 1) := by decide +kernel
theorem d_Places_standOn_22 : decode prog_6_method_3_code 22 = .ok (.invokestatic 26, 3) := by decide +kernel
theorem d_Places_standOn_25 : decode prog_6_method_3_code 25 = .ok (.iload_n 1, 1) := by decide +kernel
theorem d_Places_standOn_26 : decode prog_6_method_3_code 26 = .ok (.if_icmp .ne 5, 3) := by decide +kernel
theorem d_Places_standOn_29 : decode prog_6_method_3_code 29 = .ok (.iconst 1, 1) := by decide +kernel
theorem d_Places_standOn_30 : decode prog_6_method_3_code 30 = .ok (.ireturn, 1) := by decide +kernel
theorem d_Places_standOn_31 : decode prog_6_method_3_code 31 = .ok (.iinc 2 1, 3) := by decide +kernel
theorem d_Places_standOn_34 : decode prog_6_method_3_code 34 = .ok (.goto (-32), 3) := by decide +kernel
theorem d_Places_standOn_37 : decode prog_6_method_3_code 37 = .ok (.iconst 0, 1) := by decide +kernel
theorem d_Places_standOn_38 : decode prog_6_method_3_code 38 = .ok (.ireturn, 1) := by decide +kernel
theorem d_CaseLayout_cellOf_0 : decode prog_1_method_25_code 0 = .ok (.iload_n 1, 1) := by decide +kernel
theorem d_CaseLayout_cellOf_1 : decode prog_1_method_25_code 1 = .ok (.bipush 9, 2) := by decide +kernel
theorem d_CaseLayout_cellOf_3 : decode prog_1_method_25_code 3 = .ok (.imul, 1) := by decide +kernel
theorem d_CaseLayout_cellOf_4 : decode prog_1_method_25_code 4 = .ok (.iload_n 0, 1) := by decide +kernel
theorem d_CaseLayout_cellOf_5 : decode prog_1_method_25_code 5 = .ok (.iadd, 1) := by decide +kernel
theorem d_CaseLayout_cellOf_6 : decode prog_1_method_25_code 6 = .ok (.ireturn, 1) := by decide +kernel
theorem d_Places_add_0 : decode prog_6_method_2_code 0 = .ok (.aload_n 0, 1) := by decide +kernel
theorem d_Places_add_1 : decode prog_6_method_2_code 1 = .ok (.getfield 22, 3) := by decide +kernel
theorem d_Places_add_4 : decode prog_6_method_2_code 4 = .ok (.istore_n 3, 1) := by decide +kernel
theorem d_Places_add_5 : decode prog_6_method_2_code 5 = .ok (.aload_n 0, 1) := by decide +kernel
theorem d_Places_add_6 : decode prog_6_method_2_code 6 = .ok (.getfield 9, 3) := by decide +kernel
theorem d_Places_add_9 : decode prog_6_method_2_code 9 = .ok (.iload_n 3, 1) := by decide +kernel
theorem d_Places_add_10 : decode prog_6_method_2_code 10 = .ok (.iload_n 1, 1) := by decide +kernel
theorem d_Places_add_11 : decode prog_6_method_2_code 11 = .ok (.iastore, 1) := by decide +kernel
theorem d_Places_add_12 : decode prog_6_method_2_code 12 = .ok (.aload_n 0, 1) := by decide +kernel
theorem d_Places_add_13 : decode prog_6_method_2_code 13 = .ok (.getfield 15, 3) := by decide +kernel
theorem d_Places_add_16 : decode prog_6_method_2_code 16 = .ok (.iload_n 3, 1) := by decide +kernel
theorem d_Places_add_17 : decode prog_6_method_2_code 17 = .ok (.iload_n 2, 1) := by decide +kernel
theorem d_Places_add_18 : decode prog_6_method_2_code 18 = .ok (.iastore, 1) := by decide +kernel
theorem d_Places_add_19 : decode prog_6_method_2_code 19 = .ok (.aload_n 0, 1) := by decide +kernel
theorem d_Places_add_20 : decode prog_6_method_2_code 20 = .ok (.dup, 1) := by decide +kernel
theorem d_Places_add_21 : decode prog_6_method_2_code 21 = .ok (.getfield 22, 3) := by decide +kernel
theorem d_Places_add_24 : decode prog_6_method_2_code 24 = .ok (.iconst 1, 1) := by decide +kernel
theorem d_Places_add_25 : decode prog_6_method_2_code 25 = .ok (.iadd, 1) := by decide +kernel
theorem d_Places_add_26 : decode prog_6_method_2_code 26 = .ok (.putfield 22, 3) := by decide +kernel
theorem d_Places_add_29 : decode prog_6_method_2_code 29 = .ok (.iload_n 3, 1) := by decide +kernel
theorem d_Places_add_30 : decode prog_6_method_2_code 30 = .ok (.ireturn, 1) := by decide +kernel
theorem d_Exits_standOn_0 : decode prog_2_method_3_code 0 = .ok (.iconst 0, 1) := by decide +kernel
theorem d_Exits_standOn_1 : decode prog_2_method_3_code 1 = .ok (.istore_n 2, 1) := by decide +kernel
theorem d_Exits_standOn_2 : decode prog_2_method_3_code 2 = .ok (.iload_n 2, 1) := by decide +kernel
theorem d_Exits_standOn_3 : decode prog_2_method_3_code 3 = .ok (.aload_n 0, 1) := by decide +kernel
theorem d_Exits_standOn_4 : decode prog_2_method_3_code 4 = .ok (.getfield 15, 3) := by decide +kernel
theorem d_Exits_standOn_7 : decode prog_2_method_3_code 7 = .ok (.if_icmp .ge 21, 3) := by decide +kernel
theorem d_Exits_standOn_10 : decode prog_2_method_3_code 10 = .ok (.aload_n 0, 1) := by decide +kernel
theorem d_Exits_standOn_11 : decode prog_2_method_3_code 11 = .ok (.getfield 9, 3) := by decide +kernel
theorem d_Exits_standOn_14 : decode prog_2_method_3_code 14 = .ok (.iload_n 2, 1) := by decide +kernel
theorem d_Exits_standOn_15 : decode prog_2_method_3_code 15 = .ok (.iaload, 1) := by decide +kernel
theorem d_Exits_standOn_16 : decode prog_2_method_3_code 16 = .ok (.iload_n 1, 1) := by decide +kernel
theorem d_Exits_standOn_17 : decode prog_2_method_3_code 17 = .ok (.if_icmp .ne 5, 3) := by decide +kernel
theorem d_Exits_standOn_20 : decode prog_2_method_3_code 20 = .ok (.iconst 1, 1) := by decide +kernel
theorem d_Exits_standOn_21 : decode prog_2_method_3_code 21 = .ok (.ireturn, 1) := by decide +kernel
theorem d_Exits_standOn_22 : decode prog_2_method_3_code 22 = .ok (.iinc 2 1, 3) := by decide +kernel
theorem d_Exits_standOn_25 : decode prog_2_method_3_code 25 = .ok (.goto (-23), 3) := by decide +kernel
theorem d_Exits_standOn_28 : decode prog_2_method_3_code 28 = .ok (.iconst 0, 1) := by decide +kernel
theorem d_Exits_standOn_29 : decode prog_2_method_3_code 29 = .ok (.ireturn, 1) := by decide +kernel
theorem d_Exits_add_0 : decode prog_2_method_2_code 0 = .ok (.aload_n 0, 1) := by decide +kernel
theorem d_Exits_add_1 : decode prog_2_method_2_code 1 = .ok (.getfield 9, 3) := by decide +kernel
theorem d_Exits_add_4 : decode prog_2_method_2_code 4 = .ok (.aload_n 0, 1) := by decide +kernel
theorem d_Exits_add_5 : decode prog_2_method_2_code 5 = .ok (.getfield 15, 3) := by decide +kernel
theorem d_Exits_add_8 : decode prog_2_method_2_code 8 = .ok (.iload_n 1, 1) := by decide +kernel
theorem d_Exits_add_9 : decode prog_2_method_2_code 9 = .ok (.iastore, 1) := by decide +kernel
theorem d_Exits_add_10 : decode prog_2_method_2_code 10 = .ok (.aload_n 0, 1) := by decide +kernel
theorem d_Exits_add_11 : decode prog_2_method_2_code 11 = .ok (.dup, 1) := by decide +kernel
theorem d_Exits_add_12 : decode prog_2_method_2_code 12 = .ok (.getfield 15, 3) := by decide +kernel
theorem d_Exits_add_15 : decode prog_2_method_2_code 15 = .ok (.iconst 1, 1) := by decide +kernel
theorem d_Exits_add_16 : decode prog_2_method_2_code 16 = .ok (.iadd, 1) := by decide +kernel
theorem d_Exits_add_17 : decode prog_2_method_2_code 17 = .ok (.putfield 15, 3) := by decide +kernel
theorem d_Exits_add_20 : decode prog_2_method_2_code 20 = .ok (.aload_n 0, 1) := by decide +kernel
theorem d_Exits_add_21 : decode prog_2_method_2_code 21 = .ok (.getfield 15, 3) := by decide +kernel
theorem d_Exits_add_24 : decode prog_2_method_2_code 24 = .ok (.ireturn, 1) := by decide +kernel
theorem d_Grid_carries_0 : decode prog_4_method_4_code 0 = .ok (.aload_n 0, 1) := by decide +kernel
theorem d_Grid_carries_1 : decode prog_4_method_4_code 1 = .ok (.iload_n 1, 1) := by decide +kernel
theorem d_Grid_carries_2 : decode prog_4_method_4_code 2 = .ok (.iload_n 2, 1) := by decide +kernel
theorem d_Grid_carries_3 : decode prog_4_method_4_code 3 = .ok (.invokevirtual 29, 3) := by decide +kernel
theorem d_Grid_carries_6 : decode prog_4_method_4_code 6 = .ok (.ifCond .eq 24, 3) := by decide +kernel
theorem d_Grid_carries_9 : decode prog_4_method_4_code 9 = .ok (.iload_n 1, 1) := by decide +kernel
theorem d_Grid_carries_10 : decode prog_4_method_4_code 10 = .ok (.iload_n 3, 1) := by decide +kernel
theorem d_Grid_carries_11 : decode prog_4_method_4_code 11 = .ok (.iadd, 1) := by decide +kernel
theorem d_Grid_carries_12 : decode prog_4_method_4_code 12 = .ok (.aload_n 0, 1) := by decide +kernel
theorem d_Grid_carries_13 : decode prog_4_method_4_code 13 = .ok (.getfield 23, 3) := by decide +kernel
theorem d_Grid_carries_16 : decode prog_4_method_4_code 16 = .ok (.if_icmp .gt 14, 3) := by decide +kernel
theorem d_Grid_carries_19 : decode prog_4_method_4_code 19 = .ok (.iload_n 2, 1) := by decide +kernel
theorem d_Grid_carries_20 : decode prog_4_method_4_code 20 = .ok (.iload 4, 2) := by decide +kernel
theorem d_Grid_carries_22 : decode prog_4_method_4_code 22 = .ok (.iadd, 1) := by decide +kernel
theorem d_Grid_carries_23 : decode prog_4_method_4_code 23 = .ok (.aload_n 0, 1) := by decide +kernel
theorem d_Grid_carries_24 : decode prog_4_method_4_code 24 = .ok (.getfield 26, 3) := by decide +kernel
theorem d_Grid_carries_27 : decode prog_4_method_4_code 27 = .ok (.if_icmp .le 5, 3) := by decide +kernel
theorem d_Grid_carries_30 : decode prog_4_method_4_code 30 = .ok (.iconst 0, 1) := by decide +kernel
theorem d_Grid_carries_31 : decode prog_4_method_4_code 31 = .ok (.ireturn, 1) := by decide +kernel
theorem d_Grid_carries_32 : decode prog_4_method_4_code 32 = .ok (.iload_n 2, 1) := by decide +kernel
theorem d_Grid_carries_33 : decode prog_4_method_4_code 33 = .ok (.istore 6, 2) := by decide +kernel
theorem d_Grid_carries_35 : decode prog_4_method_4_code 35 = .ok (.iload 6, 2) := by decide +kernel
theorem d_Grid_carries_37 : decode prog_4_method_4_code 37 = .ok (.iload_n 2, 1) := by decide +kernel
theorem d_Grid_carries_38 : decode prog_4_method_4_code 38 = .ok (.iload 4, 2) := by decide +kernel
theorem d_Grid_carries_40 : decode prog_4_method_4_code 40 = .ok (.iadd, 1) := by decide +kernel
theorem d_Grid_carries_41 : decode prog_4_method_4_code 41 = .ok (.if_icmp .ge 64, 3) := by decide +kernel
theorem d_Grid_carries_44 : decode prog_4_method_4_code 44 = .ok (.iload_n 1, 1) := by decide +kernel
theorem d_Grid_carries_45 : decode prog_4_method_4_code 45 = .ok (.istore 7, 2) := by decide +kernel
theorem d_Grid_carries_47 : decode prog_4_method_4_code 47 = .ok (.iload 7, 2) := by decide +kernel
theorem d_Grid_carries_49 : decode prog_4_method_4_code 49 = .ok (.iload_n 1, 1) := by decide +kernel
theorem d_Grid_carries_50 : decode prog_4_method_4_code 50 = .ok (.iload_n 3, 1) := by decide +kernel
theorem d_Grid_carries_51 : decode prog_4_method_4_code 51 = .ok (.iadd, 1) := by decide +kernel
theorem d_Grid_carries_52 : decode prog_4_method_4_code 52 = .ok (.if_icmp .ge 47, 3) := by decide +kernel
theorem d_Grid_carries_55 : decode prog_4_method_4_code 55 = .ok (.iload 7, 2) := by decide +kernel
theorem d_Grid_carries_57 : decode prog_4_method_4_code 57 = .ok (.iload 6, 2) := by decide +kernel
theorem d_Grid_carries_59 : decode prog_4_method_4_code 59 = .ok (.invokestatic 33, 3) := by decide +kernel
theorem d_Grid_carries_62 : decode prog_4_method_4_code 62 = .ok (.istore 8, 2) := by decide +kernel
theorem d_Grid_carries_64 : decode prog_4_method_4_code 64 = .ok (.aload_n 0, 1) := by decide +kernel
theorem d_Grid_carries_65 : decode prog_4_method_4_code 65 = .ok (.getfield 9, 3) := by decide +kernel
theorem d_Grid_carries_68 : decode prog_4_method_4_code 68 = .ok (.iload 8, 2) := by decide +kernel
theorem d_Grid_carries_70 : decode prog_4_method_4_code 70 = .ok (.baload, 1) := by decide +kernel
theorem d_Grid_carries_71 : decode prog_4_method_4_code 71 = .ok (.ifCond .ne 20, 3) := by decide +kernel
theorem d_Grid_carries_74 : decode prog_4_method_4_code 74 = .ok (.iload 5, 2) := by decide +kernel
theorem d_Grid_carries_76 : decode prog_4_method_4_code 76 = .ok (.ifCond .eq 17, 3) := by decide +kernel
theorem d_Grid_carries_79 : decode prog_4_method_4_code 79 = .ok (.aload_n 0, 1) := by decide +kernel
theorem d_Grid_carries_80 : decode prog_4_method_4_code 80 = .ok (.getfield 15, 3) := by decide +kernel
theorem d_Grid_carries_83 : decode prog_4_method_4_code 83 = .ok (.iload 8, 2) := by decide +kernel
theorem d_Grid_carries_85 : decode prog_4_method_4_code 85 = .ok (.iaload, 1) := by decide +kernel
theorem d_Grid_carries_86 : decode prog_4_method_4_code 86 = .ok (.iload 5, 2) := by decide +kernel
theorem d_Grid_carries_88 : decode prog_4_method_4_code 88 = .ok (.if_icmp .eq 5, 3) := by decide +kernel
theorem d_Grid_carries_91 : decode prog_4_method_4_code 91 = .ok (.iconst 0, 1) := by decide +kernel
theorem d_Grid_carries_92 : decode prog_4_method_4_code 92 = .ok (.ireturn, 1) := by decide +kernel
theorem d_Grid_carries_93 : decode prog_4_method_4_code 93 = .ok (.iinc 7 1, 3) := by decide +kernel
theorem d_Grid_carries_96 : decode prog_4_method_4_code 96 = .ok (.goto (-49), 3) := by decide +kernel
theorem d_Grid_carries_99 : decode prog_4_method_4_code 99 = .ok (.iinc 6 1, 3) := by decide +kernel
theorem d_Grid_carries_102 : decode prog_4_method_4_code 102 = .ok (.goto (-67), 3) := by decide +kernel
theorem d_Grid_carries_105 : decode prog_4_method_4_code 105 = .ok (.iconst 1, 1) := by decide +kernel
theorem d_Grid_carries_106 : decode prog_4_method_4_code 106 = .ok (.ireturn, 1) := by decide +kernel
theorem d_Search_forget_0 : decode prog_7_method_2_code 0 = .ok (.aload_n 0, 1) := by decide +kernel
theorem d_Search_forget_1 : decode prog_7_method_2_code 1 = .ok (.iconst 0, 1) := by decide +kernel
theorem d_Search_forget_2 : decode prog_7_method_2_code 2 = .ok (.putfield 22, 3) := by decide +kernel
theorem d_Search_forget_5 : decode prog_7_method_2_code 5 = .ok (.aload_n 0, 1) := by decide +kernel
theorem d_Search_forget_6 : decode prog_7_method_2_code 6 = .ok (.iconst (-1), 1) := by decide +kernel
theorem d_Search_forget_7 : decode prog_7_method_2_code 7 = .ok (.putfield 25, 3) := by decide +kernel
theorem d_Search_forget_10 : decode prog_7_method_2_code 10 = .ok (.return_, 1) := by decide +kernel
theorem d_Search_hasFound_0 : decode prog_7_method_3_code 0 = .ok (.aload_n 0, 1) := by decide +kernel
theorem d_Search_hasFound_1 : decode prog_7_method_3_code 1 = .ok (.getfield 25, 3) := by decide +kernel
theorem d_Search_hasFound_4 : decode prog_7_method_3_code 4 = .ok (.iconst (-1), 1) := by decide +kernel
theorem d_Search_hasFound_5 : decode prog_7_method_3_code 5 = .ok (.if_icmp .eq 7, 3) := by decide +kernel
theorem d_Search_hasFound_8 : decode prog_7_method_3_code 8 = .ok (.iconst 1, 1) := by decide +kernel
theorem d_Search_hasFound_9 : decode prog_7_method_3_code 9 = .ok (.goto 4, 3) := by decide +kernel
theorem d_Search_hasFound_12 : decode prog_7_method_3_code 12 = .ok (.iconst 0, 1) := by decide +kernel
theorem d_Search_hasFound_13 : decode prog_7_method_3_code 13 = .ok (.ireturn, 1) := by decide +kernel
theorem d_Search_begin_0 : decode prog_7_method_4_code 0 = .ok (.aload_n 0, 1) := by decide +kernel
theorem d_Search_begin_1 : decode prog_7_method_4_code 1 = .ok (.invokevirtual 60, 3) := by decide +kernel
theorem d_Search_begin_4 : decode prog_7_method_4_code 4 = .ok (.aload_n 0, 1) := by decide +kernel
theorem d_Search_begin_5 : decode prog_7_method_4_code 5 = .ok (.iload_n 1, 1) := by decide +kernel
theorem d_Search_begin_6 : decode prog_7_method_4_code 6 = .ok (.putfield 18, 3) := by decide +kernel
theorem d_Search_begin_9 : decode prog_7_method_4_code 9 = .ok (.iconst 0, 1) := by decide +kernel
theorem d_Search_begin_10 : decode prog_7_method_4_code 10 = .ok (.istore_n 2, 1) := by decide +kernel
theorem d_Search_begin_11 : decode prog_7_method_4_code 11 = .ok (.iload_n 2, 1) := by decide +kernel
theorem d_Search_begin_12 : decode prog_7_method_4_code 12 = .ok (.aload_n 0, 1) := by decide +kernel
theorem d_Search_begin_13 : decode prog_7_method_4_code 13 = .ok (.getfield 32, 3) := by decide +kernel
theorem d_Search_begin_16 : decode prog_7_method_4_code 16 = .ok (.getfield 63, 3) := by decide +kernel
theorem d_Search_begin_19 : decode prog_7_method_4_code 19 = .ok (.if_icmp .ge 14, 3) := by decide +kernel
theorem d_Search_begin_22 : decode prog_7_method_4_code 22 = .ok (.aload_n 0, 1) := by decide +kernel
theorem d_Search_begin_23 : decode prog_7_method_4_code 23 = .ok (.iload_n 2, 1) := by decide +kernel
theorem d_Search_begin_24 : decode prog_7_method_4_code 24 = .ok (.invokevirtual 68, 3) := by decide +kernel
theorem d_Search_begin_27 : decode prog_7_method_4_code 27 = .ok (.iinc 2 1, 3) := by decide +kernel
theorem d_Search_begin_30 : decode prog_7_method_4_code 30 = .ok (.goto (-19), 3) := by decide +kernel
theorem d_Search_begin_33 : decode prog_7_method_4_code 33 = .ok (.return_, 1) := by decide +kernel
theorem d_Search_listSpots_0 : decode prog_7_method_5_code 0 = .ok (.iconst 0, 1) := by decide +kernel
theorem d_Search_listSpots_1 : decode prog_7_method_5_code 1 = .ok (.istore_n 2, 1) := by decide +kernel
theorem d_Search_listSpots_2 : decode prog_7_method_5_code 2 = .ok (.iconst 0, 1) := by decide +kernel
theorem d_Search_listSpots_3 : decode prog_7_method_5_code 3 = .ok (.istore_n 3, 1) := by decide +kernel
theorem d_Search_listSpots_4 : decode prog_7_method_5_code 4 = .ok (.iload_n 3, 1) := by decide +kernel
theorem d_Search_listSpots_5 : decode prog_7_method_5_code 5 = .ok (.aload_n 0, 1) := by decide +kernel
theorem d_Search_listSpots_6 : decode prog_7_method_5_code 6 = .ok (.getfield 28, 3) := by decide +kernel
theorem d_Search_listSpots_9 : decode prog_7_method_5_code 9 = .ok (.getfield 72, 3) := by decide +kernel
theorem d_Search_listSpots_12 : decode prog_7_method_5_code 12 = .ok (.if_icmp .ge 90, 3) := by decide +kernel
theorem d_Search_listSpots_15 : decode prog_7_method_5_code 15 = .ok (.iconst 0, 1) := by decide +kernel
theorem d_Search_listSpots_16 : decode prog_7_method_5_code 16 = .ok (.istore 4, 2) := by decide +kernel
theorem d_Search_listSpots_18 : decode prog_7_method_5_code 18 = .ok (.iload 4, 2) := by decide +kernel
theorem d_Search_listSpots_20 : decode prog_7_method_5_code 20 = .ok (.aload_n 0, 1) := by decide +kernel
theorem d_Search_listSpots_21 : decode prog_7_method_5_code 21 = .ok (.getfield 28, 3) := by decide +kernel
theorem d_Search_listSpots_24 : decode prog_7_method_5_code 24 = .ok (.getfield 77, 3) := by decide +kernel
theorem d_Search_listSpots_27 : decode prog_7_method_5_code 27 = .ok (.if_icmp .ge 69, 3) := by decide +kernel
theorem d_Search_listSpots_30 : decode prog_7_method_5_code 30 = .ok (.aload_n 0, 1) := by decide +kernel
theorem d_Search_listSpots_31 : decode prog_7_method_5_code 31 = .ok (.getfield 28, 3) := by decide +kernel
theorem d_Search_listSpots_34 : decode prog_7_method_5_code 34 = .ok (.iload 4, 2) := by decide +kernel
theorem d_Search_listSpots_36 : decode prog_7_method_5_code 36 = .ok (.iload_n 3, 1) := by decide +kernel
theorem d_Search_listSpots_37 : decode prog_7_method_5_code 37 = .ok (.aload_n 0, 1) := by decide +kernel
theorem d_Search_listSpots_38 : decode prog_7_method_5_code 38 = .ok (.getfield 32, 3) := by decide +kernel
theorem d_Search_listSpots_41 : decode prog_7_method_5_code 41 = .ok (.getfield 80, 3) := by decide +kernel
theorem d_Search_listSpots_44 : decode prog_7_method_5_code 44 = .ok (.iload_n 1, 1) := by decide +kernel
theorem d_Search_listSpots_45 : decode prog_7_method_5_code 45 = .ok (.iaload, 1) := by decide +kernel
theorem d_Search_listSpots_46 : decode prog_7_method_5_code 46 = .ok (.aload_n 0, 1) := by decide +kernel
theorem d_Search_listSpots_47 : decode prog_7_method_5_code 47 = .ok (.getfield 32, 3) := by decide +kernel
theorem d_Search_listSpots_50 : decode prog_7_method_5_code 50 = .ok (.getfield 83, 3) := by decide +kernel
theorem d_Search_listSpots_53 : decode prog_7_method_5_code 53 = .ok (.iload_n 1, 1) := by decide +kernel
theorem d_Search_listSpots_54 : decode prog_7_method_5_code 54 = .ok (.iaload, 1) := by decide +kernel
theorem d_Search_listSpots_55 : decode prog_7_method_5_code 55 = .ok (.aload_n 0, 1) := by decide +kernel
theorem d_Search_listSpots_56 : decode prog_7_method_5_code 56 = .ok (.getfield 32, 3) := by decide +kernel
theorem d_Search_listSpots_59 : decode prog_7_method_5_code 59 = .ok (.getfield 86, 3) := by decide +kernel
theorem d_Search_listSpots_62 : decode prog_7_method_5_code 62 = .ok (.iload_n 1, 1) := by decide +kernel
theorem d_Search_listSpots_63 : decode prog_7_method_5_code 63 = .ok (.iaload, 1) := by decide +kernel
theorem d_Search_listSpots_64 : decode prog_7_method_5_code 64 = .ok (.invokevirtual 89, 3) := by decide +kernel
theorem d_Search_listSpots_67 : decode prog_7_method_5_code 67 = .ok (.ifCond .eq 23, 3) := by decide +kernel
theorem d_Search_listSpots_70 : decode prog_7_method_5_code 70 = .ok (.aload_n 0, 1) := by decide +kernel
theorem d_Search_listSpots_71 : decode prog_7_method_5_code 71 = .ok (.getfield 9, 3) := by decide +kernel
theorem d_Search_listSpots_74 : decode prog_7_method_5_code 74 = .ok (.iload_n 1, 1) := by decide +kernel
theorem d_Search_listSpots_75 : decode prog_7_method_5_code 75 = .ok (.bipush 81, 2) := by decide +kernel
theorem d_Search_listSpots_77 : decode prog_7_method_5_code 77 = .ok (.imul, 1) := by decide +kernel
theorem d_Search_listSpots_78 : decode prog_7_method_5_code 78 = .ok (.iload_n 2, 1) := by decide +kernel
theorem d_Search_listSpots_79 : decode prog_7_method_5_code 79 = .ok (.iadd, 1) := by decide +kernel
theorem d_Search_listSpots_80 : decode prog_7_method_5_code 80 = .ok (.iload 4, 2) := by decide +kernel
theorem d_Search_listSpots_82 : decode prog_7_method_5_code 82 = .ok (.iload_n 3, 1) := by decide +kernel
theorem d_Search_listSpots_83 : decode prog_7_method_5_code 83 = .ok (.invokestatic 93, 3) := by decide +kernel
theorem d_Search_listSpots_86 : decode prog_7_method_5_code 86 = .ok (.iastore, 1) := by decide +kernel
theorem d_Search_listSpots_87 : decode prog_7_method_5_code 87 = .ok (.iinc 2 1, 3) := by decide +kernel
theorem d_Search_listSpots_90 : decode prog_7_method_5_code 90 = .ok (.iinc 4 1, 3) := by decide +kernel
theorem d_Search_listSpots_93 : decode prog_7_method_5_code 93 = .ok (.goto (-75), 3) := by decide +kernel
theorem d_Search_listSpots_96 : decode prog_7_method_5_code 96 = .ok (.iinc 3 1, 3) := by decide +kernel
theorem d_Search_listSpots_99 : decode prog_7_method_5_code 99 = .ok (.goto (-95), 3) := by decide +kernel
theorem d_Search_listSpots_102 : decode prog_7_method_5_code 102 = .ok (.aload_n 0, 1) := by decide +kernel
theorem d_Search_listSpots_103 : decode prog_7_method_5_code 103 = .ok (.getfield 15, 3) := by decide +kernel
theorem d_Search_listSpots_106 : decode prog_7_method_5_code 106 = .ok (.iload_n 1, 1) := by decide +kernel
theorem d_Search_listSpots_107 : decode prog_7_method_5_code 107 = .ok (.iload_n 2, 1) := by decide +kernel
theorem d_Search_listSpots_108 : decode prog_7_method_5_code 108 = .ok (.iastore, 1) := by decide +kernel
theorem d_Search_listSpots_109 : decode prog_7_method_5_code 109 = .ok (.return_, 1) := by decide +kernel
theorem d_Search_keepsApart_0 : decode prog_7_method_7_code 0 = .ok (.iconst 0, 1) := by decide +kernel
theorem d_Search_keepsApart_1 : decode prog_7_method_7_code 1 = .ok (.istore_n 2, 1) := by decide +kernel
theorem d_Search_keepsApart_2 : decode prog_7_method_7_code 2 = .ok (.iload_n 2, 1) := by decide +kernel
theorem d_Search_keepsApart_3 : decode prog_7_method_7_code 3 = .ok (.iload_n 1, 1) := by decide +kernel
theorem d_Search_keepsApart_4 : decode prog_7_method_7_code 4 = .ok (.if_icmp .ge 36, 3) := by decide +kernel
theorem d_Search_keepsApart_7 : decode prog_7_method_7_code 7 = .ok (.aload_n 0, 1) := by decide +kernel
theorem d_Search_keepsApart_8 : decode prog_7_method_7_code 8 = .ok (.getfield 53, 3) := by decide +kernel
theorem d_Search_keepsApart_11 : decode prog_7_method_7_code 11 = .ok (.iload_n 1, 1) := by decide +kernel
theorem d_Search_keepsApart_12 : decode prog_7_method_7_code 12 = .ok (.iload_n 2, 1) := by decide +kernel
theorem d_Search_keepsApart_13 : decode prog_7_method_7_code 13 = .ok (.invokevirtual 118, 3) := by decide +kernel
theorem d_Search_keepsApart_16 : decode prog_7_method_7_code 16 = .ok (.aload_n 0, 1) := by decide +kernel
theorem d_Search_keepsApart_17 : decode prog_7_method_7_code 17 = .ok (.getfield 32, 3) := by decide +kernel
theorem d_Search_keepsApart_20 : decode prog_7_method_7_code 20 = .ok (.getfield 121, 3) := by decide +kernel
theorem d_Search_keepsApart_23 : decode prog_7_method_7_code 23 = .ok (.iload_n 1, 1) := by decide +kernel
theorem d_Search_keepsApart_24 : decode prog_7_method_7_code 24 = .ok (.iload_n 2, 1) := by decide +kernel
theorem d_Search_keepsApart_25 : decode prog_7_method_7_code 25 = .ok (.invokestatic 124, 3) := by decide +kernel
theorem d_Search_keepsApart_28 : decode prog_7_method_7_code 28 = .ok (.iaload, 1) := by decide +kernel
theorem d_Search_keepsApart_29 : decode prog_7_method_7_code 29 = .ok (.if_icmp .ge 5, 3) := by decide +kernel
theorem d_Search_keepsApart_32 : decode prog_7_method_7_code 32 = .ok (.iconst 0, 1) := by decide +kernel
theorem d_Search_keepsApart_33 : decode prog_7_method_7_code 33 = .ok (.ireturn, 1) := by decide +kernel
theorem d_Search_keepsApart_34 : decode prog_7_method_7_code 34 = .ok (.iinc 2 1, 3) := by decide +kernel
theorem d_Search_keepsApart_37 : decode prog_7_method_7_code 37 = .ok (.goto (-35), 3) := by decide +kernel
theorem d_Search_keepsApart_40 : decode prog_7_method_7_code 40 = .ok (.iconst 1, 1) := by decide +kernel
theorem d_Search_keepsApart_41 : decode prog_7_method_7_code 41 = .ok (.ireturn, 1) := by decide +kernel
theorem d_Layout_gapOf_0 : decode prog_5_method_2_code 0 = .ok (.aload_n 0, 1) := by decide +kernel
theorem d_Layout_gapOf_1 : decode prog_5_method_2_code 1 = .ok (.getfield 9, 3) := by decide +kernel
theorem d_Layout_gapOf_4 : decode prog_5_method_2_code 4 = .ok (.iload_n 1, 1) := by decide +kernel
theorem d_Layout_gapOf_5 : decode prog_5_method_2_code 5 = .ok (.iaload, 1) := by decide +kernel
theorem d_Layout_gapOf_6 : decode prog_5_method_2_code 6 = .ok (.aload_n 0, 1) := by decide +kernel
theorem d_Layout_gapOf_7 : decode prog_5_method_2_code 7 = .ok (.getfield 18, 3) := by decide +kernel
theorem d_Layout_gapOf_10 : decode prog_5_method_2_code 10 = .ok (.getfield 22, 3) := by decide +kernel
theorem d_Layout_gapOf_13 : decode prog_5_method_2_code 13 = .ok (.iload_n 1, 1) := by decide +kernel
theorem d_Layout_gapOf_14 : decode prog_5_method_2_code 14 = .ok (.iaload, 1) := by decide +kernel
theorem d_Layout_gapOf_15 : decode prog_5_method_2_code 15 = .ok (.aload_n 0, 1) := by decide +kernel
theorem d_Layout_gapOf_16 : decode prog_5_method_2_code 16 = .ok (.getfield 9, 3) := by decide +kernel
theorem d_Layout_gapOf_19 : decode prog_5_method_2_code 19 = .ok (.iload_n 2, 1) := by decide +kernel
theorem d_Layout_gapOf_20 : decode prog_5_method_2_code 20 = .ok (.iaload, 1) := by decide +kernel
theorem d_Layout_gapOf_21 : decode prog_5_method_2_code 21 = .ok (.aload_n 0, 1) := by decide +kernel
theorem d_Layout_gapOf_22 : decode prog_5_method_2_code 22 = .ok (.getfield 18, 3) := by decide +kernel
theorem d_Layout_gapOf_25 : decode prog_5_method_2_code 25 = .ok (.getfield 22, 3) := by decide +kernel
theorem d_Layout_gapOf_28 : decode prog_5_method_2_code 28 = .ok (.iload_n 2, 1) := by decide +kernel
theorem d_Layout_gapOf_29 : decode prog_5_method_2_code 29 = .ok (.iaload, 1) := by decide +kernel
theorem d_Layout_gapOf_30 : decode prog_5_method_2_code 30 = .ok (.invokestatic 27, 3) := by decide +kernel
theorem d_Layout_gapOf_33 : decode prog_5_method_2_code 33 = .ok (.istore_n 3, 1) := by decide +kernel
theorem d_Layout_gapOf_34 : decode prog_5_method_2_code 34 = .ok (.aload_n 0, 1) := by decide +kernel
theorem d_Layout_gapOf_35 : decode prog_5_method_2_code 35 = .ok (.getfield 15, 3) := by decide +kernel
theorem d_Layout_gapOf_38 : decode prog_5_method_2_code 38 = .ok (.iload_n 1, 1) := by decide +kernel
theorem d_Layout_gapOf_39 : decode prog_5_method_2_code 39 = .ok (.iaload, 1) := by decide +kernel
theorem d_Layout_gapOf_40 : decode prog_5_method_2_code 40 = .ok (.aload_n 0, 1) := by decide +kernel
theorem d_Layout_gapOf_41 : decode prog_5_method_2_code 41 = .ok (.getfield 18, 3) := by decide +kernel
theorem d_Layout_gapOf_44 : decode prog_5_method_2_code 44 = .ok (.getfield 31, 3) := by decide +kernel
theorem d_Layout_gapOf_47 : decode prog_5_method_2_code 47 = .ok (.iload_n 1, 1) := by decide +kernel
theorem d_Layout_gapOf_48 : decode prog_5_method_2_code 48 = .ok (.iaload, 1) := by decide +kernel
theorem d_Layout_gapOf_49 : decode prog_5_method_2_code 49 = .ok (.aload_n 0, 1) := by decide +kernel
theorem d_Layout_gapOf_50 : decode prog_5_method_2_code 50 = .ok (.getfield 15, 3) := by decide +kernel
theorem d_Layout_gapOf_53 : decode prog_5_method_2_code 53 = .ok (.iload_n 2, 1) := by decide +kernel
theorem d_Layout_gapOf_54 : decode prog_5_method_2_code 54 = .ok (.iaload, 1) := by decide +kernel
theorem d_Layout_gapOf_55 : decode prog_5_method_2_code 55 = .ok (.aload_n 0, 1) := by decide +kernel
theorem d_Layout_gapOf_56 : decode prog_5_method_2_code 56 = .ok (.getfield 18, 3) := by decide +kernel
theorem d_Layout_gapOf_59 : decode prog_5_method_2_code 59 = .ok (.getfield 31, 3) := by decide +kernel
theorem d_Layout_gapOf_62 : decode prog_5_method_2_code 62 = .ok (.iload_n 2, 1) := by decide +kernel
theorem d_Layout_gapOf_63 : decode prog_5_method_2_code 63 = .ok (.iaload, 1) := by decide +kernel
theorem d_Layout_gapOf_64 : decode prog_5_method_2_code 64 = .ok (.invokestatic 27, 3) := by decide +kernel
theorem d_Layout_gapOf_67 : decode prog_5_method_2_code 67 = .ok (.istore 4, 2) := by decide +kernel
theorem d_Layout_gapOf_69 : decode prog_5_method_2_code 69 = .ok (.iload_n 3, 1) := by decide +kernel
theorem d_Layout_gapOf_70 : decode prog_5_method_2_code 70 = .ok (.iload 4, 2) := by decide +kernel
theorem d_Layout_gapOf_72 : decode prog_5_method_2_code 72 = .ok (.invokestatic 34, 3) := by decide +kernel
theorem d_Layout_gapOf_75 : decode prog_5_method_2_code 75 = .ok (.ireturn, 1) := by decide +kernel
theorem d_Layout_between_0 : decode prog_5_method_4_code 0 = .ok (.iload_n 2, 1) := by decide +kernel
theorem d_Layout_between_1 : decode prog_5_method_4_code 1 = .ok (.iload_n 0, 1) := by decide +kernel
theorem d_Layout_between_2 : decode prog_5_method_4_code 2 = .ok (.isub, 1) := by decide +kernel
theorem d_Layout_between_3 : decode prog_5_method_4_code 3 = .ok (.iload_n 1, 1) := by decide +kernel
theorem d_Layout_between_4 : decode prog_5_method_4_code 4 = .ok (.isub, 1) := by decide +kernel
theorem d_Layout_between_5 : decode prog_5_method_4_code 5 = .ok (.iload_n 0, 1) := by decide +kernel
theorem d_Layout_between_6 : decode prog_5_method_4_code 6 = .ok (.iload_n 2, 1) := by decide +kernel
theorem d_Layout_between_7 : decode prog_5_method_4_code 7 = .ok (.isub, 1) := by decide +kernel
theorem d_Layout_between_8 : decode prog_5_method_4_code 8 = .ok (.iload_n 3, 1) := by decide +kernel
theorem d_Layout_between_9 : decode prog_5_method_4_code 9 = .ok (.isub, 1) := by decide +kernel
theorem d_Layout_between_10 : decode prog_5_method_4_code 10 = .ok (.invokestatic 34, 3) := by decide +kernel
theorem d_Layout_between_13 : decode prog_5_method_4_code 13 = .ok (.ireturn, 1) := by decide +kernel
theorem d_CaseLayout_pairOf_0 : decode prog_1_method_26_code 0 = .ok (.iload_n 0, 1) := by decide +kernel
theorem d_CaseLayout_pairOf_1 : decode prog_1_method_26_code 1 = .ok (.bipush 7, 2) := by decide +kernel
theorem d_CaseLayout_pairOf_3 : decode prog_1_method_26_code 3 = .ok (.imul, 1) := by decide +kernel
theorem d_CaseLayout_pairOf_4 : decode prog_1_method_26_code 4 = .ok (.iload_n 1, 1) := by decide +kernel
theorem d_CaseLayout_pairOf_5 : decode prog_1_method_26_code 5 = .ok (.iadd, 1) := by decide +kernel
theorem d_CaseLayout_pairOf_6 : decode prog_1_method_26_code 6 = .ok (.ireturn, 1) := by decide +kernel
theorem d_Search_gainOf_0 : decode prog_7_method_8_code 0 = .ok (.iconst 0, 1) := by decide +kernel
theorem d_Search_gainOf_1 : decode prog_7_method_8_code 1 = .ok (.istore_n 2, 1) := by decide +kernel
theorem d_Search_gainOf_2 : decode prog_7_method_8_code 2 = .ok (.iconst 0, 1) := by decide +kernel
theorem d_Search_gainOf_3 : decode prog_7_method_8_code 3 = .ok (.istore_n 3, 1) := by decide +kernel
theorem d_Search_gainOf_4 : decode prog_7_method_8_code 4 = .ok (.iload_n 3, 1) := by decide +kernel
theorem d_Search_gainOf_5 : decode prog_7_method_8_code 5 = .ok (.iload_n 1, 1) := by decide +kernel
theorem d_Search_gainOf_6 : decode prog_7_method_8_code 6 = .ok (.if_icmp .ge 46, 3) := by decide +kernel
theorem d_Search_gainOf_9 : decode prog_7_method_8_code 9 = .ok (.aload_n 0, 1) := by decide +kernel
theorem d_Search_gainOf_10 : decode prog_7_method_8_code 10 = .ok (.getfield 32, 3) := by decide +kernel
theorem d_Search_gainOf_13 : decode prog_7_method_8_code 13 = .ok (.getfield 127, 3) := by decide +kernel
theorem d_Search_gainOf_16 : decode prog_7_method_8_code 16 = .ok (.iload_n 1, 1) := by decide +kernel
theorem d_Search_gainOf_17 : decode prog_7_method_8_code 17 = .ok (.iload_n 3, 1) := by decide +kernel
theorem d_Search_gainOf_18 : decode prog_7_method_8_code 18 = .ok (.invokestatic 124, 3) := by decide +kernel
theorem d_Search_gainOf_21 : decode prog_7_method_8_code 21 = .ok (.iaload, 1) := by decide +kernel
theorem d_Search_gainOf_22 : decode prog_7_method_8_code 22 = .ok (.istore 4, 2) := by decide +kernel
theorem d_Search_gainOf_24 : decode prog_7_method_8_code 24 = .ok (.iload 4, 2) := by decide +kernel
theorem d_Search_gainOf_26 : decode prog_7_method_8_code 26 = .ok (.ifCond .eq 20, 3) := by decide +kernel
theorem d_Search_gainOf_29 : decode prog_7_method_8_code 29 = .ok (.aload_n 0, 1) := by decide +kernel
theorem d_Search_gainOf_30 : decode prog_7_method_8_code 30 = .ok (.getfield 53, 3) := by decide +kernel
theorem d_Search_gainOf_33 : decode prog_7_method_8_code 33 = .ok (.iload_n 1, 1) := by decide +kernel
theorem d_Search_gainOf_34 : decode prog_7_method_8_code 34 = .ok (.iload_n 3, 1) := by decide +kernel
theorem d_Search_gainOf_35 : decode prog_7_method_8_code 35 = .ok (.invokevirtual 118, 3) := by decide +kernel
theorem d_Search_gainOf_38 : decode prog_7_method_8_code 38 = .ok (.ifCond .ne 8, 3) := by decide +kernel
