theorem d_Search_listSpots_56 : decode prog_7_method_5_code 56 = .ok (.getfield 32, 3) := by decide +kernel
theorem d_Search_listSpots_59 : decode prog_7_method_5_code 59 = .ok (.getfield 86, 3) := by decide +kernel
theorem d_Search_listSpots_62 : decode prog_7_method_5_code 62 = .ok (.iload_n 1, 1) := by decide +kernel
theorem d_Search_listSpots_63 : decode prog_7_method_5_code 63 = .ok (.iaload, 1) := by decide +kernel
theorem d_Search_listSpots_64 : decode prog_7_method_5_code 64 = .ok (.invokevirtual 89, 3) := by decide +kernel
theorem d_Search_listSpots_67 : decode prog_7_method_5_code 67 = .ok (.ifCond .eq 23, 3) := by decide +kernel
theorem d_Search_listSpots_70 : decode prog_7_method_5_code 70 = .ok (.aload_n 0, 1) := by decide +kernel
theorem d_Search_listSpots_71 : decode prog_7_method_5_code 71 = .ok (.getfield 9, 3) := by decide +kernel
theorem d_Search_listSpots_74 : decode prog_7_method_5_code 74 = .ok (.iload_n 1, 1) := by decide +kernel
theorem d_Search_listSpots_75 : decode prog_7_method_5_code 75 = .ok (.bipush 81, 2) := by decide +kernel
theorem d_Search_listSpots_77 : decode prog_7_method_5_code 77 = .ok (.imul, 1) := by decide +kernel
theorem d_Search_listSpots_78 : decode prog_7_method_5_code 78 = .ok (.iload_n 2, 1) := by decide +kernel
theorem d_Search_listSpots_79 : decode prog_7_method_5_code 79 = .ok (.iadd, 1) := by decide +kernel
theorem d_Search_listSpots_80 : decode prog_7_method_5_code 80 = .ok (.iload 4, 2) := by decide +kernel
theorem d_Search_listSpots_82 : decode prog_7_method_5_code 82 = .ok (.iload_n 3, 1) := by decide +kernel
theorem d_Search_listSpots_83 : decode prog_7_method_5_code 83 = .ok (.invokestatic 93, 3) := by decide +kernel
theorem d_Search_listSpots_86 : decode prog_7_method_5_code 86 = .ok (.iastore, 1) := by decide +kernel
theorem d_Search_listSpots_87 : decode prog_7_method_5_code 87 = .ok (.iinc 2 1, 3) := by decide +kernel
theorem d_Search_listSpots_90 : decode prog_7_method_5_code 90 = .ok (.iinc 4 1, 3) := by decide +kernel
theorem d_Search_listSpots_93 : decode prog_7_method_5_code 93 = .ok (.goto (-75), 3) := by decide +kernel
theorem d_Search_listSpots_96 : decode prog_7_method_5_code 96 = .ok (.iinc 3 1, 3) := by decide +kernel
theorem d_Search_listSpots_99 : decode prog_7_method_5_code 99 = .ok (.goto (-95), 3) := by decide +kernel
theorem d_Search_listSpots_102 : decode prog_7_method_5_code 102 = .ok (.aload_n 0, 1) := by decide +kernel
theorem d_Search_listSpots_103 : decode prog_7_method_5_code 103 = .ok (.getfield 15, 3) := by decide +kernel
theorem d_Search_listSpots_106 : decode prog_7_method_5_code 106 = .ok (.iload_n 1, 1) := by decide +kernel
theorem d_Search_listSpots_107 : decode prog_7_method_5_code 107 = .ok (.iload_n 2, 1) := by decide +kernel
theorem d_Search_listSpots_108 : decode prog_7_method_5_code 108 = .ok (.iastore, 1) := by decide +kernel
theorem d_Search_listSpots_109 : decode prog_7_method_5_code 109 = .ok (.return_, 1) := by decide +kernel
theorem d_Search_tryThing_0 : decode prog_7_method_6_code 0 = .ok (.iload_n 1, 1) := by decide +kernel
theorem d_Search_tryThing_1 : decode prog_7_method_6_code 1 = .ok (.aload_n 0, 1) := by decide +kernel
theorem d_Search_tryThing_2 : decode prog_7_method_6_code 2 = .ok (.getfield 32, 3) := by decide +kernel
theorem d_Search_tryThing_5 : decode prog_7_method_6_code 5 = .ok (.getfield 63, 3) := by decide +kernel
theorem d_Search_tryThing_8 : decode prog_7_method_6_code 8 = .ok (.if_icmp .ge 9, 3) := by decide +kernel
theorem d_Search_tryThing_11 : decode prog_7_method_6_code 11 = .ok (.iload_n 1, 1) := by decide +kernel
theorem d_Search_tryThing_12 : decode prog_7_method_6_code 12 = .ok (.bipush 7, 2) := by decide +kernel
theorem d_Search_tryThing_14 : decode prog_7_method_6_code 14 = .ok (.if_icmp .lt 10, 3) := by decide +kernel
theorem d_Search_tryThing_17 : decode prog_7_method_6_code 17 = .ok (.aload_n 0, 1) := by decide +kernel
theorem d_Search_tryThing_18 : decode prog_7_method_6_code 18 = .ok (.iload_n 2, 1) := by decide +kernel
theorem d_Search_tryThing_19 : decode prog_7_method_6_code 19 = .ok (.invokevirtual 97, 3) := by decide +kernel
theorem d_Search_tryThing_22 : decode prog_7_method_6_code 22 = .ok (.iconst 1, 1) := by decide +kernel
theorem d_Search_tryThing_23 : decode prog_7_method_6_code 23 = .ok (.ireturn, 1) := by decide +kernel
theorem d_Search_tryThing_24 : decode prog_7_method_6_code 24 = .ok (.iconst 0, 1) := by decide +kernel
theorem d_Search_tryThing_25 : decode prog_7_method_6_code 25 = .ok (.istore_n 3, 1) := by decide +kernel
theorem d_Search_tryThing_26 : decode prog_7_method_6_code 26 = .ok (.iload_n 3, 1) := by decide +kernel
theorem d_Search_tryThing_27 : decode prog_7_method_6_code 27 = .ok (.aload_n 0, 1) := by decide +kernel
theorem d_Search_tryThing_28 : decode prog_7_method_6_code 28 = .ok (.getfield 15, 3) := by decide +kernel
theorem d_Search_tryThing_31 : decode prog_7_method_6_code 31 = .ok (.iload_n 1, 1) := by decide +kernel
theorem d_Search_tryThing_32 : decode prog_7_method_6_code 32 = .ok (.iaload, 1) := by decide +kernel
theorem d_Search_tryThing_33 : decode prog_7_method_6_code 33 = .ok (.if_icmp .ge 100, 3) := by decide +kernel
theorem d_Search_tryThing_36 : decode prog_7_method_6_code 36 = .ok (.aload_n 0, 1) := by decide +kernel
theorem d_Search_tryThing_37 : decode prog_7_method_6_code 37 = .ok (.getfield 9, 3) := by decide +kernel
theorem d_Search_tryThing_40 : decode prog_7_method_6_code 40 = .ok (.iload_n 1, 1) := by decide +kernel
theorem d_Search_tryThing_41 : decode prog_7_method_6_code 41 = .ok (.bipush 81, 2) := by decide +kernel
theorem d_Search_tryThing_43 : decode prog_7_method_6_code 43 = .ok (.imul, 1) := by decide +kernel
theorem d_Search_tryThing_44 : decode prog_7_method_6_code 44 = .ok (.iload_n 3, 1) := by decide +kernel
theorem d_Search_tryThing_45 : decode prog_7_method_6_code 45 = .ok (.iadd, 1) := by decide +kernel
theorem d_Search_tryThing_46 : decode prog_7_method_6_code 46 = .ok (.iaload, 1) := by decide +kernel
theorem d_Search_tryThing_47 : decode prog_7_method_6_code 47 = .ok (.istore 4, 2) := by decide +kernel
theorem d_Search_tryThing_49 : decode prog_7_method_6_code 49 = .ok (.aload_n 0, 1) := by decide +kernel
theorem d_Search_tryThing_50 : decode prog_7_method_6_code 50 = .ok (.getfield 53, 3) := by decide +kernel
theorem d_Search_tryThing_53 : decode prog_7_method_6_code 53 = .ok (.getfield 100, 3) := by decide +kernel
theorem d_Search_tryThing_56 : decode prog_7_method_6_code 56 = .ok (.iload_n 1, 1) := by decide +kernel
theorem d_Search_tryThing_57 : decode prog_7_method_6_code 57 = .ok (.iload 4, 2) := by decide +kernel
theorem d_Search_tryThing_59 : decode prog_7_method_6_code 59 = .ok (.bipush 9, 2) := by decide +kernel
theorem d_Search_tryThing_61 : decode prog_7_method_6_code 61 = .ok (.irem, 1) := by decide +kernel
theorem d_Search_tryThing_62 : decode prog_7_method_6_code 62 = .ok (.iastore, 1) := by decide +kernel
theorem d_Search_tryThing_63 : decode prog_7_method_6_code 63 = .ok (.aload_n 0, 1) := by decide +kernel
theorem d_Search_tryThing_64 : decode prog_7_method_6_code 64 = .ok (.getfield 53, 3) := by decide +kernel
theorem d_Search_tryThing_67 : decode prog_7_method_6_code 67 = .ok (.getfield 103, 3) := by decide +kernel
theorem d_Search_tryThing_70 : decode prog_7_method_6_code 70 = .ok (.iload_n 1, 1) := by decide +kernel
theorem d_Search_tryThing_71 : decode prog_7_method_6_code 71 = .ok (.iload 4, 2) := by decide +kernel
theorem d_Search_tryThing_73 : decode prog_7_method_6_code 73 = .ok (.bipush 9, 2) := by decide +kernel
theorem d_Search_tryThing_75 : decode prog_7_method_6_code 75 = .ok (.idiv, 1) := by decide +kernel
theorem d_Search_tryThing_76 : decode prog_7_method_6_code 76 = .ok (.iastore, 1) := by decide +kernel
theorem d_Search_tryThing_77 : decode prog_7_method_6_code 77 = .ok (.aload_n 0, 1) := by decide +kernel
theorem d_Search_tryThing_78 : decode prog_7_method_6_code 78 = .ok (.iload_n 1, 1) := by decide +kernel
theorem d_Search_tryThing_79 : decode prog_7_method_6_code 79 = .ok (.invokevirtual 106, 3) := by decide +kernel
theorem d_Search_tryThing_82 : decode prog_7_method_6_code 82 = .ok (.ifCond .eq 45, 3) := by decide +kernel
theorem d_Search_tryThing_85 : decode prog_7_method_6_code 85 = .ok (.aload_n 0, 1) := by decide +kernel
theorem d_Search_tryThing_86 : decode prog_7_method_6_code 86 = .ok (.getfield 22, 3) := by decide +kernel
theorem d_Search_tryThing_89 : decode prog_7_method_6_code 89 = .ok (.aload_n 0, 1) := by decide +kernel
theorem d_Search_tryThing_90 : decode prog_7_method_6_code 90 = .ok (.getfield 18, 3) := by decide +kernel
theorem d_Search_tryThing_93 : decode prog_7_method_6_code 93 = .ok (.if_icmp .lt 5, 3) := by decide +kernel
theorem d_Search_tryThing_96 : decode prog_7_method_6_code 96 = .ok (.iconst 0, 1) := by decide +kernel
theorem d_Search_tryThing_97 : decode prog_7_method_6_code 97 = .ok (.ireturn, 1) := by decide +kernel
theorem d_Search_tryThing_98 : decode prog_7_method_6_code 98 = .ok (.aload_n 0, 1) := by decide +kernel
theorem d_Search_tryThing_99 : decode prog_7_method_6_code 99 = .ok (.dup, 1) := by decide +kernel
theorem d_Search_tryThing_100 : decode prog_7_method_6_code 100 = .ok (.getfield 22, 3) := by decide +kernel
theorem d_Search_tryThing_103 : decode prog_7_method_6_code 103 = .ok (.iconst 1, 1) := by decide +kernel
theorem d_Search_tryThing_104 : decode prog_7_method_6_code 104 = .ok (.iadd, 1) := by decide +kernel
theorem d_Search_tryThing_105 : decode prog_7_method_6_code 105 = .ok (.putfield 22, 3) := by decide +kernel
theorem d_Search_tryThing_108 : decode prog_7_method_6_code 108 = .ok (.aload_n 0, 1) := by decide +kernel
theorem d_Search_tryThing_109 : decode prog_7_method_6_code 109 = .ok (.iload_n 1, 1) := by decide +kernel
theorem d_Search_tryThing_110 : decode prog_7_method_6_code 110 = .ok (.iconst 1, 1) := by decide +kernel
theorem d_Search_tryThing_111 : decode prog_7_method_6_code 111 = .ok (.iadd, 1) := by decide +kernel
theorem d_Search_tryThing_112 : decode prog_7_method_6_code 112 = .ok (.iload_n 2, 1) := by decide +kernel
theorem d_Search_tryThing_113 : decode prog_7_method_6_code 113 = .ok (.aload_n 0, 1) := by decide +kernel
theorem d_Search_tryThing_114 : decode prog_7_method_6_code 114 = .ok (.iload_n 1, 1) := by decide +kernel
theorem d_Search_tryThing_115 : decode prog_7_method_6_code 115 = .ok (.invokevirtual 110, 3) := by decide +kernel
theorem d_Search_tryThing_118 : decode prog_7_method_6_code 118 = .ok (.iadd, 1) := by decide +kernel
theorem d_Search_tryThing_119 : decode prog_7_method_6_code 119 = .ok (.invokevirtual 114, 3) := by decide +kernel
theorem d_Search_tryThing_122 : decode prog_7_method_6_code 122 = .ok (.ifCond .ne 5, 3) := by decide +kernel
theorem d_Search_tryThing_125 : decode prog_7_method_6_code 125 = .ok (.iconst 0, 1) := by decide +kernel
theorem d_Search_tryThing_126 : decode prog_7_method_6_code 126 = .ok (.ireturn, 1) := by decide +kernel
theorem d_Search_tryThing_127 : decode prog_7_method_6_code 127 = .ok (.iinc 3 1, 3) := by decide +kernel
theorem d_Search_tryThing_130 : decode prog_7_method_6_code 130 = .ok (.goto (-104), 3) := by decide +kernel
theorem d_Search_tryThing_133 : decode prog_7_method_6_code 133 = .ok (.iconst 1, 1) := by decide +kernel
theorem d_Search_tryThing_134 : decode prog_7_method_6_code 134 = .ok (.ireturn, 1) := by decide +kernel
theorem d_Things_init_0 : decode prog_8_method_1_code 0 = .ok (.aload_n 0, 1) := by decide +kernel
theorem d_Things_init_1 : decode prog_8_method_1_code 1 = .ok (.invokespecial 3, 3) := by decide +kernel
theorem d_Things_init_4 : decode prog_8_method_1_code 4 = .ok (.aload_n 0, 1) := by decide +kernel
theorem d_Things_init_5 : decode prog_8_method_1_code 5 = .ok (.bipush 7, 2) := by decide +kernel
theorem d_Things_init_7 : decode prog_8_method_1_code 7 = .ok (.newarray .int, 2) := by decide +kernel
theorem d_Things_init_9 : decode prog_8_method_1_code 9 = .ok (.putfield 9, 3) := by decide +kernel
theorem d_Things_init_12 : decode prog_8_method_1_code 12 = .ok (.aload_n 0, 1) := by decide +kernel
theorem d_Things_init_13 : decode prog_8_method_1_code 13 = .ok (.bipush 7, 2) := by decide +kernel
theorem d_Things_init_15 : decode prog_8_method_1_code 15 = .ok (.newarray .int, 2) := by decide +kernel
theorem d_Things_init_17 : decode prog_8_method_1_code 17 = .ok (.putfield 15, 3) := by decide +kernel
theorem d_Things_init_20 : decode prog_8_method_1_code 20 = .ok (.aload_n 0, 1) := by decide +kernel
theorem d_Things_init_21 : decode prog_8_method_1_code 21 = .ok (.bipush 7, 2) := by decide +kernel
theorem d_Things_init_23 : decode prog_8_method_1_code 23 = .ok (.newarray .int, 2) := by decide +kernel
theorem d_Things_init_25 : decode prog_8_method_1_code 25 = .ok (.putfield 18, 3) := by decide +kernel
theorem d_Things_init_28 : decode prog_8_method_1_code 28 = .ok (.aload_n 0, 1) := by decide +kernel
theorem d_Things_init_29 : decode prog_8_method_1_code 29 = .ok (.bipush 49, 2) := by decide +kernel
theorem d_Things_init_31 : decode prog_8_method_1_code 31 = .ok (.newarray .int, 2) := by decide +kernel
theorem d_Things_init_33 : decode prog_8_method_1_code 33 = .ok (.putfield 21, 3) := by decide +kernel
theorem d_Things_init_36 : decode prog_8_method_1_code 36 = .ok (.aload_n 0, 1) := by decide +kernel
theorem d_Things_init_37 : decode prog_8_method_1_code 37 = .ok (.bipush 49, 2) := by decide +kernel
theorem d_Things_init_39 : decode prog_8_method_1_code 39 = .ok (.newarray .int, 2) := by decide +kernel
theorem d_Things_init_41 : decode prog_8_method_1_code 41 = .ok (.putfield 24, 3) := by decide +kernel
theorem d_Things_init_44 : decode prog_8_method_1_code 44 = .ok (.aload_n 0, 1) := by decide +kernel
theorem d_Things_init_45 : decode prog_8_method_1_code 45 = .ok (.iconst 0, 1) := by decide +kernel
theorem d_Things_init_46 : decode prog_8_method_1_code 46 = .ok (.putfield 27, 3) := by decide +kernel
theorem d_Things_init_49 : decode prog_8_method_1_code 49 = .ok (.return_, 1) := by decide +kernel
theorem d_Things_add_0 : decode prog_8_method_2_code 0 = .ok (.aload_n 0, 1) := by decide +kernel
theorem d_Things_add_1 : decode prog_8_method_2_code 1 = .ok (.getfield 27, 3) := by decide +kernel
theorem d_Things_add_4 : decode prog_8_method_2_code 4 = .ok (.istore 4, 2) := by decide +kernel
theorem d_Things_add_6 : decode prog_8_method_2_code 6 = .ok (.aload_n 0, 1) := by decide +kernel
theorem d_Things_add_7 : decode prog_8_method_2_code 7 = .ok (.getfield 9, 3) := by decide +kernel
theorem d_Things_add_10 : decode prog_8_method_2_code 10 = .ok (.iload 4, 2) := by decide +kernel
theorem d_Things_add_12 : decode prog_8_method_2_code 12 = .ok (.iload_n 1, 1) := by decide +kernel
theorem d_Things_add_13 : decode prog_8_method_2_code 13 = .ok (.iastore, 1) := by decide +kernel
theorem d_Things_add_14 : decode prog_8_method_2_code 14 = .ok (.aload_n 0, 1) := by decide +kernel
theorem d_Things_add_15 : decode prog_8_method_2_code 15 = .ok (.getfield 15, 3) := by decide +kernel
theorem d_Things_add_18 : decode prog_8_method_2_code 18 = .ok (.iload 4, 2) := by decide +kernel
theorem d_Things_add_20 : decode prog_8_method_2_code 20 = .ok (.iload_n 2, 1) := by decide +kernel
theorem d_Things_add_21 : decode prog_8_method_2_code 21 = .ok (.iastore, 1) := by decide +kernel
theorem d_Things_add_22 : decode prog_8_method_2_code 22 = .ok (.aload_n 0, 1) := by decide +kernel
theorem d_Things_add_23 : decode prog_8_method_2_code 23 = .ok (.getfield 18, 3) := by decide +kernel
theorem d_Things_add_26 : decode prog_8_method_2_code 26 = .ok (.iload 4, 2) := by decide +kernel
theorem d_Things_add_28 : decode prog_8_method_2_code 28 = .ok (.iload_n 3, 1) := by decide +kernel
theorem d_Things_add_29 : decode prog_8_method_2_code 29 = .ok (.iastore, 1) := by decide +kernel
theorem d_Things_add_30 : decode prog_8_method_2_code 30 = .ok (.aload_n 0, 1) := by decide +kernel
theorem d_Things_add_31 : decode prog_8_method_2_code 31 = .ok (.dup, 1) := by decide +kernel
theorem d_Things_add_32 : decode prog_8_method_2_code 32 = .ok (.getfield 27, 3) := by decide +kernel
theorem d_Things_add_35 : decode prog_8_method_2_code 35 = .ok (.iconst 1, 1) := by decide +kernel
theorem d_Things_add_36 : decode prog_8_method_2_code 36 = .ok (.iadd, 1) := by decide +kernel
theorem d_Things_add_37 : decode prog_8_method_2_code 37 = .ok (.putfield 27, 3) := by decide +kernel
theorem d_Things_add_40 : decode prog_8_method_2_code 40 = .ok (.iload 4, 2) := by decide +kernel
theorem d_Things_add_42 : decode prog_8_method_2_code 42 = .ok (.ireturn, 1) := by decide +kernel
theorem d_Law_apart_0 : decode method_6_code 0 = .ok (.aload 4, 2) := by decide +kernel
theorem d_Law_apart_2 : decode method_6_code 2 = .ok (.iconst 0, 1) := by decide +kernel
theorem d_Law_apart_3 : decode method_6_code 3 = .ok (.aload_n 0, 1) := by decide +kernel
theorem d_Law_apart_4 : decode method_6_code 4 = .ok (.iload_n 1, 1) := by decide +kernel
theorem d_Law_apart_5 : decode method_6_code 5 = .ok (.iload_n 2, 1) := by decide +kernel
theorem d_Law_apart_6 : decode method_6_code 6 = .ok (.iload_n 3, 1) := by decide +kernel
theorem d_Law_apart_7 : decode method_6_code 7 = .ok (.invokevirtual 26, 3) := by decide +kernel
theorem d_Law_apart_10 : decode method_6_code 10 = .ok (.i2l, 1) := by decide +kernel
theorem d_Law_apart_11 : decode method_6_code 11 = .ok (.lastore, 1) := by decide +kernel
theorem d_Law_apart_12 : decode method_6_code 12 = .ok (.goto 11, 3) := by decide +kernel
theorem d_Law_apart_15 : decode method_6_code 15 = .ok (.astore 5, 2) := by decide +kernel
theorem d_Law_apart_17 : decode method_6_code 17 = .ok (.iconst 1, 1) := by decide +kernel
theorem d_Law_apart_18 : decode method_6_code 18 = .ok (.ireturn, 1) := by decide +kernel
theorem d_Law_apart_19 : decode method_6_code 19 = .ok (.astore 5, 2) := by decide +kernel
theorem d_Law_apart_21 : decode method_6_code 21 = .ok (.iconst 2, 1) := by decide +kernel
theorem d_Law_apart_22 : decode method_6_code 22 = .ok (.ireturn, 1) := by decide +kernel
theorem d_Law_apart_23 : decode method_6_code 23 = .ok (.iconst 0, 1) := by decide +kernel
theorem d_Law_apart_24 : decode method_6_code 24 = .ok (.ireturn, 1) := by decide +kernel
theorem d_Law_at_0 : decode method_13_code 0 = .ok (.aload_n 3, 1) := by decide +kernel
theorem d_Law_at_1 : decode method_13_code 1 = .ok (.iconst 0, 1) := by decide +kernel
theorem d_Law_at_2 : decode method_13_code 2 = .ok (.aload_n 0, 1) := by decide +kernel
theorem d_Law_at_3 : decode method_13_code 3 = .ok (.iload_n 1, 1) := by decide +kernel
theorem d_Law_at_4 : decode method_13_code 4 = .ok (.iload_n 2, 1) := by decide +kernel
theorem d_Law_at_5 : decode method_13_code 5 = .ok (.invokevirtual 49, 3) := by decide +kernel
theorem d_Law_at_8 : decode method_13_code 8 = .ok (.i2l, 1) := by decide +kernel
theorem d_Law_at_9 : decode method_13_code 9 = .ok (.lastore, 1) := by decide +kernel
theorem d_Law_at_10 : decode method_13_code 10 = .ok (.goto 11, 3) := by decide +kernel
theorem d_Law_at_13 : decode method_13_code 13 = .ok (.astore 4, 2) := by decide +kernel
theorem d_Law_at_15 : decode method_13_code 15 = .ok (.iconst 1, 1) := by decide +kernel
theorem d_Law_at_16 : decode method_13_code 16 = .ok (.ireturn, 1) := by decide +kernel
theorem d_Law_at_17 : decode method_13_code 17 = .ok (.astore 4, 2) := by decide +kernel
theorem d_Law_at_19 : decode method_13_code 19 = .ok (.iconst 2, 1) := by decide +kernel
theorem d_Law_at_20 : decode method_13_code 20 = .ok (.ireturn, 1) := by decide +kernel
theorem d_Law_at_21 : decode method_13_code 21 = .ok (.iconst 0, 1) := by decide +kernel
theorem d_Law_at_22 : decode method_13_code 22 = .ok (.ireturn, 1) := by decide +kernel
theorem d_Law_cell_0 : decode method_2_code 0 = .ok (.iload_n 1, 1) := by decide +kernel
theorem d_Law_cell_1 : decode method_2_code 1 = .ok (.aload_n 0, 1) := by decide +kernel
theorem d_Law_cell_2 : decode method_2_code 2 = .ok (.arraylength, 1) := by decide +kernel
theorem d_Law_cell_3 : decode method_2_code 3 = .ok (.if_icmp .ge 9, 3) := by decide +kernel
theorem d_Law_cell_6 : decode method_2_code 6 = .ok (.aload_n 0, 1) := by decide +kernel
theorem d_Law_cell_7 : decode method_2_code 7 = .ok (.iload_n 1, 1) := by decide +kernel
theorem d_Law_cell_8 : decode method_2_code 8 = .ok (.iaload, 1) := by decide +kernel
theorem d_Law_cell_9 : decode method_2_code 9 = .ok (.goto 4, 3) := by decide +kernel
theorem d_Law_cell_12 : decode method_2_code 12 = .ok (.iconst 0, 1) := by decide +kernel
theorem d_Law_cell_13 : decode method_2_code 13 = .ok (.ireturn, 1) := by decide +kernel
theorem d_Law_count_0 : decode method_16_code 0 = .ok (.aload_n 2, 1) := by decide +kernel
theorem d_Law_count_1 : decode method_16_code 1 = .ok (.iconst 0, 1) := by decide +kernel
theorem d_Law_count_2 : decode method_16_code 2 = .ok (.aload_n 0, 1) := by decide +kernel
theorem d_Law_count_3 : decode method_16_code 3 = .ok (.iload_n 1, 1) := by decide +kernel
theorem d_Law_count_4 : decode method_16_code 4 = .ok (.invokevirtual 59, 3) := by decide +kernel
theorem d_Law_count_7 : decode method_16_code 7 = .ok (.i2l, 1) := by decide +kernel
theorem d_Law_count_8 : decode method_16_code 8 = .ok (.lastore, 1) := by decide +kernel
theorem d_Law_count_9 : decode method_16_code 9 = .ok (.goto 6, 3) := by decide +kernel
theorem d_Law_count_12 : decode method_16_code 12 = .ok (.astore_n 3, 1) := by decide +kernel
theorem d_Law_count_13 : decode method_16_code 13 = .ok (.iconst 1, 1) := by decide +kernel
theorem d_Law_count_14 : decode method_16_code 14 = .ok (.ireturn, 1) := by decide +kernel
theorem d_Law_count_15 : decode method_16_code 15 = .ok (.iconst 0, 1) := by decide +kernel
theorem d_Law_count_16 : decode method_16_code 16 = .ok (.ireturn, 1) := by decide +kernel
theorem d_Law_escape_0 : decode method_15_code 0 = .ok (.aload_n 3, 1) := by decide +kernel
theorem d_Law_escape_1 : decode method_15_code 1 = .ok (.iconst 0, 1) := by decide +kernel
theorem d_Law_escape_2 : decode method_15_code 2 = .ok (.aload_n 0, 1) := by decide +kernel
theorem d_Law_escape_3 : decode method_15_code 3 = .ok (.iload_n 1, 1) := by decide +kernel
theorem d_Law_escape_4 : decode method_15_code 4 = .ok (.iload_n 2, 1) := by decide +kernel
theorem d_Law_escape_5 : decode method_15_code 5 = .ok (.invokevirtual 56, 3) := by decide +kernel
theorem d_Law_escape_8 : decode method_15_code 8 = .ok (.i2l, 1) := by decide +kernel
theorem d_Law_escape_9 : decode method_15_code 9 = .ok (.lastore, 1) := by decide +kernel
theorem d_Law_escape_10 : decode method_15_code 10 = .ok (.goto 11, 3) := by decide +kernel
theorem d_Law_escape_13 : decode method_15_code 13 = .ok (.astore 4, 2) := by decide +kernel
theorem d_Law_escape_15 : decode method_15_code 15 = .ok (.iconst 1, 1) := by decide +kernel
theorem d_Law_escape_16 : decode method_15_code 16 = .ok (.ireturn, 1) := by decide +kernel
theorem d_Law_escape_17 : decode method_15_code 17 = .ok (.astore 4, 2) := by decide +kernel
theorem d_Law_escape_19 : decode method_15_code 19 = .ok (.iconst 2, 1) := by decide +kernel
theorem d_Law_escape_20 : decode method_15_code 20 = .ok (.ireturn, 1) := by decide +kernel
theorem d_Law_escape_21 : decode method_15_code 21 = .ok (.iconst 0, 1) := by decide +kernel
theorem d_Law_escape_22 : decode method_15_code 22 = .ok (.ireturn, 1) := by decide +kernel
theorem d_Law_exit_0 : decode method_10_code 0 = .ok (.aload_n 3, 1) := by decide +kernel
theorem d_Law_exit_1 : decode method_10_code 1 = .ok (.iconst 0, 1) := by decide +kernel
theorem d_Law_exit_2 : decode method_10_code 2 = .ok (.aload_n 0, 1) := by decide +kernel
theorem d_Law_exit_3 : decode method_10_code 3 = .ok (.iload_n 1, 1) := by decide +kernel
theorem d_Law_exit_4 : decode method_10_code 4 = .ok (.iload_n 2, 1) := by decide +kernel
theorem d_Law_exit_5 : decode method_10_code 5 = .ok (.invokevirtual 39, 3) := by decide +kernel
theorem d_Law_exit_8 : decode method_10_code 8 = .ok (.i2l, 1) := by decide +kernel
theorem d_Law_exit_9 : decode method_10_code 9 = .ok (.lastore, 1) := by decide +kernel
theorem d_Law_exit_10 : decode method_10_code 10 = .ok (.goto 15, 3) := by decide +kernel
theorem d_Law_exit_13 : decode method_10_code 13 = .ok (.astore 4, 2) := by decide +kernel
theorem d_Law_exit_15 : decode method_10_code 15 = .ok (.iconst 1, 1) := by decide +kernel
theorem d_Law_exit_16 : decode method_10_code 16 = .ok (.ireturn, 1) := by decide +kernel
theorem d_Law_exit_17 : decode method_10_code 17 = .ok (.astore 4, 2) := by decide +kernel
theorem d_Law_exit_19 : decode method_10_code 19 = .ok (.iconst 2, 1) := by decide +kernel
theorem d_Law_exit_20 : decode method_10_code 20 = .ok (.ireturn, 1) := by decide +kernel
theorem d_Law_exit_21 : decode method_10_code 21 = .ok (.astore 4, 2) := by decide +kernel
theorem d_Law_exit_23 : decode method_10_code 23 = .ok (.iconst 3, 1) := by decide +kernel
theorem d_Law_exit_24 : decode method_10_code 24 = .ok (.ireturn, 1) := by decide +kernel
theorem d_Law_exit_25 : decode method_10_code 25 = .ok (.iconst 0, 1) := by decide +kernel
theorem d_Law_exit_26 : decode method_10_code 26 = .ok (.ireturn, 1) := by decide +kernel
theorem d_Law_law_0 : decode code 0 = .ok (.new 8, 3) := by decide +kernel
theorem d_Law_law_3 : decode code 3 = .ok (.dup, 1) := by decide +kernel
theorem d_Law_law_4 : decode code 4 = .ok (.aload_n 0, 1) := by decide +kernel
theorem d_Law_law_5 : decode code 5 = .ok (.iconst 0, 1) := by decide +kernel
theorem d_Law_law_6 : decode code 6 = .ok (.invokestatic 62, 3) := by decide +kernel
theorem d_Law_law_9 : decode code 9 = .ok (.aload_n 0, 1) := by decide +kernel
theorem d_Law_law_10 : decode code 10 = .ok (.iconst 1, 1) := by decide +kernel
theorem d_Law_law_11 : decode code 11 = .ok (.invokestatic 62, 3) := by decide +kernel
theorem d_Law_law_14 : decode code 14 = .ok (.invokespecial 68, 3) := by decide +kernel
theorem d_Law_law_17 : decode code 17 = .ok (.astore_n 1, 1) := by decide +kernel
theorem d_Law_law_18 : decode code 18 = .ok (.new 71, 3) := by decide +kernel
theorem d_Law_law_21 : decode code 21 = .ok (.dup, 1) := by decide +kernel
theorem d_Law_law_22 : decode code 22 = .ok (.aload_n 0, 1) := by decide +kernel
theorem d_Law_law_23 : decode code 23 = .ok (.iconst 0, 1) := by decide +kernel
theorem d_Law_law_24 : decode code 24 = .ok (.invokestatic 62, 3) := by decide +kernel
theorem d_Law_law_27 : decode code 27 = .ok (.aload_n 0, 1) := by decide +kernel
theorem d_Law_law_28 : decode code 28 = .ok (.iconst 1, 1) := by decide +kernel
theorem d_Law_law_29 : decode code 29 = .ok (.invokestatic 62, 3) := by decide +kernel
theorem d_Law_law_32 : decode code 32 = .ok (.invokespecial 73, 3) := by decide +kernel
theorem d_Law_law_35 : decode code 35 = .ok (.astore_n 2, 1) := by decide +kernel
theorem d_Law_law_36 : decode code 36 = .ok (.iconst 1, 1) := by decide +kernel
theorem d_Law_law_37 : decode code 37 = .ok (.newarray .long, 2) := by decide +kernel
theorem d_Law_law_39 : decode code 39 = .ok (.astore_n 3, 1) := by decide +kernel
theorem d_Law_law_40 : decode code 40 = .ok (.iconst 2, 1) := by decide +kernel
theorem d_Law_law_41 : decode code 41 = .ok (.istore 4, 2) := by decide +kernel
theorem d_Law_law_43 : decode code 43 = .ok (.iload 4, 2) := by decide +kernel
theorem d_Law_law_45 : decode code 45 = .ok (.aload_n 0, 1) := by decide +kernel
theorem d_Law_law_46 : decode code 46 = .ok (.arraylength, 1) := by decide +kernel
theorem d_Law_law_47 : decode code 47 = .ok (.iconst 4, 1) := by decide +kernel
theorem d_Law_law_48 : decode code 48 = .ok (.isub, 1) := by decide +kernel
theorem d_Law_law_49 : decode code 49 = .ok (.if_icmp .gt 1160, 3) := by decide +kernel
theorem d_Law_law_52 : decode code 52 = .ok (.aload_n 0, 1) := by decide +kernel
theorem d_Law_law_53 : decode code 53 = .ok (.iload 4, 2) := by decide +kernel
theorem d_Law_law_55 : decode code 55 = .ok (.iaload, 1) := by decide +kernel
theorem d_Law_law_56 : decode code 56 = .ok (.bipush 15, 2) := by decide +kernel
theorem d_Law_law_58 : decode code 58 = .ok (.iand, 1) := by decide +kernel
theorem d_Law_law_59 : decode code 59 = .ok (.tableswitch 1144 0 15 #[77, 180, 260, 340, 420, 500, 568, 671, 739, 795, 851, 864, 932, 945, 1020, 1088], 77) := by decide +kernel
theorem d_Law_law_136 : decode code 136 = .ok (.aload_n 1, 1) := by decide +kernel
theorem d_Law_law_137 : decode code 137 = .ok (.aload_n 0, 1) := by decide +kernel
theorem d_Law_law_138 : decode code 138 = .ok (.iload 4, 2) := by decide +kernel
theorem d_Law_law_140 : decode code 140 = .ok (.iconst 1, 1) := by decide +kernel
theorem d_Law_law_141 : decode code 141 = .ok (.iadd, 1) := by decide +kernel
theorem d_Law_law_142 : decode code 142 = .ok (.iaload, 1) := by decide +kernel
theorem d_Law_law_143 : decode code 143 = .ok (.aload_n 0, 1) := by decide +kernel
theorem d_Law_law_144 : decode code 144 = .ok (.iload 4, 2) := by decide +kernel
theorem d_Law_law_146 : decode code 146 = .ok (.iconst 2, 1) := by decide +kernel
theorem d_Law_law_147 : decode code 147 = .ok (.iadd, 1) := by decide +kernel
theorem d_Law_law_148 : decode code 148 = .ok (.iaload, 1) := by decide +kernel
theorem d_Law_law_149 : decode code 149 = .ok (.aload_n 0, 1) := by decide +kernel
theorem d_Law_law_150 : decode code 150 = .ok (.iload 4, 2) := by decide +kernel
theorem d_Law_law_152 : decode code 152 = .ok (.iconst 3, 1) := by decide +kernel
theorem d_Law_law_153 : decode code 153 = .ok (.iadd, 1) := by decide +kernel
theorem d_Law_law_154 : decode code 154 = .ok (.iaload, 1) := by decide +kernel
theorem d_Law_law_155 : decode code 155 = .ok (.ifCond .eq 7, 3) := by decide +kernel
theorem d_Law_law_158 : decode code 158 = .ok (.iconst 1, 1) := by decide +kernel
theorem d_Law_law_159 : decode code 159 = .ok (.goto 4, 3) := by decide +kernel
theorem d_Law_law_162 : decode code 162 = .ok (.iconst 0, 1) := by decide +kernel
theorem d_Law_law_163 : decode code 163 = .ok (.aload_n 3, 1) := by decide +kernel
theorem d_Law_law_164 : decode code 164 = .ok (.invokestatic 74, 3) := by decide +kernel
theorem d_Law_law_167 : decode code 167 = .ok (.istore 5, 2) := by decide +kernel
theorem d_Law_law_169 : decode code 169 = .ok (.aload_n 2, 1) := by decide +kernel
theorem d_Law_law_170 : decode code 170 = .ok (.aload_n 0, 1) := by decide +kernel
theorem d_Law_law_171 : decode code 171 = .ok (.iload 4, 2) := by decide +kernel
theorem d_Law_law_173 : decode code 173 = .ok (.iconst 1, 1) := by decide +kernel
theorem d_Law_law_174 : decode code 174 = .ok (.iadd, 1) := by decide +kernel
theorem d_Law_law_175 : decode code 175 = .ok (.iaload, 1) := by decide +kernel
theorem d_Law_law_176 : decode code 176 = .ok (.aload_n 0, 1) := by decide +kernel
theorem d_Law_law_177 : decode code 177 = .ok (.iload 4, 2) := by decide +kernel
theorem d_Law_law_179 : decode code 179 = .ok (.iconst 2, 1) := by decide +kernel
theorem d_Law_law_180 : decode code 180 = .ok (.iadd, 1) := by decide +kernel
theorem d_Law_law_181 : decode code 181 = .ok (.iaload, 1) := by decide +kernel
theorem d_Law_law_182 : decode code 182 = .ok (.aload_n 0, 1) := by decide +kernel
theorem d_Law_law_183 : decode code 183 = .ok (.iload 4, 2) := by decide +kernel
theorem d_Law_law_185 : decode code 185 = .ok (.iconst 3, 1) := by decide +kernel
theorem d_Law_law_186 : decode code 186 = .ok (.iadd, 1) := by decide +kernel
theorem d_Law_law_187 : decode code 187 = .ok (.iaload, 1) := by decide +kernel
theorem d_Law_law_188 : decode code 188 = .ok (.ifCond .eq 7, 3) := by decide +kernel
theorem d_Law_law_191 : decode code 191 = .ok (.iconst 1, 1) := by decide +kernel
theorem d_Law_law_192 : decode code 192 = .ok (.goto 4, 3) := by decide +kernel
theorem d_Law_law_195 : decode code 195 = .ok (.iconst 0, 1) := by decide +kernel
theorem d_Law_law_196 : decode code 196 = .ok (.invokevirtual 77, 3) := by decide +kernel
theorem d_Law_law_199 : decode code 199 = .ok (.istore 6, 2) := by decide +kernel
theorem d_Law_law_201 : decode code 201 = .ok (.aload_n 2, 1) := by decide +kernel
theorem d_Law_law_202 : decode code 202 = .ok (.invokevirtual 78, 3) := by decide +kernel
theorem d_Law_law_205 : decode code 205 = .ok (.iload 5, 2) := by decide +kernel
theorem d_Law_law_207 : decode code 207 = .ok (.if_icmp .eq 5, 3) := by decide +kernel
theorem d_Law_law_210 : decode code 210 = .ok (.iconst 0, 1) := by decide +kernel
theorem d_Law_law_211 : decode code 211 = .ok (.ireturn, 1) := by decide +kernel
theorem d_Law_law_212 : decode code 212 = .ok (.iload 5, 2) := by decide +kernel
theorem d_Law_law_214 : decode code 214 = .ok (.ifCond .ne 22, 3) := by decide +kernel
theorem d_Law_law_217 : decode code 217 = .ok (.aload_n 3, 1) := by decide +kernel
theorem d_Law_law_218 : decode code 218 = .ok (.iconst 0, 1) := by decide +kernel
theorem d_Law_law_219 : decode code 219 = .ok (.laload, 1) := by decide +kernel
theorem d_Law_law_220 : decode code 220 = .ok (.iload 6, 2) := by decide +kernel
theorem d_Law_law_222 : decode code 222 = .ok (.ifCond .eq 7, 3) := by decide +kernel
theorem d_Law_law_225 : decode code 225 = .ok (.lconst 1, 1) := by decide +kernel
theorem d_Law_law_226 : decode code 226 = .ok (.goto 4, 3) := by decide +kernel
theorem d_Law_law_229 : decode code 229 = .ok (.lconst 0, 1) := by decide +kernel
theorem d_Law_law_230 : decode code 230 = .ok (.lcmp, 1) := by decide +kernel
theorem d_Law_law_231 : decode code 231 = .ok (.ifCond .eq 5, 3) := by decide +kernel
theorem d_Law_law_234 : decode code 234 = .ok (.iconst 0, 1) := by decide +kernel
theorem d_Law_law_235 : decode code 235 = .ok (.ireturn, 1) := by decide +kernel
theorem d_Law_law_236 : decode code 236 = .ok (.goto 967, 3) := by decide +kernel
theorem d_Law_law_239 : decode code 239 = .ok (.aload_n 1, 1) := by decide +kernel
theorem d_Law_law_240 : decode code 240 = .ok (.aload_n 0, 1) := by decide +kernel
theorem d_Law_law_241 : decode code 241 = .ok (.iload 4, 2) := by decide +kernel
theorem d_Law_law_243 : decode code 243 = .ok (.iconst 1, 1) := by decide +kernel
theorem d_Law_law_244 : decode code 244 = .ok (.iadd, 1) := by decide +kernel
theorem d_Law_law_245 : decode code 245 = .ok (.iaload, 1) := by decide +kernel
theorem d_Law_law_246 : decode code 246 = .ok (.aload_n 0, 1) := by decide +kernel
theorem d_Law_law_247 : decode code 247 = .ok (.iload 4, 2) := by decide +kernel
theorem d_Law_law_249 : decode code 249 = .ok (.iconst 2, 1) := by decide +kernel
theorem d_Law_law_250 : decode code 250 = .ok (.iadd, 1) := by decide +kernel
theorem d_Law_law_251 : decode code 251 = .ok (.iaload, 1) := by decide +kernel
theorem d_Law_law_252 : decode code 252 = .ok (.aload_n 0, 1) := by decide +kernel
theorem d_Law_law_253 : decode code 253 = .ok (.iload 4, 2) := by decide +kernel
theorem d_Law_law_255 : decode code 255 = .ok (.iconst 3, 1) := by decide +kernel
theorem d_Law_law_256 : decode code 256 = .ok (.iadd, 1) := by decide +kernel
theorem d_Law_law_257 : decode code 257 = .ok (.iaload, 1) := by decide +kernel
theorem d_Law_law_258 : decode code 258 = .ok (.aload_n 3, 1) := by decide +kernel
theorem d_Law_law_259 : decode code 259 = .ok (.invokestatic 82, 3) := by decide +kernel
theorem d_Law_law_262 : decode code 262 = .ok (.istore 5, 2) := by decide +kernel
theorem d_Law_law_264 : decode code 264 = .ok (.aload_n 2, 1) := by decide +kernel
theorem d_Law_law_265 : decode code 265 = .ok (.aload_n 0, 1) := by decide +kernel
theorem d_Law_law_266 : decode code 266 = .ok (.iload 4, 2) := by decide +kernel
theorem d_Law_law_268 : decode code 268 = .ok (.iconst 1, 1) := by decide +kernel
theorem d_Law_law_269 : decode code 269 = .ok (.iadd, 1) := by decide +kernel
theorem d_Law_law_270 : decode code 270 = .ok (.iaload, 1) := by decide +kernel
theorem d_Law_law_271 : decode code 271 = .ok (.aload_n 0, 1) := by decide +kernel
theorem d_Law_law_272 : decode code 272 = .ok (.iload 4, 2) := by decide +kernel
theorem d_Law_law_274 : decode code 274 = .ok (.iconst 2, 1) := by decide +kernel
theorem d_Law_law_275 : decode code 275 = .ok (.iadd, 1) := by decide +kernel
theorem d_Law_law_276 : decode code 276 = .ok (.iaload, 1) := by decide +kernel
theorem d_Law_law_277 : decode code 277 = .ok (.aload_n 0, 1) := by decide +kernel
theorem d_Law_law_278 : decode code 278 = .ok (.iload 4, 2) := by decide +kernel
theorem d_Law_law_280 : decode code 280 = .ok (.iconst 3, 1) := by decide +kernel
theorem d_Law_law_281 : decode code 281 = .ok (.iadd, 1) := by decide +kernel
theorem d_Law_law_282 : decode code 282 = .ok (.iaload, 1) := by decide +kernel
theorem d_Law_law_283 : decode code 283 = .ok (.invokevirtual 85, 3) := by decide +kernel
theorem d_Law_law_286 : decode code 286 = .ok (.istore 6, 2) := by decide +kernel
theorem d_Law_law_288 : decode code 288 = .ok (.aload_n 2, 1) := by decide +kernel
theorem d_Law_law_289 : decode code 289 = .ok (.invokevirtual 78, 3) := by decide +kernel
theorem d_Law_law_292 : decode code 292 = .ok (.iload 5, 2) := by decide +kernel
theorem d_Law_law_294 : decode code 294 = .ok (.if_icmp .eq 5, 3) := by decide +kernel
theorem d_Law_law_297 : decode code 297 = .ok (.iconst 0, 1) := by decide +kernel
