theorem d_CaseLayout_setBoth_15 : decode prog_1_method_28_code 15 = .ok (.iload_n 3, 1) := by decide +kernel
theorem d_CaseLayout_setBoth_16 : decode prog_1_method_28_code 16 = .ok (.iastore, 1) := by decide +kernel
theorem d_CaseLayout_setBoth_17 : decode prog_1_method_28_code 17 = .ok (.aload_n 0, 1) := by decide +kernel
theorem d_CaseLayout_setBoth_18 : decode prog_1_method_28_code 18 = .ok (.iload_n 2, 1) := by decide +kernel
theorem d_CaseLayout_setBoth_19 : decode prog_1_method_28_code 19 = .ok (.iload_n 1, 1) := by decide +kernel
theorem d_CaseLayout_setBoth_20 : decode prog_1_method_28_code 20 = .ok (.invokestatic 235, 3) := by decide +kernel
theorem d_CaseLayout_setBoth_23 : decode prog_1_method_28_code 23 = .ok (.iload_n 3, 1) := by decide +kernel
theorem d_CaseLayout_setBoth_24 : decode prog_1_method_28_code 24 = .ok (.iastore, 1) := by decide +kernel
theorem d_CaseLayout_setBoth_25 : decode prog_1_method_28_code 25 = .ok (.iload 4, 2) := by decide +kernel
theorem d_CaseLayout_setBoth_27 : decode prog_1_method_28_code 27 = .ok (.ireturn, 1) := by decide +kernel
theorem d_CaseLayout_sight_0 : decode prog_1_method_15_code 0 = .ok (.aload_n 0, 1) := by decide +kernel
theorem d_CaseLayout_sight_1 : decode prog_1_method_15_code 1 = .ok (.iload_n 1, 1) := by decide +kernel
theorem d_CaseLayout_sight_2 : decode prog_1_method_15_code 2 = .ok (.invokevirtual 129, 3) := by decide +kernel
theorem d_CaseLayout_sight_5 : decode prog_1_method_15_code 5 = .ok (.aload_n 0, 1) := by decide +kernel
theorem d_CaseLayout_sight_6 : decode prog_1_method_15_code 6 = .ok (.iload_n 2, 1) := by decide +kernel
theorem d_CaseLayout_sight_7 : decode prog_1_method_15_code 7 = .ok (.invokevirtual 133, 3) := by decide +kernel
theorem d_CaseLayout_sight_10 : decode prog_1_method_15_code 10 = .ok (.aload_n 0, 1) := by decide +kernel
theorem d_CaseLayout_sight_11 : decode prog_1_method_15_code 11 = .ok (.invokevirtual 172, 3) := by decide +kernel
theorem d_CaseLayout_sight_14 : decode prog_1_method_15_code 14 = .ok (.aload_n 0, 1) := by decide +kernel
theorem d_CaseLayout_sight_15 : decode prog_1_method_15_code 15 = .ok (.getfield 48, 3) := by decide +kernel
theorem d_CaseLayout_sight_18 : decode prog_1_method_15_code 18 = .ok (.aload_n 0, 1) := by decide +kernel
theorem d_CaseLayout_sight_19 : decode prog_1_method_15_code 19 = .ok (.getfield 57, 3) := by decide +kernel
theorem d_CaseLayout_sight_22 : decode prog_1_method_15_code 22 = .ok (.getfield 175, 3) := by decide +kernel
theorem d_CaseLayout_sight_25 : decode prog_1_method_15_code 25 = .ok (.invokevirtual 190, 3) := by decide +kernel
theorem d_CaseLayout_sight_28 : decode prog_1_method_15_code 28 = .ok (.aload_n 0, 1) := by decide +kernel
theorem d_CaseLayout_sight_29 : decode prog_1_method_15_code 29 = .ok (.getfield 48, 3) := by decide +kernel
theorem d_CaseLayout_sight_32 : decode prog_1_method_15_code 32 = .ok (.aload_n 0, 1) := by decide +kernel
theorem d_CaseLayout_sight_33 : decode prog_1_method_15_code 33 = .ok (.getfield 57, 3) := by decide +kernel
theorem d_CaseLayout_sight_36 : decode prog_1_method_15_code 36 = .ok (.getfield 175, 3) := by decide +kernel
theorem d_CaseLayout_sight_39 : decode prog_1_method_15_code 39 = .ok (.iload_n 2, 1) := by decide +kernel
theorem d_CaseLayout_sight_40 : decode prog_1_method_15_code 40 = .ok (.aload_n 0, 1) := by decide +kernel
theorem d_CaseLayout_sight_41 : decode prog_1_method_15_code 41 = .ok (.getfield 32, 3) := by decide +kernel
theorem d_CaseLayout_sight_44 : decode prog_1_method_15_code 44 = .ok (.getfield 194, 3) := by decide +kernel
theorem d_CaseLayout_sight_47 : decode prog_1_method_15_code 47 = .ok (.iload_n 1, 1) := by decide +kernel
theorem d_CaseLayout_sight_48 : decode prog_1_method_15_code 48 = .ok (.iaload, 1) := by decide +kernel
theorem d_CaseLayout_sight_49 : decode prog_1_method_15_code 49 = .ok (.aload_n 0, 1) := by decide +kernel
theorem d_CaseLayout_sight_50 : decode prog_1_method_15_code 50 = .ok (.getfield 32, 3) := by decide +kernel
theorem d_CaseLayout_sight_53 : decode prog_1_method_15_code 53 = .ok (.getfield 195, 3) := by decide +kernel
theorem d_CaseLayout_sight_56 : decode prog_1_method_15_code 56 = .ok (.iload_n 1, 1) := by decide +kernel
theorem d_CaseLayout_sight_57 : decode prog_1_method_15_code 57 = .ok (.iaload, 1) := by decide +kernel
theorem d_CaseLayout_sight_58 : decode prog_1_method_15_code 58 = .ok (.invokevirtual 196, 3) := by decide +kernel
theorem d_CaseLayout_sight_61 : decode prog_1_method_15_code 61 = .ok (.ireturn, 1) := by decide +kernel
theorem d_CaseLayout_sightOf_0 : decode prog_1_method_27_code 0 = .ok (.iload_n 0, 1) := by decide +kernel
theorem d_CaseLayout_sightOf_1 : decode prog_1_method_27_code 1 = .ok (.bipush 7, 2) := by decide +kernel
theorem d_CaseLayout_sightOf_3 : decode prog_1_method_27_code 3 = .ok (.imul, 1) := by decide +kernel
theorem d_CaseLayout_sightOf_4 : decode prog_1_method_27_code 4 = .ok (.iload_n 1, 1) := by decide +kernel
theorem d_CaseLayout_sightOf_5 : decode prog_1_method_27_code 5 = .ok (.iadd, 1) := by decide +kernel
theorem d_CaseLayout_sightOf_6 : decode prog_1_method_27_code 6 = .ok (.ireturn, 1) := by decide +kernel
theorem d_CaseLayout_thing_0 : decode prog_1_method_4_code 0 = .ok (.aload_n 0, 1) := by decide +kernel
theorem d_CaseLayout_thing_1 : decode prog_1_method_4_code 1 = .ok (.getfield 25, 3) := by decide +kernel
theorem d_CaseLayout_thing_4 : decode prog_1_method_4_code 4 = .ok (.getfield 92, 3) := by decide +kernel
theorem d_CaseLayout_thing_7 : decode prog_1_method_4_code 7 = .ok (.bipush 7, 2) := by decide +kernel
theorem d_CaseLayout_thing_9 : decode prog_1_method_4_code 9 = .ok (.if_icmp .lt 13, 3) := by decide +kernel
theorem d_CaseLayout_thing_12 : decode prog_1_method_4_code 12 = .ok (.new 96, 3) := by decide +kernel
theorem d_CaseLayout_thing_15 : decode prog_1_method_4_code 15 = .ok (.dup, 1) := by decide +kernel
theorem d_CaseLayout_thing_16 : decode prog_1_method_4_code 16 = .ok (.ldc 98, 2) := by decide +kernel
theorem d_CaseLayout_thing_18 : decode prog_1_method_4_code 18 = .ok (.invokespecial 100, 3) := by decide +kernel
theorem d_CaseLayout_thing_21 : decode prog_1_method_4_code 21 = .ok (.athrow, 1) := by decide +kernel
theorem d_CaseLayout_thing_22 : decode prog_1_method_4_code 22 = .ok (.iload_n 1, 1) := by decide +kernel
theorem d_CaseLayout_thing_23 : decode prog_1_method_4_code 23 = .ok (.iconst 1, 1) := by decide +kernel
theorem d_CaseLayout_thing_24 : decode prog_1_method_4_code 24 = .ok (.iconst 4, 1) := by decide +kernel
theorem d_CaseLayout_thing_25 : decode prog_1_method_4_code 25 = .ok (.invokestatic 84, 3) := by decide +kernel
theorem d_CaseLayout_thing_28 : decode prog_1_method_4_code 28 = .ok (.iload_n 2, 1) := by decide +kernel
theorem d_CaseLayout_thing_29 : decode prog_1_method_4_code 29 = .ok (.iconst 1, 1) := by decide +kernel
theorem d_CaseLayout_thing_30 : decode prog_1_method_4_code 30 = .ok (.iconst 4, 1) := by decide +kernel
theorem d_CaseLayout_thing_31 : decode prog_1_method_4_code 31 = .ok (.invokestatic 84, 3) := by decide +kernel
theorem d_CaseLayout_thing_34 : decode prog_1_method_4_code 34 = .ok (.iload_n 3, 1) := by decide +kernel
theorem d_CaseLayout_thing_35 : decode prog_1_method_4_code 35 = .ok (.iconst 0, 1) := by decide +kernel
theorem d_CaseLayout_thing_36 : decode prog_1_method_4_code 36 = .ok (.iconst 3, 1) := by decide +kernel
theorem d_CaseLayout_thing_37 : decode prog_1_method_4_code 37 = .ok (.invokestatic 84, 3) := by decide +kernel
theorem d_CaseLayout_thing_40 : decode prog_1_method_4_code 40 = .ok (.aload_n 0, 1) := by decide +kernel
theorem d_CaseLayout_thing_41 : decode prog_1_method_4_code 41 = .ok (.getfield 57, 3) := by decide +kernel
theorem d_CaseLayout_thing_44 : decode prog_1_method_4_code 44 = .ok (.invokevirtual 81, 3) := by decide +kernel
theorem d_CaseLayout_thing_47 : decode prog_1_method_4_code 47 = .ok (.aload_n 0, 1) := by decide +kernel
theorem d_CaseLayout_thing_48 : decode prog_1_method_4_code 48 = .ok (.getfield 25, 3) := by decide +kernel
theorem d_CaseLayout_thing_51 : decode prog_1_method_4_code 51 = .ok (.iload_n 1, 1) := by decide +kernel
theorem d_CaseLayout_thing_52 : decode prog_1_method_4_code 52 = .ok (.iload_n 2, 1) := by decide +kernel
theorem d_CaseLayout_thing_53 : decode prog_1_method_4_code 53 = .ok (.iload_n 3, 1) := by decide +kernel
theorem d_CaseLayout_thing_54 : decode prog_1_method_4_code 54 = .ok (.invokevirtual 103, 3) := by decide +kernel
theorem d_CaseLayout_thing_57 : decode prog_1_method_4_code 57 = .ok (.ireturn, 1) := by decide +kernel
theorem d_CaseLayout_wall_0 : decode prog_1_method_2_code 0 = .ok (.aload_n 0, 1) := by decide +kernel
theorem d_CaseLayout_wall_1 : decode prog_1_method_2_code 1 = .ok (.iload_n 1, 1) := by decide +kernel
theorem d_CaseLayout_wall_2 : decode prog_1_method_2_code 2 = .ok (.iload_n 2, 1) := by decide +kernel
theorem d_CaseLayout_wall_3 : decode prog_1_method_2_code 3 = .ok (.invokevirtual 61, 3) := by decide +kernel
theorem d_CaseLayout_wall_6 : decode prog_1_method_2_code 6 = .ok (.iload_n 1, 1) := by decide +kernel
theorem d_CaseLayout_wall_7 : decode prog_1_method_2_code 7 = .ok (.iload_n 2, 1) := by decide +kernel
theorem d_CaseLayout_wall_8 : decode prog_1_method_2_code 8 = .ok (.invokestatic 64, 3) := by decide +kernel
theorem d_CaseLayout_wall_11 : decode prog_1_method_2_code 11 = .ok (.istore 4, 2) := by decide +kernel
theorem d_CaseLayout_wall_13 : decode prog_1_method_2_code 13 = .ok (.aload_n 0, 1) := by decide +kernel
theorem d_CaseLayout_wall_14 : decode prog_1_method_2_code 14 = .ok (.getfield 18, 3) := by decide +kernel
theorem d_CaseLayout_wall_17 : decode prog_1_method_2_code 17 = .ok (.getfield 68, 3) := by decide +kernel
theorem d_CaseLayout_wall_20 : decode prog_1_method_2_code 20 = .ok (.iload 4, 2) := by decide +kernel
theorem d_CaseLayout_wall_22 : decode prog_1_method_2_code 22 = .ok (.baload, 1) := by decide +kernel
theorem d_CaseLayout_wall_23 : decode prog_1_method_2_code 23 = .ok (.iload_n 3, 1) := by decide +kernel
theorem d_CaseLayout_wall_24 : decode prog_1_method_2_code 24 = .ok (.if_icmp .eq 27, 3) := by decide +kernel
theorem d_CaseLayout_wall_27 : decode prog_1_method_2_code 27 = .ok (.aload_n 0, 1) := by decide +kernel
theorem d_CaseLayout_wall_28 : decode prog_1_method_2_code 28 = .ok (.getfield 32, 3) := by decide +kernel
theorem d_CaseLayout_wall_31 : decode prog_1_method_2_code 31 = .ok (.iload 4, 2) := by decide +kernel
theorem d_CaseLayout_wall_33 : decode prog_1_method_2_code 33 = .ok (.invokevirtual 72, 3) := by decide +kernel
theorem d_CaseLayout_wall_36 : decode prog_1_method_2_code 36 = .ok (.ifCond .ne 15, 3) := by decide +kernel
theorem d_CaseLayout_wall_39 : decode prog_1_method_2_code 39 = .ok (.aload_n 0, 1) := by decide +kernel
theorem d_CaseLayout_wall_40 : decode prog_1_method_2_code 40 = .ok (.getfield 39, 3) := by decide +kernel
theorem d_CaseLayout_wall_43 : decode prog_1_method_2_code 43 = .ok (.iload 4, 2) := by decide +kernel
theorem d_CaseLayout_wall_45 : decode prog_1_method_2_code 45 = .ok (.invokevirtual 76, 3) := by decide +kernel
theorem d_CaseLayout_wall_48 : decode prog_1_method_2_code 48 = .ok (.ifCond .eq 5, 3) := by decide +kernel
theorem d_CaseLayout_wall_51 : decode prog_1_method_2_code 51 = .ok (.iconst 0, 1) := by decide +kernel
theorem d_CaseLayout_wall_52 : decode prog_1_method_2_code 52 = .ok (.ireturn, 1) := by decide +kernel
theorem d_CaseLayout_wall_53 : decode prog_1_method_2_code 53 = .ok (.aload_n 0, 1) := by decide +kernel
theorem d_CaseLayout_wall_54 : decode prog_1_method_2_code 54 = .ok (.getfield 18, 3) := by decide +kernel
theorem d_CaseLayout_wall_57 : decode prog_1_method_2_code 57 = .ok (.iload 4, 2) := by decide +kernel
theorem d_CaseLayout_wall_59 : decode prog_1_method_2_code 59 = .ok (.iload_n 3, 1) := by decide +kernel
theorem d_CaseLayout_wall_60 : decode prog_1_method_2_code 60 = .ok (.invokevirtual 77, 3) := by decide +kernel
theorem d_CaseLayout_wall_63 : decode prog_1_method_2_code 63 = .ok (.aload_n 0, 1) := by decide +kernel
theorem d_CaseLayout_wall_64 : decode prog_1_method_2_code 64 = .ok (.getfield 57, 3) := by decide +kernel
theorem d_CaseLayout_wall_67 : decode prog_1_method_2_code 67 = .ok (.invokevirtual 81, 3) := by decide +kernel
theorem d_CaseLayout_wall_70 : decode prog_1_method_2_code 70 = .ok (.iconst 1, 1) := by decide +kernel
theorem d_CaseLayout_wall_71 : decode prog_1_method_2_code 71 = .ok (.ireturn, 1) := by decide +kernel
theorem d_CaseLayout_wish_0 : decode prog_1_method_6_code 0 = .ok (.aload_n 0, 1) := by decide +kernel
theorem d_CaseLayout_wish_1 : decode prog_1_method_6_code 1 = .ok (.iload_n 1, 1) := by decide +kernel
theorem d_CaseLayout_wish_2 : decode prog_1_method_6_code 2 = .ok (.iload_n 2, 1) := by decide +kernel
theorem d_CaseLayout_wish_3 : decode prog_1_method_6_code 3 = .ok (.invokevirtual 106, 3) := by decide +kernel
theorem d_CaseLayout_wish_6 : decode prog_1_method_6_code 6 = .ok (.iload_n 3, 1) := by decide +kernel
theorem d_CaseLayout_wish_7 : decode prog_1_method_6_code 7 = .ok (.iconst 0, 1) := by decide +kernel
theorem d_CaseLayout_wish_8 : decode prog_1_method_6_code 8 = .ok (.bipush 99, 2) := by decide +kernel
theorem d_CaseLayout_wish_10 : decode prog_1_method_6_code 10 = .ok (.invokestatic 84, 3) := by decide +kernel
theorem d_CaseLayout_wish_13 : decode prog_1_method_6_code 13 = .ok (.aload_n 0, 1) := by decide +kernel
theorem d_CaseLayout_wish_14 : decode prog_1_method_6_code 14 = .ok (.getfield 57, 3) := by decide +kernel
theorem d_CaseLayout_wish_17 : decode prog_1_method_6_code 17 = .ok (.invokevirtual 81, 3) := by decide +kernel
theorem d_CaseLayout_wish_20 : decode prog_1_method_6_code 20 = .ok (.aload_n 0, 1) := by decide +kernel
theorem d_CaseLayout_wish_21 : decode prog_1_method_6_code 21 = .ok (.getfield 25, 3) := by decide +kernel
theorem d_CaseLayout_wish_24 : decode prog_1_method_6_code 24 = .ok (.getfield 116, 3) := by decide +kernel
theorem d_CaseLayout_wish_27 : decode prog_1_method_6_code 27 = .ok (.iload_n 1, 1) := by decide +kernel
theorem d_CaseLayout_wish_28 : decode prog_1_method_6_code 28 = .ok (.iload_n 2, 1) := by decide +kernel
theorem d_CaseLayout_wish_29 : decode prog_1_method_6_code 29 = .ok (.iload_n 3, 1) := by decide +kernel
theorem d_CaseLayout_wish_30 : decode prog_1_method_6_code 30 = .ok (.invokestatic 112, 3) := by decide +kernel
theorem d_CaseLayout_wish_33 : decode prog_1_method_6_code 33 = .ok (.ireturn, 1) := by decide +kernel
theorem d_CaseLayout_within_0 : decode prog_1_method_24_code 0 = .ok (.iload_n 1, 1) := by decide +kernel
theorem d_CaseLayout_within_1 : decode prog_1_method_24_code 1 = .ok (.iload_n 2, 1) := by decide +kernel
theorem d_CaseLayout_within_2 : decode prog_1_method_24_code 2 = .ok (.iload_n 0, 1) := by decide +kernel
theorem d_CaseLayout_within_3 : decode prog_1_method_24_code 3 = .ok (.invokestatic 227, 3) := by decide +kernel
theorem d_CaseLayout_within_6 : decode prog_1_method_24_code 6 = .ok (.invokestatic 232, 3) := by decide +kernel
theorem d_CaseLayout_within_9 : decode prog_1_method_24_code 9 = .ok (.ireturn, 1) := by decide +kernel
theorem d_CaseLayout_worth_0 : decode prog_1_method_14_code 0 = .ok (.aload_n 0, 1) := by decide +kernel
theorem d_CaseLayout_worth_1 : decode prog_1_method_14_code 1 = .ok (.getfield 57, 3) := by decide +kernel
theorem d_CaseLayout_worth_4 : decode prog_1_method_14_code 4 = .ok (.getfield 187, 3) := by decide +kernel
theorem d_CaseLayout_worth_7 : decode prog_1_method_14_code 7 = .ok (.ireturn, 1) := by decide +kernel
theorem d_CaseLayout_zone_0 : decode prog_1_method_3_code 0 = .ok (.aload_n 0, 1) := by decide +kernel
theorem d_CaseLayout_zone_1 : decode prog_1_method_3_code 1 = .ok (.iload_n 1, 1) := by decide +kernel
theorem d_CaseLayout_zone_2 : decode prog_1_method_3_code 2 = .ok (.iload_n 2, 1) := by decide +kernel
theorem d_CaseLayout_zone_3 : decode prog_1_method_3_code 3 = .ok (.invokevirtual 61, 3) := by decide +kernel
theorem d_CaseLayout_zone_6 : decode prog_1_method_3_code 6 = .ok (.iload_n 3, 1) := by decide +kernel
theorem d_CaseLayout_zone_7 : decode prog_1_method_3_code 7 = .ok (.iconst 0, 1) := by decide +kernel
theorem d_CaseLayout_zone_8 : decode prog_1_method_3_code 8 = .ok (.iconst 3, 1) := by decide +kernel
theorem d_CaseLayout_zone_9 : decode prog_1_method_3_code 9 = .ok (.invokestatic 84, 3) := by decide +kernel
theorem d_CaseLayout_zone_12 : decode prog_1_method_3_code 12 = .ok (.iload_n 1, 1) := by decide +kernel
theorem d_CaseLayout_zone_13 : decode prog_1_method_3_code 13 = .ok (.iload_n 2, 1) := by decide +kernel
theorem d_CaseLayout_zone_14 : decode prog_1_method_3_code 14 = .ok (.invokestatic 64, 3) := by decide +kernel
theorem d_CaseLayout_zone_17 : decode prog_1_method_3_code 17 = .ok (.istore 4, 2) := by decide +kernel
theorem d_CaseLayout_zone_19 : decode prog_1_method_3_code 19 = .ok (.aload_n 0, 1) := by decide +kernel
theorem d_CaseLayout_zone_20 : decode prog_1_method_3_code 20 = .ok (.getfield 18, 3) := by decide +kernel
theorem d_CaseLayout_zone_23 : decode prog_1_method_3_code 23 = .ok (.getfield 88, 3) := by decide +kernel
theorem d_CaseLayout_zone_26 : decode prog_1_method_3_code 26 = .ok (.iload 4, 2) := by decide +kernel
theorem d_CaseLayout_zone_28 : decode prog_1_method_3_code 28 = .ok (.iaload, 1) := by decide +kernel
theorem d_CaseLayout_zone_29 : decode prog_1_method_3_code 29 = .ok (.istore 5, 2) := by decide +kernel
theorem d_CaseLayout_zone_31 : decode prog_1_method_3_code 31 = .ok (.aload_n 0, 1) := by decide +kernel
theorem d_CaseLayout_zone_32 : decode prog_1_method_3_code 32 = .ok (.getfield 18, 3) := by decide +kernel
theorem d_CaseLayout_zone_35 : decode prog_1_method_3_code 35 = .ok (.getfield 88, 3) := by decide +kernel
theorem d_CaseLayout_zone_38 : decode prog_1_method_3_code 38 = .ok (.iload 4, 2) := by decide +kernel
theorem d_CaseLayout_zone_40 : decode prog_1_method_3_code 40 = .ok (.iload_n 3, 1) := by decide +kernel
theorem d_CaseLayout_zone_41 : decode prog_1_method_3_code 41 = .ok (.iastore, 1) := by decide +kernel
theorem d_CaseLayout_zone_42 : decode prog_1_method_3_code 42 = .ok (.aload_n 0, 1) := by decide +kernel
theorem d_CaseLayout_zone_43 : decode prog_1_method_3_code 43 = .ok (.getfield 57, 3) := by decide +kernel
theorem d_CaseLayout_zone_46 : decode prog_1_method_3_code 46 = .ok (.invokevirtual 81, 3) := by decide +kernel
theorem d_CaseLayout_zone_49 : decode prog_1_method_3_code 49 = .ok (.iload 5, 2) := by decide +kernel
theorem d_CaseLayout_zone_51 : decode prog_1_method_3_code 51 = .ok (.ireturn, 1) := by decide +kernel
theorem d_Exits_init_0 : decode prog_2_method_1_code 0 = .ok (.aload_n 0, 1) := by decide +kernel
theorem d_Exits_init_1 : decode prog_2_method_1_code 1 = .ok (.invokespecial 3, 3) := by decide +kernel
theorem d_Exits_init_4 : decode prog_2_method_1_code 4 = .ok (.aload_n 0, 1) := by decide +kernel
theorem d_Exits_init_5 : decode prog_2_method_1_code 5 = .ok (.bipush 6, 2) := by decide +kernel
theorem d_Exits_init_7 : decode prog_2_method_1_code 7 = .ok (.newarray .int, 2) := by decide +kernel
theorem d_Exits_init_9 : decode prog_2_method_1_code 9 = .ok (.putfield 9, 3) := by decide +kernel
theorem d_Exits_init_12 : decode prog_2_method_1_code 12 = .ok (.aload_n 0, 1) := by decide +kernel
theorem d_Exits_init_13 : decode prog_2_method_1_code 13 = .ok (.iconst 0, 1) := by decide +kernel
theorem d_Exits_init_14 : decode prog_2_method_1_code 14 = .ok (.putfield 15, 3) := by decide +kernel
theorem d_Exits_init_17 : decode prog_2_method_1_code 17 = .ok (.aload_n 0, 1) := by decide +kernel
theorem d_Exits_init_18 : decode prog_2_method_1_code 18 = .ok (.bipush 99, 2) := by decide +kernel
theorem d_Exits_init_20 : decode prog_2_method_1_code 20 = .ok (.putfield 19, 3) := by decide +kernel
theorem d_Exits_init_23 : decode prog_2_method_1_code 23 = .ok (.return_, 1) := by decide +kernel
theorem d_Exits_add_0 : decode prog_2_method_2_code 0 = .ok (.aload_n 0, 1) := by decide +kernel
theorem d_Exits_add_1 : decode prog_2_method_2_code 1 = .ok (.getfield 9, 3) := by decide +kernel
theorem d_Exits_add_4 : decode prog_2_method_2_code 4 = .ok (.aload_n 0, 1) := by decide +kernel
theorem d_Exits_add_5 : decode prog_2_method_2_code 5 = .ok (.getfield 15, 3) := by decide +kernel
theorem d_Exits_add_8 : decode prog_2_method_2_code 8 = .ok (.iload_n 1, 1) := by decide +kernel
theorem d_Exits_add_9 : decode prog_2_method_2_code 9 = .ok (.iastore, 1) := by decide +kernel
theorem d_Exits_add_10 : decode prog_2_method_2_code 10 = .ok (.aload_n 0, 1) := by decide +kernel
theorem d_Exits_add_11 : decode prog_2_method_2_code 11 = .ok (.dup, 1) := by decide +kernel
theorem d_Exits_add_12 : decode prog_2_method_2_code 12 = .ok (.getfield 15, 3) := by decide +kernel
theorem d_Exits_add_15 : decode prog_2_method_2_code 15 = .ok (.iconst 1, 1) := by decide +kernel
theorem d_Exits_add_16 : decode prog_2_method_2_code 16 = .ok (.iadd, 1) := by decide +kernel
theorem d_Exits_add_17 : decode prog_2_method_2_code 17 = .ok (.putfield 15, 3) := by decide +kernel
theorem d_Exits_add_20 : decode prog_2_method_2_code 20 = .ok (.aload_n 0, 1) := by decide +kernel
theorem d_Exits_add_21 : decode prog_2_method_2_code 21 = .ok (.getfield 15, 3) := by decide +kernel
theorem d_Exits_add_24 : decode prog_2_method_2_code 24 = .ok (.ireturn, 1) := by decide +kernel
theorem d_Exits_standOn_0 : decode prog_2_method_3_code 0 = .ok (.iconst 0, 1) := by decide +kernel
theorem d_Exits_standOn_1 : decode prog_2_method_3_code 1 = .ok (.istore_n 2, 1) := by decide +kernel
theorem d_Exits_standOn_2 : decode prog_2_method_3_code 2 = .ok (.iload_n 2, 1) := by decide +kernel
theorem d_Exits_standOn_3 : decode prog_2_method_3_code 3 = .ok (.aload_n 0, 1) := by decide +kernel
theorem d_Exits_standOn_4 : decode prog_2_method_3_code 4 = .ok (.getfield 15, 3) := by decide +kernel
theorem d_Exits_standOn_7 : decode prog_2_method_3_code 7 = .ok (.if_icmp .ge 21, 3) := by decide +kernel
theorem d_Exits_standOn_10 : decode prog_2_method_3_code 10 = .ok (.aload_n 0, 1) := by decide +kernel
theorem d_Exits_standOn_11 : decode prog_2_method_3_code 11 = .ok (.getfield 9, 3) := by decide +kernel
theorem d_Exits_standOn_14 : decode prog_2_method_3_code 14 = .ok (.iload_n 2, 1) := by decide +kernel
theorem d_Exits_standOn_15 : decode prog_2_method_3_code 15 = .ok (.iaload, 1) := by decide +kernel
theorem d_Exits_standOn_16 : decode prog_2_method_3_code 16 = .ok (.iload_n 1, 1) := by decide +kernel
theorem d_Exits_standOn_17 : decode prog_2_method_3_code 17 = .ok (.if_icmp .ne 5, 3) := by decide +kernel
theorem d_Exits_standOn_20 : decode prog_2_method_3_code 20 = .ok (.iconst 1, 1) := by decide +kernel
theorem d_Exits_standOn_21 : decode prog_2_method_3_code 21 = .ok (.ireturn, 1) := by decide +kernel
theorem d_Exits_standOn_22 : decode prog_2_method_3_code 22 = .ok (.iinc 2 1, 3) := by decide +kernel
theorem d_Exits_standOn_25 : decode prog_2_method_3_code 25 = .ok (.goto (-23), 3) := by decide +kernel
theorem d_Exits_standOn_28 : decode prog_2_method_3_code 28 = .ok (.iconst 0, 1) := by decide +kernel
theorem d_Exits_standOn_29 : decode prog_2_method_3_code 29 = .ok (.ireturn, 1) := by decide +kernel
theorem d_Floor_init_0 : decode prog_3_method_1_code 0 = .ok (.aload_n 0, 1) := by decide +kernel
theorem d_Floor_init_1 : decode prog_3_method_1_code 1 = .ok (.invokespecial 3, 3) := by decide +kernel
theorem d_Floor_init_4 : decode prog_3_method_1_code 4 = .ok (.aload_n 0, 1) := by decide +kernel
theorem d_Floor_init_5 : decode prog_3_method_1_code 5 = .ok (.bipush 81, 2) := by decide +kernel
theorem d_Floor_init_7 : decode prog_3_method_1_code 7 = .ok (.newarray .int, 2) := by decide +kernel
theorem d_Floor_init_9 : decode prog_3_method_1_code 9 = .ok (.putfield 9, 3) := by decide +kernel
theorem d_Floor_init_12 : decode prog_3_method_1_code 12 = .ok (.aload_n 0, 1) := by decide +kernel
theorem d_Floor_init_13 : decode prog_3_method_1_code 13 = .ok (.bipush 81, 2) := by decide +kernel
theorem d_Floor_init_15 : decode prog_3_method_1_code 15 = .ok (.newarray .int, 2) := by decide +kernel
theorem d_Floor_init_17 : decode prog_3_method_1_code 17 = .ok (.putfield 15, 3) := by decide +kernel
theorem d_Floor_init_20 : decode prog_3_method_1_code 20 = .ok (.aload_n 0, 1) := by decide +kernel
theorem d_Floor_init_21 : decode prog_3_method_1_code 21 = .ok (.bipush 81, 2) := by decide +kernel
theorem d_Floor_init_23 : decode prog_3_method_1_code 23 = .ok (.newarray .int, 2) := by decide +kernel
theorem d_Floor_init_25 : decode prog_3_method_1_code 25 = .ok (.putfield 18, 3) := by decide +kernel
theorem d_Floor_init_28 : decode prog_3_method_1_code 28 = .ok (.aload_n 0, 1) := by decide +kernel
theorem d_Floor_init_29 : decode prog_3_method_1_code 29 = .ok (.iconst 0, 1) := by decide +kernel
theorem d_Floor_init_30 : decode prog_3_method_1_code 30 = .ok (.putfield 21, 3) := by decide +kernel
theorem d_Floor_init_33 : decode prog_3_method_1_code 33 = .ok (.aload_n 0, 1) := by decide +kernel
theorem d_Floor_init_34 : decode prog_3_method_1_code 34 = .ok (.aload_n 1, 1) := by decide +kernel
theorem d_Floor_init_35 : decode prog_3_method_1_code 35 = .ok (.putfield 25, 3) := by decide +kernel
theorem d_Floor_init_38 : decode prog_3_method_1_code 38 = .ok (.return_, 1) := by decide +kernel
theorem d_Floor_cover_0 : decode prog_3_method_3_code 0 = .ok (.aload_n 1, 1) := by decide +kernel
theorem d_Floor_cover_1 : decode prog_3_method_3_code 1 = .ok (.getfield 50, 3) := by decide +kernel
theorem d_Floor_cover_4 : decode prog_3_method_3_code 4 = .ok (.iload_n 2, 1) := by decide +kernel
theorem d_Floor_cover_5 : decode prog_3_method_3_code 5 = .ok (.iaload, 1) := by decide +kernel
theorem d_Floor_cover_6 : decode prog_3_method_3_code 6 = .ok (.istore_n 3, 1) := by decide +kernel
theorem d_Floor_cover_7 : decode prog_3_method_3_code 7 = .ok (.aload_n 1, 1) := by decide +kernel
theorem d_Floor_cover_8 : decode prog_3_method_3_code 8 = .ok (.getfield 53, 3) := by decide +kernel
theorem d_Floor_cover_11 : decode prog_3_method_3_code 11 = .ok (.iload_n 2, 1) := by decide +kernel
theorem d_Floor_cover_12 : decode prog_3_method_3_code 12 = .ok (.iaload, 1) := by decide +kernel
theorem d_Floor_cover_13 : decode prog_3_method_3_code 13 = .ok (.istore 4, 2) := by decide +kernel
theorem d_Floor_cover_15 : decode prog_3_method_3_code 15 = .ok (.iload 4, 2) := by decide +kernel
theorem d_Floor_cover_17 : decode prog_3_method_3_code 17 = .ok (.istore 5, 2) := by decide +kernel
theorem d_Floor_cover_19 : decode prog_3_method_3_code 19 = .ok (.iload 5, 2) := by decide +kernel
theorem d_Floor_cover_21 : decode prog_3_method_3_code 21 = .ok (.iload 4, 2) := by decide +kernel
theorem d_Floor_cover_23 : decode prog_3_method_3_code 23 = .ok (.aload_n 1, 1) := by decide +kernel
theorem d_Floor_cover_24 : decode prog_3_method_3_code 24 = .ok (.getfield 35, 3) := by decide +kernel
theorem d_Floor_cover_27 : decode prog_3_method_3_code 27 = .ok (.getfield 56, 3) := by decide +kernel
theorem d_Floor_cover_30 : decode prog_3_method_3_code 30 = .ok (.iload_n 2, 1) := by decide +kernel
theorem d_Floor_cover_31 : decode prog_3_method_3_code 31 = .ok (.iaload, 1) := by decide +kernel
theorem d_Floor_cover_32 : decode prog_3_method_3_code 32 = .ok (.iadd, 1) := by decide +kernel
theorem d_Floor_cover_33 : decode prog_3_method_3_code 33 = .ok (.if_icmp .ge 61, 3) := by decide +kernel
theorem d_Floor_cover_36 : decode prog_3_method_3_code 36 = .ok (.iload_n 3, 1) := by decide +kernel
theorem d_Floor_cover_37 : decode prog_3_method_3_code 37 = .ok (.istore 6, 2) := by decide +kernel
theorem d_Floor_cover_39 : decode prog_3_method_3_code 39 = .ok (.iload 6, 2) := by decide +kernel
theorem d_Floor_cover_41 : decode prog_3_method_3_code 41 = .ok (.iload_n 3, 1) := by decide +kernel
theorem d_Floor_cover_42 : decode prog_3_method_3_code 42 = .ok (.aload_n 1, 1) := by decide +kernel
theorem d_Floor_cover_43 : decode prog_3_method_3_code 43 = .ok (.getfield 35, 3) := by decide +kernel
theorem d_Floor_cover_46 : decode prog_3_method_3_code 46 = .ok (.getfield 59, 3) := by decide +kernel
theorem d_Floor_cover_49 : decode prog_3_method_3_code 49 = .ok (.iload_n 2, 1) := by decide +kernel
theorem d_Floor_cover_50 : decode prog_3_method_3_code 50 = .ok (.iaload, 1) := by decide +kernel
theorem d_Floor_cover_51 : decode prog_3_method_3_code 51 = .ok (.iadd, 1) := by decide +kernel
theorem d_Floor_cover_52 : decode prog_3_method_3_code 52 = .ok (.if_icmp .ge 36, 3) := by decide +kernel
theorem d_Floor_cover_55 : decode prog_3_method_3_code 55 = .ok (.aload_n 0, 1) := by decide +kernel
theorem d_Floor_cover_56 : decode prog_3_method_3_code 56 = .ok (.getfield 25, 3) := by decide +kernel
theorem d_Floor_cover_59 : decode prog_3_method_3_code 59 = .ok (.iload 6, 2) := by decide +kernel
theorem d_Floor_cover_61 : decode prog_3_method_3_code 61 = .ok (.iload 5, 2) := by decide +kernel
theorem d_Floor_cover_63 : decode prog_3_method_3_code 63 = .ok (.invokevirtual 62, 3) := by decide +kernel
theorem d_Floor_cover_66 : decode prog_3_method_3_code 66 = .ok (.ifCond .eq 16, 3) := by decide +kernel
theorem d_Floor_cover_69 : decode prog_3_method_3_code 69 = .ok (.aload_n 0, 1) := by decide +kernel
theorem d_Floor_cover_70 : decode prog_3_method_3_code 70 = .ok (.getfield 9, 3) := by decide +kernel
theorem d_Floor_cover_73 : decode prog_3_method_3_code 73 = .ok (.iload 6, 2) := by decide +kernel
theorem d_Floor_cover_75 : decode prog_3_method_3_code 75 = .ok (.iload 5, 2) := by decide +kernel
theorem d_Floor_cover_77 : decode prog_3_method_3_code 77 = .ok (.invokestatic 66, 3) := by decide +kernel
theorem d_Floor_cover_80 : decode prog_3_method_3_code 80 = .ok (.iload_n 2, 1) := by decide +kernel
theorem d_Floor_cover_81 : decode prog_3_method_3_code 81 = .ok (.iastore, 1) := by decide +kernel
theorem d_Floor_cover_82 : decode prog_3_method_3_code 82 = .ok (.iinc 6 1, 3) := by decide +kernel
theorem d_Floor_cover_85 : decode prog_3_method_3_code 85 = .ok (.goto (-46), 3) := by decide +kernel
theorem d_Floor_cover_88 : decode prog_3_method_3_code 88 = .ok (.iinc 5 1, 3) := by decide +kernel
theorem d_Floor_cover_91 : decode prog_3_method_3_code 91 = .ok (.goto (-72), 3) := by decide +kernel
theorem d_Floor_cover_94 : decode prog_3_method_3_code 94 = .ok (.return_, 1) := by decide +kernel
theorem d_Floor_hasEscape_0 : decode prog_3_method_9_code 0 = .ok (.aload_n 1, 1) := by decide +kernel
theorem d_Floor_hasEscape_1 : decode prog_3_method_9_code 1 = .ok (.getfield 50, 3) := by decide +kernel
theorem d_Floor_hasEscape_4 : decode prog_3_method_9_code 4 = .ok (.iload_n 2, 1) := by decide +kernel
theorem d_Floor_hasEscape_5 : decode prog_3_method_9_code 5 = .ok (.iaload, 1) := by decide +kernel
theorem d_Floor_hasEscape_6 : decode prog_3_method_9_code 6 = .ok (.istore 4, 2) := by decide +kernel
theorem d_Floor_hasEscape_8 : decode prog_3_method_9_code 8 = .ok (.aload_n 1, 1) := by decide +kernel
theorem d_Floor_hasEscape_9 : decode prog_3_method_9_code 9 = .ok (.getfield 53, 3) := by decide +kernel
theorem d_Floor_hasEscape_12 : decode prog_3_method_9_code 12 = .ok (.iload_n 2, 1) := by decide +kernel
theorem d_Floor_hasEscape_13 : decode prog_3_method_9_code 13 = .ok (.iaload, 1) := by decide +kernel
theorem d_Floor_hasEscape_14 : decode prog_3_method_9_code 14 = .ok (.istore 5, 2) := by decide +kernel
theorem d_Floor_hasEscape_16 : decode prog_3_method_9_code 16 = .ok (.aload_n 1, 1) := by decide +kernel
theorem d_Floor_hasEscape_17 : decode prog_3_method_9_code 17 = .ok (.getfield 35, 3) := by decide +kernel
theorem d_Floor_hasEscape_20 : decode prog_3_method_9_code 20 = .ok (.getfield 59, 3) := by decide +kernel
theorem d_Floor_hasEscape_23 : decode prog_3_method_9_code 23 = .ok (.iload_n 2, 1) := by decide +kernel
theorem d_Floor_hasEscape_24 : decode prog_3_method_9_code 24 = .ok (.iaload, 1) := by decide +kernel
theorem d_Floor_hasEscape_25 : decode prog_3_method_9_code 25 = .ok (.istore 6, 2) := by decide +kernel
theorem d_Floor_hasEscape_27 : decode prog_3_method_9_code 27 = .ok (.aload_n 1, 1) := by decide +kernel
theorem d_Floor_hasEscape_28 : decode prog_3_method_9_code 28 = .ok (.getfield 35, 3) := by decide +kernel
theorem d_Floor_hasEscape_31 : decode prog_3_method_9_code 31 = .ok (.getfield 56, 3) := by decide +kernel
theorem d_Floor_hasEscape_34 : decode prog_3_method_9_code 34 = .ok (.iload_n 2, 1) := by decide +kernel
theorem d_Floor_hasEscape_35 : decode prog_3_method_9_code 35 = .ok (.iaload, 1) := by decide +kernel
theorem d_Floor_hasEscape_36 : decode prog_3_method_9_code 36 = .ok (.istore 7, 2) := by decide +kernel
theorem d_Floor_hasEscape_38 : decode prog_3_method_9_code 38 = .ok (.iload 5, 2) := by decide +kernel
theorem d_Floor_hasEscape_40 : decode prog_3_method_9_code 40 = .ok (.istore 8, 2) := by decide +kernel
theorem d_Floor_hasEscape_42 : decode prog_3_method_9_code 42 = .ok (.iload 8, 2) := by decide +kernel
theorem d_Floor_hasEscape_44 : decode prog_3_method_9_code 44 = .ok (.iload 5, 2) := by decide +kernel
theorem d_Floor_hasEscape_46 : decode prog_3_method_9_code 46 = .ok (.iload 7, 2) := by decide +kernel
theorem d_Floor_hasEscape_48 : decode prog_3_method_9_code 48 = .ok (.iadd, 1) := by decide +kernel
theorem d_Floor_hasEscape_49 : decode prog_3_method_9_code 49 = .ok (.if_icmp .ge 40, 3) := by decide +kernel
theorem d_Floor_hasEscape_52 : decode prog_3_method_9_code 52 = .ok (.aload_n 0, 1) := by decide +kernel
theorem d_Floor_hasEscape_53 : decode prog_3_method_9_code 53 = .ok (.iload 4, 2) := by decide +kernel
theorem d_Floor_hasEscape_55 : decode prog_3_method_9_code 55 = .ok (.iconst 1, 1) := by decide +kernel
theorem d_Floor_hasEscape_56 : decode prog_3_method_9_code 56 = .ok (.isub, 1) := by decide +kernel
theorem d_Floor_hasEscape_57 : decode prog_3_method_9_code 57 = .ok (.iload 8, 2) := by decide +kernel
theorem d_Floor_hasEscape_59 : decode prog_3_method_9_code 59 = .ok (.iload_n 3, 1) := by decide +kernel
theorem d_Floor_hasEscape_60 : decode prog_3_method_9_code 60 = .ok (.invokevirtual 106, 3) := by decide +kernel
theorem d_Floor_hasEscape_63 : decode prog_3_method_9_code 63 = .ok (.ifCond .ne 18, 3) := by decide +kernel
theorem d_Floor_hasEscape_66 : decode prog_3_method_9_code 66 = .ok (.aload_n 0, 1) := by decide +kernel
theorem d_Floor_hasEscape_67 : decode prog_3_method_9_code 67 = .ok (.iload 4, 2) := by decide +kernel
theorem d_Floor_hasEscape_69 : decode prog_3_method_9_code 69 = .ok (.iload 6, 2) := by decide +kernel
theorem d_Floor_hasEscape_71 : decode prog_3_method_9_code 71 = .ok (.iadd, 1) := by decide +kernel
theorem d_Floor_hasEscape_72 : decode prog_3_method_9_code 72 = .ok (.iload 8, 2) := by decide +kernel
theorem d_Floor_hasEscape_74 : decode prog_3_method_9_code 74 = .ok (.iload_n 3, 1) := by decide +kernel
theorem d_Floor_hasEscape_75 : decode prog_3_method_9_code 75 = .ok (.invokevirtual 106, 3) := by decide +kernel
theorem d_Floor_hasEscape_78 : decode prog_3_method_9_code 78 = .ok (.ifCond .eq 5, 3) := by decide +kernel
theorem d_Floor_hasEscape_81 : decode prog_3_method_9_code 81 = .ok (.iconst 1, 1) := by decide +kernel
theorem d_Floor_hasEscape_82 : decode prog_3_method_9_code 82 = .ok (.ireturn, 1) := by decide +kernel
theorem d_Floor_hasEscape_83 : decode prog_3_method_9_code 83 = .ok (.iinc 8 1, 3) := by decide +kernel
theorem d_Floor_hasEscape_86 : decode prog_3_method_9_code 86 = .ok (.goto (-44), 3) := by decide +kernel
theorem d_Floor_hasEscape_89 : decode prog_3_method_9_code 89 = .ok (.iload 4, 2) := by decide +kernel
theorem d_Floor_hasEscape_91 : decode prog_3_method_9_code 91 = .ok (.istore 8, 2) := by decide +kernel
theorem d_Floor_hasEscape_93 : decode prog_3_method_9_code 93 = .ok (.iload 8, 2) := by decide +kernel
theorem d_Floor_hasEscape_95 : decode prog_3_method_9_code 95 = .ok (.iload 4, 2) := by decide +kernel
theorem d_Floor_hasEscape_97 : decode prog_3_method_9_code 97 = .ok (.iload 6, 2) := by decide +kernel
theorem d_Floor_hasEscape_99 : decode prog_3_method_9_code 99 = .ok (.iadd, 1) := by decide +kernel
theorem d_Floor_hasEscape_100 : decode prog_3_method_9_code 100 = .ok (.if_icmp .ge 40, 3) := by decide +kernel
theorem d_Floor_hasEscape_103 : decode prog_3_method_9_code 103 = .ok (.aload_n 0, 1) := by decide +kernel
theorem d_Floor_hasEscape_104 : decode prog_3_method_9_code 104 = .ok (.iload 8, 2) := by decide +kernel
theorem d_Floor_hasEscape_106 : decode prog_3_method_9_code 106 = .ok (.iload 5, 2) := by decide +kernel
theorem d_Floor_hasEscape_108 : decode prog_3_method_9_code 108 = .ok (.iconst 1, 1) := by decide +kernel
theorem d_Floor_hasEscape_109 : decode prog_3_method_9_code 109 = .ok (.isub, 1) := by decide +kernel
theorem d_Floor_hasEscape_110 : decode prog_3_method_9_code 110 = .ok (.iload_n 3, 1) := by decide +kernel
theorem d_Floor_hasEscape_111 : decode prog_3_method_9_code 111 = .ok (.invokevirtual 106, 3) := by decide +kernel
theorem d_Floor_hasEscape_114 : decode prog_3_method_9_code 114 = .ok (.ifCond .ne 18, 3) := by decide +kernel
theorem d_Floor_hasEscape_117 : decode prog_3_method_9_code 117 = .ok (.aload_n 0, 1) := by decide +kernel
theorem d_Floor_hasEscape_118 : decode prog_3_method_9_code 118 = .ok (.iload 8, 2) := by decide +kernel
theorem d_Floor_hasEscape_120 : decode prog_3_method_9_code 120 = .ok (.iload 5, 2) := by decide +kernel
theorem d_Floor_hasEscape_122 : decode prog_3_method_9_code 122 = .ok (.iload 7, 2) := by decide +kernel
theorem d_Floor_hasEscape_124 : decode prog_3_method_9_code 124 = .ok (.iadd, 1) := by decide +kernel
theorem d_Floor_hasEscape_125 : decode prog_3_method_9_code 125 = .ok (.iload_n 3, 1) := by decide +kernel
theorem d_Floor_hasEscape_126 : decode prog_3_method_9_code 126 = .ok (.invokevirtual 106, 3) := by decide +kernel
theorem d_Floor_hasEscape_129 : decode prog_3_method_9_code 129 = .ok (.ifCond .eq 5, 3) := by decide +kernel
theorem d_Floor_hasEscape_132 : decode prog_3_method_9_code 132 = .ok (.iconst 1, 1) := by decide +kernel
theorem d_Floor_hasEscape_133 : decode prog_3_method_9_code 133 = .ok (.ireturn, 1) := by decide +kernel
theorem d_Floor_hasEscape_134 : decode prog_3_method_9_code 134 = .ok (.iinc 8 1, 3) := by decide +kernel
theorem d_Floor_hasEscape_137 : decode prog_3_method_9_code 137 = .ok (.goto (-44), 3) := by decide +kernel
theorem d_Floor_hasEscape_140 : decode prog_3_method_9_code 140 = .ok (.iconst 0, 1) := by decide +kernel
theorem d_Floor_hasEscape_141 : decode prog_3_method_9_code 141 = .ok (.ireturn, 1) := by decide +kernel
theorem d_Floor_hides_0 : decode prog_3_method_5_code 0 = .ok (.aload_n 0, 1) := by decide +kernel
theorem d_Floor_hides_1 : decode prog_3_method_5_code 1 = .ok (.getfield 25, 3) := by decide +kernel
theorem d_Floor_hides_4 : decode prog_3_method_5_code 4 = .ok (.iload_n 1, 1) := by decide +kernel
theorem d_Floor_hides_5 : decode prog_3_method_5_code 5 = .ok (.iload_n 2, 1) := by decide +kernel
theorem d_Floor_hides_6 : decode prog_3_method_5_code 6 = .ok (.invokevirtual 62, 3) := by decide +kernel
theorem d_Floor_hides_9 : decode prog_3_method_5_code 9 = .ok (.ifCond .ne 5, 3) := by decide +kernel
theorem d_Floor_hides_12 : decode prog_3_method_5_code 12 = .ok (.iconst 0, 1) := by decide +kernel
theorem d_Floor_hides_13 : decode prog_3_method_5_code 13 = .ok (.ireturn, 1) := by decide +kernel
theorem d_Floor_hides_14 : decode prog_3_method_5_code 14 = .ok (.aload_n 0, 1) := by decide +kernel
theorem d_Floor_hides_15 : decode prog_3_method_5_code 15 = .ok (.getfield 9, 3) := by decide +kernel
theorem d_Floor_hides_18 : decode prog_3_method_5_code 18 = .ok (.iload_n 1, 1) := by decide +kernel
theorem d_Floor_hides_19 : decode prog_3_method_5_code 19 = .ok (.iload_n 2, 1) := by decide +kernel
theorem d_Floor_hides_20 : decode prog_3_method_5_code 20 = .ok (.invokestatic 66, 3) := by decide +kernel
theorem d_Floor_hides_23 : decode prog_3_method_5_code 23 = .ok (.iaload, 1) := by decide +kernel
theorem d_Floor_hides_24 : decode prog_3_method_5_code 24 = .ok (.istore 4, 2) := by decide +kernel
theorem d_Floor_hides_26 : decode prog_3_method_5_code 26 = .ok (.iload 4, 2) := by decide +kernel
theorem d_Floor_hides_28 : decode prog_3_method_5_code 28 = .ok (.iconst (-1), 1) := by decide +kernel
theorem d_Floor_hides_29 : decode prog_3_method_5_code 29 = .ok (.if_icmp .eq 13, 3) := by decide +kernel
theorem d_Floor_hides_32 : decode prog_3_method_5_code 32 = .ok (.iload 4, 2) := by decide +kernel
theorem d_Floor_hides_34 : decode prog_3_method_5_code 34 = .ok (.iload_n 3, 1) := by decide +kernel
theorem d_Floor_hides_35 : decode prog_3_method_5_code 35 = .ok (.if_icmp .eq 7, 3) := by decide +kernel
theorem d_Floor_hides_38 : decode prog_3_method_5_code 38 = .ok (.iconst 1, 1) := by decide +kernel
theorem d_Floor_hides_39 : decode prog_3_method_5_code 39 = .ok (.goto 4, 3) := by decide +kernel
theorem d_Floor_hides_42 : decode prog_3_method_5_code 42 = .ok (.iconst 0, 1) := by decide +kernel
theorem d_Floor_hides_43 : decode prog_3_method_5_code 43 = .ok (.ireturn, 1) := by decide +kernel
theorem d_Floor_isCrossed_0 : decode prog_3_method_6_code 0 = .ok (.iconst 2, 1) := by decide +kernel
theorem d_Floor_isCrossed_1 : decode prog_3_method_6_code 1 = .ok (.iload_n 2, 1) := by decide +kernel
theorem d_Floor_isCrossed_2 : decode prog_3_method_6_code 2 = .ok (.iload_n 1, 1) := by decide +kernel
theorem d_Floor_isCrossed_3 : decode prog_3_method_6_code 3 = .ok (.imul, 1) := by decide +kernel
theorem d_Floor_isCrossed_4 : decode prog_3_method_6_code 4 = .ok (.iload_n 3, 1) := by decide +kernel
