theorem d_Mod_worthNow_21 : decode prog_10_method_33_code 21 = .ok (.iload_n 2, 1) := by decide +kernel
theorem d_Mod_worthNow_22 : decode prog_10_method_33_code 22 = .ok (.iload_n 3, 1) := by decide +kernel
theorem d_Mod_worthNow_23 : decode prog_10_method_33_code 23 = .ok (.invokevirtual 130, 3) := by decide +kernel
theorem d_Mod_worthNow_26 : decode prog_10_method_33_code 26 = .ok (.ifCond .ne 17, 3) := by decide +kernel
theorem d_Mod_worthNow_29 : decode prog_10_method_33_code 29 = .ok (.aload_n 0, 1) := by decide +kernel
theorem d_Mod_worthNow_30 : decode prog_10_method_33_code 30 = .ok (.getfield 29, 3) := by decide +kernel
theorem d_Mod_worthNow_33 : decode prog_10_method_33_code 33 = .ok (.bipush 7, 2) := by decide +kernel
theorem d_Mod_worthNow_35 : decode prog_10_method_33_code 35 = .ok (.iload_n 2, 1) := by decide +kernel
theorem d_Mod_worthNow_36 : decode prog_10_method_33_code 36 = .ok (.imul, 1) := by decide +kernel
theorem d_Mod_worthNow_37 : decode prog_10_method_33_code 37 = .ok (.iload_n 3, 1) := by decide +kernel
theorem d_Mod_worthNow_38 : decode prog_10_method_33_code 38 = .ok (.iadd, 1) := by decide +kernel
theorem d_Mod_worthNow_39 : decode prog_10_method_33_code 39 = .ok (.iaload, 1) := by decide +kernel
theorem d_Mod_worthNow_40 : decode prog_10_method_33_code 40 = .ok (.goto 4, 3) := by decide +kernel
theorem d_Mod_worthNow_43 : decode prog_10_method_33_code 43 = .ok (.iconst 0, 1) := by decide +kernel
theorem d_Mod_worthNow_44 : decode prog_10_method_33_code 44 = .ok (.iadd, 1) := by decide +kernel
theorem d_Mod_worthNow_45 : decode prog_10_method_33_code 45 = .ok (.istore_n 1, 1) := by decide +kernel
theorem d_Mod_worthNow_46 : decode prog_10_method_33_code 46 = .ok (.iinc 3 1, 3) := by decide +kernel
theorem d_Mod_worthNow_49 : decode prog_10_method_33_code 49 = .ok (.goto (-35), 3) := by decide +kernel
theorem d_Mod_worthNow_52 : decode prog_10_method_33_code 52 = .ok (.iinc 2 1, 3) := by decide +kernel
theorem d_Mod_worthNow_55 : decode prog_10_method_33_code 55 = .ok (.goto (-51), 3) := by decide +kernel
theorem d_Mod_worthNow_58 : decode prog_10_method_33_code 58 = .ok (.iload_n 1, 1) := by decide +kernel
theorem d_Mod_worthNow_59 : decode prog_10_method_33_code 59 = .ok (.ireturn, 1) := by decide +kernel
theorem d_Mod_nodes_0 : decode prog_10_method_37_code 0 = .ok (.aload_n 0, 1) := by decide +kernel
theorem d_Mod_nodes_1 : decode prog_10_method_37_code 1 = .ok (.iconst 0, 1) := by decide +kernel
theorem d_Mod_nodes_2 : decode prog_10_method_37_code 2 = .ok (.putfield 79, 3) := by decide +kernel
theorem d_Mod_nodes_5 : decode prog_10_method_37_code 5 = .ok (.aload_n 0, 1) := by decide +kernel
theorem d_Mod_nodes_6 : decode prog_10_method_37_code 6 = .ok (.getfield 93, 3) := by decide +kernel
theorem d_Mod_nodes_9 : decode prog_10_method_37_code 9 = .ok (.ireturn, 1) := by decide +kernel
theorem d_Mod_at_0 : decode prog_10_method_39_code 0 = .ok (.aload_n 0, 1) := by decide +kernel
theorem d_Mod_at_1 : decode prog_10_method_39_code 1 = .ok (.aload_n 0, 1) := by decide +kernel
theorem d_Mod_at_2 : decode prog_10_method_39_code 2 = .ok (.iload_n 1, 1) := by decide +kernel
theorem d_Mod_at_3 : decode prog_10_method_39_code 3 = .ok (.invokevirtual 119, 3) := by decide +kernel
theorem d_Mod_at_6 : decode prog_10_method_39_code 6 = .ok (.ifCond .eq 12, 3) := by decide +kernel
theorem d_Mod_at_9 : decode prog_10_method_39_code 9 = .ok (.iload_n 2, 1) := by decide +kernel
theorem d_Mod_at_10 : decode prog_10_method_39_code 10 = .ok (.iconst 0, 1) := by decide +kernel
theorem d_Mod_at_11 : decode prog_10_method_39_code 11 = .ok (.iconst 1, 1) := by decide +kernel
theorem d_Mod_at_12 : decode prog_10_method_39_code 12 = .ok (.invokestatic 82, 3) := by decide +kernel
theorem d_Mod_at_15 : decode prog_10_method_39_code 15 = .ok (.ifCond .ne 7, 3) := by decide +kernel
theorem d_Mod_at_18 : decode prog_10_method_39_code 18 = .ok (.iconst 1, 1) := by decide +kernel
theorem d_Mod_at_19 : decode prog_10_method_39_code 19 = .ok (.goto 4, 3) := by decide +kernel
theorem d_Mod_at_22 : decode prog_10_method_39_code 22 = .ok (.iconst 0, 1) := by decide +kernel
theorem d_Mod_at_23 : decode prog_10_method_39_code 23 = .ok (.aload_n 0, 1) := by decide +kernel
theorem d_Mod_at_24 : decode prog_10_method_39_code 24 = .ok (.getfield 89, 3) := by decide +kernel
theorem d_Mod_at_27 : decode prog_10_method_39_code 27 = .ok (.ifCond .ne 7, 3) := by decide +kernel
theorem d_Mod_at_30 : decode prog_10_method_39_code 30 = .ok (.iconst 1, 1) := by decide +kernel
theorem d_Mod_at_31 : decode prog_10_method_39_code 31 = .ok (.goto 4, 3) := by decide +kernel
theorem d_Mod_at_34 : decode prog_10_method_39_code 34 = .ok (.iconst 0, 1) := by decide +kernel
theorem d_Mod_at_35 : decode prog_10_method_39_code 35 = .ok (.iconst 0, 1) := by decide +kernel
theorem d_Mod_at_36 : decode prog_10_method_39_code 36 = .ok (.invokevirtual 106, 3) := by decide +kernel
theorem d_Mod_at_39 : decode prog_10_method_39_code 39 = .ok (.ifCond .eq 5, 3) := by decide +kernel
theorem d_Mod_at_42 : decode prog_10_method_39_code 42 = .ok (.iconst 0, 1) := by decide +kernel
theorem d_Mod_at_43 : decode prog_10_method_39_code 43 = .ok (.ireturn, 1) := by decide +kernel
theorem d_Mod_at_44 : decode prog_10_method_39_code 44 = .ok (.iload_n 2, 1) := by decide +kernel
theorem d_Mod_at_45 : decode prog_10_method_39_code 45 = .ok (.ifCond .ne 12, 3) := by decide +kernel
theorem d_Mod_at_48 : decode prog_10_method_39_code 48 = .ok (.aload_n 0, 1) := by decide +kernel
theorem d_Mod_at_49 : decode prog_10_method_39_code 49 = .ok (.getfield 60, 3) := by decide +kernel
theorem d_Mod_at_52 : decode prog_10_method_39_code 52 = .ok (.iload_n 1, 1) := by decide +kernel
theorem d_Mod_at_53 : decode prog_10_method_39_code 53 = .ok (.iaload, 1) := by decide +kernel
theorem d_Mod_at_54 : decode prog_10_method_39_code 54 = .ok (.goto 9, 3) := by decide +kernel
theorem d_Mod_at_57 : decode prog_10_method_39_code 57 = .ok (.aload_n 0, 1) := by decide +kernel
theorem d_Mod_at_58 : decode prog_10_method_39_code 58 = .ok (.getfield 63, 3) := by decide +kernel
theorem d_Mod_at_61 : decode prog_10_method_39_code 61 = .ok (.iload_n 1, 1) := by decide +kernel
theorem d_Mod_at_62 : decode prog_10_method_39_code 62 = .ok (.iaload, 1) := by decide +kernel
theorem d_Mod_at_63 : decode prog_10_method_39_code 63 = .ok (.ireturn, 1) := by decide +kernel
theorem d_Mod_worth_0 : decode prog_10_method_40_code 0 = .ok (.aload_n 0, 1) := by decide +kernel
theorem d_Mod_worth_1 : decode prog_10_method_40_code 1 = .ok (.iconst 0, 1) := by decide +kernel
theorem d_Mod_worth_2 : decode prog_10_method_40_code 2 = .ok (.putfield 79, 3) := by decide +kernel
theorem d_Mod_worth_5 : decode prog_10_method_40_code 5 = .ok (.aload_n 0, 1) := by decide +kernel
theorem d_Mod_worth_6 : decode prog_10_method_40_code 6 = .ok (.getfield 89, 3) := by decide +kernel
theorem d_Mod_worth_9 : decode prog_10_method_40_code 9 = .ok (.ifCond .eq 10, 3) := by decide +kernel
theorem d_Mod_worth_12 : decode prog_10_method_40_code 12 = .ok (.aload_n 0, 1) := by decide +kernel
theorem d_Mod_worth_13 : decode prog_10_method_40_code 13 = .ok (.getfield 163, 3) := by decide +kernel
theorem d_Mod_worth_16 : decode prog_10_method_40_code 16 = .ok (.goto 4, 3) := by decide +kernel
theorem d_Mod_worth_19 : decode prog_10_method_40_code 19 = .ok (.iconst (-1), 1) := by decide +kernel
theorem d_Mod_worth_20 : decode prog_10_method_40_code 20 = .ok (.ireturn, 1) := by decide +kernel
theorem d_Mod_sight_0 : decode prog_10_method_41_code 0 = .ok (.aload_n 0, 1) := by decide +kernel
theorem d_Mod_sight_1 : decode prog_10_method_41_code 1 = .ok (.iload_n 1, 1) := by decide +kernel
theorem d_Mod_sight_2 : decode prog_10_method_41_code 2 = .ok (.iconst 0, 1) := by decide +kernel
theorem d_Mod_sight_3 : decode prog_10_method_41_code 3 = .ok (.aload_n 0, 1) := by decide +kernel
theorem d_Mod_sight_4 : decode prog_10_method_41_code 4 = .ok (.getfield 99, 3) := by decide +kernel
theorem d_Mod_sight_7 : decode prog_10_method_41_code 7 = .ok (.iconst 1, 1) := by decide +kernel
theorem d_Mod_sight_8 : decode prog_10_method_41_code 8 = .ok (.isub, 1) := by decide +kernel
theorem d_Mod_sight_9 : decode prog_10_method_41_code 9 = .ok (.invokestatic 82, 3) := by decide +kernel
theorem d_Mod_sight_12 : decode prog_10_method_41_code 12 = .ok (.ifCond .eq 11, 3) := by decide +kernel
theorem d_Mod_sight_15 : decode prog_10_method_41_code 15 = .ok (.aload_n 0, 1) := by decide +kernel
theorem d_Mod_sight_16 : decode prog_10_method_41_code 16 = .ok (.iload_n 2, 1) := by decide +kernel
theorem d_Mod_sight_17 : decode prog_10_method_41_code 17 = .ok (.invokevirtual 119, 3) := by decide +kernel
theorem d_Mod_sight_20 : decode prog_10_method_41_code 20 = .ok (.ifCond .ne 7, 3) := by decide +kernel
theorem d_Mod_sight_23 : decode prog_10_method_41_code 23 = .ok (.iconst 1, 1) := by decide +kernel
theorem d_Mod_sight_24 : decode prog_10_method_41_code 24 = .ok (.goto 4, 3) := by decide +kernel
theorem d_Mod_sight_27 : decode prog_10_method_41_code 27 = .ok (.iconst 0, 1) := by decide +kernel
theorem d_Mod_sight_28 : decode prog_10_method_41_code 28 = .ok (.aload_n 0, 1) := by decide +kernel
theorem d_Mod_sight_29 : decode prog_10_method_41_code 29 = .ok (.getfield 89, 3) := by decide +kernel
theorem d_Mod_sight_32 : decode prog_10_method_41_code 32 = .ok (.ifCond .ne 7, 3) := by decide +kernel
theorem d_Mod_sight_35 : decode prog_10_method_41_code 35 = .ok (.iconst 1, 1) := by decide +kernel
theorem d_Mod_sight_36 : decode prog_10_method_41_code 36 = .ok (.goto 4, 3) := by decide +kernel
theorem d_Mod_sight_39 : decode prog_10_method_41_code 39 = .ok (.iconst 0, 1) := by decide +kernel
theorem d_Mod_sight_40 : decode prog_10_method_41_code 40 = .ok (.iconst 0, 1) := by decide +kernel
theorem d_Mod_sight_41 : decode prog_10_method_41_code 41 = .ok (.invokevirtual 106, 3) := by decide +kernel
theorem d_Mod_sight_44 : decode prog_10_method_41_code 44 = .ok (.ifCond .eq 5, 3) := by decide +kernel
theorem d_Mod_sight_47 : decode prog_10_method_41_code 47 = .ok (.iconst 0, 1) := by decide +kernel
theorem d_Mod_sight_48 : decode prog_10_method_41_code 48 = .ok (.ireturn, 1) := by decide +kernel
theorem d_Mod_sight_49 : decode prog_10_method_41_code 49 = .ok (.aload_n 0, 1) := by decide +kernel
theorem d_Mod_sight_50 : decode prog_10_method_41_code 50 = .ok (.invokevirtual 179, 3) := by decide +kernel
theorem d_Mod_sight_53 : decode prog_10_method_41_code 53 = .ok (.aload_n 0, 1) := by decide +kernel
theorem d_Mod_sight_54 : decode prog_10_method_41_code 54 = .ok (.iload_n 1, 1) := by decide +kernel
theorem d_Mod_sight_55 : decode prog_10_method_41_code 55 = .ok (.iload_n 2, 1) := by decide +kernel
theorem d_Mod_sight_56 : decode prog_10_method_41_code 56 = .ok (.invokevirtual 150, 3) := by decide +kernel
theorem d_Mod_sight_59 : decode prog_10_method_41_code 59 = .ok (.ireturn, 1) := by decide +kernel
theorem d_Mod_layBest_0 : decode prog_10_method_38_code 0 = .ok (.iconst 0, 1) := by decide +kernel
theorem d_Mod_layBest_1 : decode prog_10_method_38_code 1 = .ok (.istore_n 1, 1) := by decide +kernel
theorem d_Mod_layBest_2 : decode prog_10_method_38_code 2 = .ok (.iload_n 1, 1) := by decide +kernel
theorem d_Mod_layBest_3 : decode prog_10_method_38_code 3 = .ok (.aload_n 0, 1) := by decide +kernel
theorem d_Mod_layBest_4 : decode prog_10_method_38_code 4 = .ok (.getfield 86, 3) := by decide +kernel
theorem d_Mod_layBest_7 : decode prog_10_method_38_code 7 = .ok (.if_icmp .ge 33, 3) := by decide +kernel
theorem d_Mod_layBest_10 : decode prog_10_method_38_code 10 = .ok (.aload_n 0, 1) := by decide +kernel
theorem d_Mod_layBest_11 : decode prog_10_method_38_code 11 = .ok (.getfield 51, 3) := by decide +kernel
theorem d_Mod_layBest_14 : decode prog_10_method_38_code 14 = .ok (.iload_n 1, 1) := by decide +kernel
theorem d_Mod_layBest_15 : decode prog_10_method_38_code 15 = .ok (.aload_n 0, 1) := by decide +kernel
theorem d_Mod_layBest_16 : decode prog_10_method_38_code 16 = .ok (.getfield 60, 3) := by decide +kernel
theorem d_Mod_layBest_19 : decode prog_10_method_38_code 19 = .ok (.iload_n 1, 1) := by decide +kernel
theorem d_Mod_layBest_20 : decode prog_10_method_38_code 20 = .ok (.iaload, 1) := by decide +kernel
theorem d_Mod_layBest_21 : decode prog_10_method_38_code 21 = .ok (.iastore, 1) := by decide +kernel
theorem d_Mod_layBest_22 : decode prog_10_method_38_code 22 = .ok (.aload_n 0, 1) := by decide +kernel
theorem d_Mod_layBest_23 : decode prog_10_method_38_code 23 = .ok (.getfield 54, 3) := by decide +kernel
theorem d_Mod_layBest_26 : decode prog_10_method_38_code 26 = .ok (.iload_n 1, 1) := by decide +kernel
theorem d_Mod_layBest_27 : decode prog_10_method_38_code 27 = .ok (.aload_n 0, 1) := by decide +kernel
theorem d_Mod_layBest_28 : decode prog_10_method_38_code 28 = .ok (.getfield 63, 3) := by decide +kernel
theorem d_Mod_layBest_31 : decode prog_10_method_38_code 31 = .ok (.iload_n 1, 1) := by decide +kernel
theorem d_Mod_layBest_32 : decode prog_10_method_38_code 32 = .ok (.iaload, 1) := by decide +kernel
theorem d_Mod_layBest_33 : decode prog_10_method_38_code 33 = .ok (.iastore, 1) := by decide +kernel
theorem d_Mod_layBest_34 : decode prog_10_method_38_code 34 = .ok (.iinc 1 1, 3) := by decide +kernel
theorem d_Mod_layBest_37 : decode prog_10_method_38_code 37 = .ok (.goto (-35), 3) := by decide +kernel
theorem d_Mod_layBest_40 : decode prog_10_method_38_code 40 = .ok (.return_, 1) := by decide +kernel
theorem d_Mod_escape_0 : decode prog_10_method_42_code 0 = .ok (.aload_n 0, 1) := by decide +kernel
theorem d_Mod_escape_1 : decode prog_10_method_42_code 1 = .ok (.aload_n 0, 1) := by decide +kernel
theorem d_Mod_escape_2 : decode prog_10_method_42_code 2 = .ok (.iload_n 1, 1) := by decide +kernel
theorem d_Mod_escape_3 : decode prog_10_method_42_code 3 = .ok (.iload_n 2, 1) := by decide +kernel
theorem d_Mod_escape_4 : decode prog_10_method_42_code 4 = .ok (.invokevirtual 102, 3) := by decide +kernel
theorem d_Mod_escape_7 : decode prog_10_method_42_code 7 = .ok (.ifCond .ne 7, 3) := by decide +kernel
theorem d_Mod_escape_10 : decode prog_10_method_42_code 10 = .ok (.iconst 1, 1) := by decide +kernel
theorem d_Mod_escape_11 : decode prog_10_method_42_code 11 = .ok (.goto 4, 3) := by decide +kernel
theorem d_Mod_escape_14 : decode prog_10_method_42_code 14 = .ok (.iconst 0, 1) := by decide +kernel
theorem d_Mod_escape_15 : decode prog_10_method_42_code 15 = .ok (.aload_n 0, 1) := by decide +kernel
theorem d_Mod_escape_16 : decode prog_10_method_42_code 16 = .ok (.getfield 89, 3) := by decide +kernel
theorem d_Mod_escape_19 : decode prog_10_method_42_code 19 = .ok (.ifCond .ne 7, 3) := by decide +kernel
theorem d_Mod_escape_22 : decode prog_10_method_42_code 22 = .ok (.iconst 1, 1) := by decide +kernel
theorem d_Mod_escape_23 : decode prog_10_method_42_code 23 = .ok (.goto 4, 3) := by decide +kernel
theorem d_Mod_escape_26 : decode prog_10_method_42_code 26 = .ok (.iconst 0, 1) := by decide +kernel
theorem d_Mod_escape_27 : decode prog_10_method_42_code 27 = .ok (.iconst 0, 1) := by decide +kernel
theorem d_Mod_escape_28 : decode prog_10_method_42_code 28 = .ok (.invokevirtual 106, 3) := by decide +kernel
theorem d_Mod_escape_31 : decode prog_10_method_42_code 31 = .ok (.ifCond .eq 5, 3) := by decide +kernel
theorem d_Mod_escape_34 : decode prog_10_method_42_code 34 = .ok (.iconst 0, 1) := by decide +kernel
theorem d_Mod_escape_35 : decode prog_10_method_42_code 35 = .ok (.ireturn, 1) := by decide +kernel
theorem d_Mod_escape_36 : decode prog_10_method_42_code 36 = .ok (.aload_n 0, 1) := by decide +kernel
theorem d_Mod_escape_37 : decode prog_10_method_42_code 37 = .ok (.invokevirtual 179, 3) := by decide +kernel
theorem d_Mod_escape_40 : decode prog_10_method_42_code 40 = .ok (.aload_n 0, 1) := by decide +kernel
theorem d_Mod_escape_41 : decode prog_10_method_42_code 41 = .ok (.invokevirtual 153, 3) := by decide +kernel
theorem d_Mod_escape_44 : decode prog_10_method_42_code 44 = .ok (.aload_n 0, 1) := by decide +kernel
theorem d_Mod_escape_45 : decode prog_10_method_42_code 45 = .ok (.iload_n 1, 1) := by decide +kernel
theorem d_Mod_escape_46 : decode prog_10_method_42_code 46 = .ok (.iload_n 2, 1) := by decide +kernel
theorem d_Mod_escape_47 : decode prog_10_method_42_code 47 = .ok (.invokevirtual 147, 3) := by decide +kernel
theorem d_Mod_escape_50 : decode prog_10_method_42_code 50 = .ok (.sipush 1000, 3) := by decide +kernel
theorem d_Mod_escape_53 : decode prog_10_method_42_code 53 = .ok (.if_icmp .ge 21, 3) := by decide +kernel
theorem d_Mod_escape_56 : decode prog_10_method_42_code 56 = .ok (.aload_n 0, 1) := by decide +kernel
theorem d_Mod_escape_57 : decode prog_10_method_42_code 57 = .ok (.iload_n 1, 1) := by decide +kernel
theorem d_Mod_escape_58 : decode prog_10_method_42_code 58 = .ok (.iload_n 2, 1) := by decide +kernel
theorem d_Mod_escape_59 : decode prog_10_method_42_code 59 = .ok (.invokevirtual 144, 3) := by decide +kernel
theorem d_Mod_escape_62 : decode prog_10_method_42_code 62 = .ok (.ifCond .eq 12, 3) := by decide +kernel
theorem d_Mod_escape_65 : decode prog_10_method_42_code 65 = .ok (.aload_n 0, 1) := by decide +kernel
theorem d_Mod_escape_66 : decode prog_10_method_42_code 66 = .ok (.iload_n 1, 1) := by decide +kernel
theorem d_Mod_escape_67 : decode prog_10_method_42_code 67 = .ok (.iload_n 2, 1) := by decide +kernel
theorem d_Mod_escape_68 : decode prog_10_method_42_code 68 = .ok (.invokevirtual 147, 3) := by decide +kernel
theorem d_Mod_escape_71 : decode prog_10_method_42_code 71 = .ok (.goto 4, 3) := by decide +kernel
theorem d_Mod_escape_74 : decode prog_10_method_42_code 74 = .ok (.iconst (-1), 1) := by decide +kernel
theorem d_Mod_escape_75 : decode prog_10_method_42_code 75 = .ok (.ireturn, 1) := by decide +kernel
theorem d_Mod_count_0 : decode prog_10_method_44_code 0 = .ok (.aload_n 0, 1) := by decide +kernel
theorem d_Mod_count_1 : decode prog_10_method_44_code 1 = .ok (.iload_n 1, 1) := by decide +kernel
theorem d_Mod_count_2 : decode prog_10_method_44_code 2 = .ok (.iconst 0, 1) := by decide +kernel
theorem d_Mod_count_3 : decode prog_10_method_44_code 3 = .ok (.iconst 3, 1) := by decide +kernel
theorem d_Mod_count_4 : decode prog_10_method_44_code 4 = .ok (.invokestatic 82, 3) := by decide +kernel
theorem d_Mod_count_7 : decode prog_10_method_44_code 7 = .ok (.ifCond .ne 7, 3) := by decide +kernel
theorem d_Mod_count_10 : decode prog_10_method_44_code 10 = .ok (.iconst 1, 1) := by decide +kernel
theorem d_Mod_count_11 : decode prog_10_method_44_code 11 = .ok (.goto 4, 3) := by decide +kernel
theorem d_Mod_count_14 : decode prog_10_method_44_code 14 = .ok (.iconst 0, 1) := by decide +kernel
theorem d_Mod_count_15 : decode prog_10_method_44_code 15 = .ok (.iconst 0, 1) := by decide +kernel
theorem d_Mod_count_16 : decode prog_10_method_44_code 16 = .ok (.iconst 0, 1) := by decide +kernel
theorem d_Mod_count_17 : decode prog_10_method_44_code 17 = .ok (.invokevirtual 106, 3) := by decide +kernel
theorem d_Mod_count_20 : decode prog_10_method_44_code 20 = .ok (.ifCond .eq 5, 3) := by decide +kernel
theorem d_Mod_count_23 : decode prog_10_method_44_code 23 = .ok (.iconst 0, 1) := by decide +kernel
theorem d_Mod_count_24 : decode prog_10_method_44_code 24 = .ok (.ireturn, 1) := by decide +kernel
theorem d_Mod_count_25 : decode prog_10_method_44_code 25 = .ok (.iload_n 1, 1) := by decide +kernel
theorem d_Mod_count_26 : decode prog_10_method_44_code 26 = .ok (.ifCond .ne 10, 3) := by decide +kernel
theorem d_Mod_count_29 : decode prog_10_method_44_code 29 = .ok (.aload_n 0, 1) := by decide +kernel
theorem d_Mod_count_30 : decode prog_10_method_44_code 30 = .ok (.getfield 86, 3) := by decide +kernel
theorem d_Mod_count_33 : decode prog_10_method_44_code 33 = .ok (.goto 31, 3) := by decide +kernel
theorem d_Mod_count_36 : decode prog_10_method_44_code 36 = .ok (.iload_n 1, 1) := by decide +kernel
theorem d_Mod_count_37 : decode prog_10_method_44_code 37 = .ok (.iconst 1, 1) := by decide +kernel
theorem d_Mod_count_38 : decode prog_10_method_44_code 38 = .ok (.if_icmp .ne 10, 3) := by decide +kernel
theorem d_Mod_count_41 : decode prog_10_method_44_code 41 = .ok (.aload_n 0, 1) := by decide +kernel
theorem d_Mod_count_42 : decode prog_10_method_44_code 42 = .ok (.getfield 99, 3) := by decide +kernel
theorem d_Mod_count_45 : decode prog_10_method_44_code 45 = .ok (.goto 19, 3) := by decide +kernel
theorem d_Mod_count_48 : decode prog_10_method_44_code 48 = .ok (.iload_n 1, 1) := by decide +kernel
theorem d_Mod_count_49 : decode prog_10_method_44_code 49 = .ok (.iconst 2, 1) := by decide +kernel
theorem d_Mod_count_50 : decode prog_10_method_44_code 50 = .ok (.if_icmp .ne 10, 3) := by decide +kernel
theorem d_Mod_count_53 : decode prog_10_method_44_code 53 = .ok (.aload_n 0, 1) := by decide +kernel
theorem d_Mod_count_54 : decode prog_10_method_44_code 54 = .ok (.getfield 96, 3) := by decide +kernel
theorem d_Mod_count_57 : decode prog_10_method_44_code 57 = .ok (.goto 7, 3) := by decide +kernel
theorem d_Mod_count_60 : decode prog_10_method_44_code 60 = .ok (.aload_n 0, 1) := by decide +kernel
theorem d_Mod_count_61 : decode prog_10_method_44_code 61 = .ok (.invokevirtual 182, 3) := by decide +kernel
theorem d_Mod_count_64 : decode prog_10_method_44_code 64 = .ok (.ireturn, 1) := by decide +kernel
theorem d_Mod_wallCount_0 : decode prog_10_method_43_code 0 = .ok (.iconst 0, 1) := by decide +kernel
theorem d_Mod_wallCount_1 : decode prog_10_method_43_code 1 = .ok (.istore_n 1, 1) := by decide +kernel
theorem d_Mod_wallCount_2 : decode prog_10_method_43_code 2 = .ok (.iconst 0, 1) := by decide +kernel
theorem d_Mod_wallCount_3 : decode prog_10_method_43_code 3 = .ok (.istore_n 2, 1) := by decide +kernel
theorem d_Mod_wallCount_4 : decode prog_10_method_43_code 4 = .ok (.iload_n 2, 1) := by decide +kernel
theorem d_Mod_wallCount_5 : decode prog_10_method_43_code 5 = .ok (.bipush 81, 2) := by decide +kernel
theorem d_Mod_wallCount_7 : decode prog_10_method_43_code 7 = .ok (.if_icmp .ge 26, 3) := by decide +kernel
theorem d_Mod_wallCount_10 : decode prog_10_method_43_code 10 = .ok (.iload_n 1, 1) := by decide +kernel
theorem d_Mod_wallCount_11 : decode prog_10_method_43_code 11 = .ok (.aload_n 0, 1) := by decide +kernel
theorem d_Mod_wallCount_12 : decode prog_10_method_43_code 12 = .ok (.getfield 7, 3) := by decide +kernel
theorem d_Mod_wallCount_15 : decode prog_10_method_43_code 15 = .ok (.iload_n 2, 1) := by decide +kernel
theorem d_Mod_wallCount_16 : decode prog_10_method_43_code 16 = .ok (.baload, 1) := by decide +kernel
theorem d_Mod_wallCount_17 : decode prog_10_method_43_code 17 = .ok (.ifCond .eq 7, 3) := by decide +kernel
theorem d_Mod_wallCount_20 : decode prog_10_method_43_code 20 = .ok (.iconst 1, 1) := by decide +kernel
theorem d_Mod_wallCount_21 : decode prog_10_method_43_code 21 = .ok (.goto 4, 3) := by decide +kernel
theorem d_Mod_wallCount_24 : decode prog_10_method_43_code 24 = .ok (.iconst 0, 1) := by decide +kernel
theorem d_Mod_wallCount_25 : decode prog_10_method_43_code 25 = .ok (.iadd, 1) := by decide +kernel
theorem d_Mod_wallCount_26 : decode prog_10_method_43_code 26 = .ok (.istore_n 1, 1) := by decide +kernel
theorem d_Mod_wallCount_27 : decode prog_10_method_43_code 27 = .ok (.iinc 2 1, 3) := by decide +kernel
theorem d_Mod_wallCount_30 : decode prog_10_method_43_code 30 = .ok (.goto (-26), 3) := by decide +kernel
theorem d_Mod_wallCount_33 : decode prog_10_method_43_code 33 = .ok (.iload_n 1, 1) := by decide +kernel
theorem d_Mod_wallCount_34 : decode prog_10_method_43_code 34 = .ok (.ireturn, 1) := by decide +kernel
theorem d_Mod_thrown_0 : decode prog_10_method_3_code 0 = .ok (.aload_n 0, 1) := by decide +kernel
theorem d_Mod_thrown_1 : decode prog_10_method_3_code 1 = .ok (.getfield 79, 3) := by decide +kernel
theorem d_Mod_thrown_4 : decode prog_10_method_3_code 4 = .ok (.ireturn, 1) := by decide +kernel
theorem d_CaseLayout_wall_0 : decode prog_1_method_2_code 0 = .ok (.aload_n 0, 1) := by decide +kernel
theorem d_CaseLayout_wall_1 : decode prog_1_method_2_code 1 = .ok (.iload_n 1, 1) := by decide +kernel
theorem d_CaseLayout_wall_2 : decode prog_1_method_2_code 2 = .ok (.iload_n 2, 1) := by decide +kernel
theorem d_CaseLayout_wall_3 : decode prog_1_method_2_code 3 = .ok (.invokevirtual 61, 3) := by decide +kernel
theorem d_CaseLayout_wall_6 : decode prog_1_method_2_code 6 = .ok (.iload_n 1, 1) := by decide +kernel
theorem d_CaseLayout_wall_7 : decode prog_1_method_2_code 7 = .ok (.iload_n 2, 1) := by decide +kernel
theorem d_CaseLayout_wall_8 : decode prog_1_method_2_code 8 = .ok (.invokestatic 64, 3) := by decide +kernel
theorem d_CaseLayout_wall_11 : decode prog_1_method_2_code 11 = .ok (.istore 4, 2) := by decide +kernel
theorem d_CaseLayout_wall_13 : decode prog_1_method_2_code 13 = .ok (.aload_n 0, 1) := by decide +kernel
theorem d_CaseLayout_wall_14 : decode prog_1_method_2_code 14 = .ok (.getfield 18, 3) := by decide +kernel
theorem d_CaseLayout_wall_17 : decode prog_1_method_2_code 17 = .ok (.getfield 68, 3) := by decide +kernel
theorem d_CaseLayout_wall_20 : decode prog_1_method_2_code 20 = .ok (.iload 4, 2) := by decide +kernel
theorem d_CaseLayout_wall_22 : decode prog_1_method_2_code 22 = .ok (.baload, 1) := by decide +kernel
theorem d_CaseLayout_wall_23 : decode prog_1_method_2_code 23 = .ok (.iload_n 3, 1) := by decide +kernel
theorem d_CaseLayout_wall_24 : decode prog_1_method_2_code 24 = .ok (.if_icmp .eq 27, 3) := by decide +kernel
theorem d_CaseLayout_wall_27 : decode prog_1_method_2_code 27 = .ok (.aload_n 0, 1) := by decide +kernel
theorem d_CaseLayout_wall_28 : decode prog_1_method_2_code 28 = .ok (.getfield 32, 3) := by decide +kernel
theorem d_CaseLayout_wall_31 : decode prog_1_method_2_code 31 = .ok (.iload 4, 2) := by decide +kernel
theorem d_CaseLayout_wall_33 : decode prog_1_method_2_code 33 = .ok (.invokevirtual 72, 3) := by decide +kernel
theorem d_CaseLayout_wall_36 : decode prog_1_method_2_code 36 = .ok (.ifCond .ne 15, 3) := by decide +kernel
theorem d_CaseLayout_wall_39 : decode prog_1_method_2_code 39 = .ok (.aload_n 0, 1) := by decide +kernel
theorem d_CaseLayout_wall_40 : decode prog_1_method_2_code 40 = .ok (.getfield 39, 3) := by decide +kernel
theorem d_CaseLayout_wall_43 : decode prog_1_method_2_code 43 = .ok (.iload 4, 2) := by decide +kernel
theorem d_CaseLayout_wall_45 : decode prog_1_method_2_code 45 = .ok (.invokevirtual 76, 3) := by decide +kernel
theorem d_CaseLayout_wall_48 : decode prog_1_method_2_code 48 = .ok (.ifCond .eq 5, 3) := by decide +kernel
theorem d_CaseLayout_wall_51 : decode prog_1_method_2_code 51 = .ok (.iconst 0, 1) := by decide +kernel
theorem d_CaseLayout_wall_52 : decode prog_1_method_2_code 52 = .ok (.ireturn, 1) := by decide +kernel
theorem d_CaseLayout_wall_53 : decode prog_1_method_2_code 53 = .ok (.aload_n 0, 1) := by decide +kernel
theorem d_CaseLayout_wall_54 : decode prog_1_method_2_code 54 = .ok (.getfield 18, 3) := by decide +kernel
theorem d_CaseLayout_wall_57 : decode prog_1_method_2_code 57 = .ok (.iload 4, 2) := by decide +kernel
theorem d_CaseLayout_wall_59 : decode prog_1_method_2_code 59 = .ok (.iload_n 3, 1) := by decide +kernel
theorem d_CaseLayout_wall_60 : decode prog_1_method_2_code 60 = .ok (.invokevirtual 77, 3) := by decide +kernel
theorem d_CaseLayout_wall_63 : decode prog_1_method_2_code 63 = .ok (.aload_n 0, 1) := by decide +kernel
theorem d_CaseLayout_wall_64 : decode prog_1_method_2_code 64 = .ok (.getfield 57, 3) := by decide +kernel
theorem d_CaseLayout_wall_67 : decode prog_1_method_2_code 67 = .ok (.invokevirtual 81, 3) := by decide +kernel
theorem d_CaseLayout_wall_70 : decode prog_1_method_2_code 70 = .ok (.iconst 1, 1) := by decide +kernel
theorem d_CaseLayout_wall_71 : decode prog_1_method_2_code 71 = .ok (.ireturn, 1) := by decide +kernel
theorem d_CaseLayout_needCell_0 : decode prog_1_method_18_code 0 = .ok (.aload_n 0, 1) := by decide +kernel
theorem d_CaseLayout_needCell_1 : decode prog_1_method_18_code 1 = .ok (.getfield 18, 3) := by decide +kernel
theorem d_CaseLayout_needCell_4 : decode prog_1_method_18_code 4 = .ok (.iload_n 1, 1) := by decide +kernel
theorem d_CaseLayout_needCell_5 : decode prog_1_method_18_code 5 = .ok (.iload_n 2, 1) := by decide +kernel
theorem d_CaseLayout_needCell_6 : decode prog_1_method_18_code 6 = .ok (.invokevirtual 212, 3) := by decide +kernel
theorem d_CaseLayout_needCell_9 : decode prog_1_method_18_code 9 = .ok (.ifCond .ne 13, 3) := by decide +kernel
theorem d_CaseLayout_needCell_12 : decode prog_1_method_18_code 12 = .ok (.new 167, 3) := by decide +kernel
theorem d_CaseLayout_needCell_15 : decode prog_1_method_18_code 15 = .ok (.dup, 1) := by decide +kernel
theorem d_CaseLayout_needCell_16 : decode prog_1_method_18_code 16 = .ok (.ldc 215, 2) := by decide +kernel
theorem d_CaseLayout_needCell_18 : decode prog_1_method_18_code 18 = .ok (.invokespecial 171, 3) := by decide +kernel
theorem d_CaseLayout_needCell_21 : decode prog_1_method_18_code 21 = .ok (.athrow, 1) := by decide +kernel
theorem d_CaseLayout_needCell_22 : decode prog_1_method_18_code 22 = .ok (.return_, 1) := by decide +kernel
theorem d_CaseLayout_zone_0 : decode prog_1_method_3_code 0 = .ok (.aload_n 0, 1) := by decide +kernel
theorem d_CaseLayout_zone_1 : decode prog_1_method_3_code 1 = .ok (.iload_n 1, 1) := by decide +kernel
theorem d_CaseLayout_zone_2 : decode prog_1_method_3_code 2 = .ok (.iload_n 2, 1) := by decide +kernel
theorem d_CaseLayout_zone_3 : decode prog_1_method_3_code 3 = .ok (.invokevirtual 61, 3) := by decide +kernel
theorem d_CaseLayout_zone_6 : decode prog_1_method_3_code 6 = .ok (.iload_n 3, 1) := by decide +kernel
theorem d_CaseLayout_zone_7 : decode prog_1_method_3_code 7 = .ok (.iconst 0, 1) := by decide +kernel
theorem d_CaseLayout_zone_8 : decode prog_1_method_3_code 8 = .ok (.iconst 3, 1) := by decide +kernel
theorem d_CaseLayout_zone_9 : decode prog_1_method_3_code 9 = .ok (.invokestatic 84, 3) := by decide +kernel
theorem d_CaseLayout_zone_12 : decode prog_1_method_3_code 12 = .ok (.iload_n 1, 1) := by decide +kernel
theorem d_CaseLayout_zone_13 : decode prog_1_method_3_code 13 = .ok (.iload_n 2, 1) := by decide +kernel
theorem d_CaseLayout_zone_14 : decode prog_1_method_3_code 14 = .ok (.invokestatic 64, 3) := by decide +kernel
theorem d_CaseLayout_zone_17 : decode prog_1_method_3_code 17 = .ok (.istore 4, 2) := by decide +kernel
theorem d_CaseLayout_zone_19 : decode prog_1_method_3_code 19 = .ok (.aload_n 0, 1) := by decide +kernel
theorem d_CaseLayout_zone_20 : decode prog_1_method_3_code 20 = .ok (.getfield 18, 3) := by decide +kernel
theorem d_CaseLayout_zone_23 : decode prog_1_method_3_code 23 = .ok (.getfield 88, 3) := by decide +kernel
theorem d_CaseLayout_zone_26 : decode prog_1_method_3_code 26 = .ok (.iload 4, 2) := by decide +kernel
theorem d_CaseLayout_zone_28 : decode prog_1_method_3_code 28 = .ok (.iaload, 1) := by decide +kernel
theorem d_CaseLayout_zone_29 : decode prog_1_method_3_code 29 = .ok (.istore 5, 2) := by decide +kernel
theorem d_CaseLayout_zone_31 : decode prog_1_method_3_code 31 = .ok (.aload_n 0, 1) := by decide +kernel
theorem d_CaseLayout_zone_32 : decode prog_1_method_3_code 32 = .ok (.getfield 18, 3) := by decide +kernel
theorem d_CaseLayout_zone_35 : decode prog_1_method_3_code 35 = .ok (.getfield 88, 3) := by decide +kernel
theorem d_CaseLayout_zone_38 : decode prog_1_method_3_code 38 = .ok (.iload 4, 2) := by decide +kernel
theorem d_CaseLayout_zone_40 : decode prog_1_method_3_code 40 = .ok (.iload_n 3, 1) := by decide +kernel
theorem d_CaseLayout_zone_41 : decode prog_1_method_3_code 41 = .ok (.iastore, 1) := by decide +kernel
theorem d_CaseLayout_zone_42 : decode prog_1_method_3_code 42 = .ok (.aload_n 0, 1) := by decide +kernel
theorem d_CaseLayout_zone_43 : decode prog_1_method_3_code 43 = .ok (.getfield 57, 3) := by decide +kernel
theorem d_CaseLayout_zone_46 : decode prog_1_method_3_code 46 = .ok (.invokevirtual 81, 3) := by decide +kernel
theorem d_CaseLayout_zone_49 : decode prog_1_method_3_code 49 = .ok (.iload 5, 2) := by decide +kernel
theorem d_CaseLayout_zone_51 : decode prog_1_method_3_code 51 = .ok (.ireturn, 1) := by decide +kernel
theorem d_CaseLayout_needWithin_0 : decode prog_1_method_23_code 0 = .ok (.iload_n 0, 1) := by decide +kernel
theorem d_CaseLayout_needWithin_1 : decode prog_1_method_23_code 1 = .ok (.iload_n 1, 1) := by decide +kernel
theorem d_CaseLayout_needWithin_2 : decode prog_1_method_23_code 2 = .ok (.if_icmp .lt 8, 3) := by decide +kernel
theorem d_CaseLayout_needWithin_5 : decode prog_1_method_23_code 5 = .ok (.iload_n 0, 1) := by decide +kernel
theorem d_CaseLayout_needWithin_6 : decode prog_1_method_23_code 6 = .ok (.iload_n 2, 1) := by decide +kernel
theorem d_CaseLayout_needWithin_7 : decode prog_1_method_23_code 7 = .ok (.if_icmp .le 13, 3) := by decide +kernel
theorem d_CaseLayout_needWithin_10 : decode prog_1_method_23_code 10 = .ok (.new 122, 3) := by decide +kernel
theorem d_CaseLayout_needWithin_13 : decode prog_1_method_23_code 13 = .ok (.dup, 1) := by decide +kernel
theorem d_CaseLayout_needWithin_14 : decode prog_1_method_23_code 14 = .ok (.ldc 225, 2) := by decide +kernel
theorem d_CaseLayout_needWithin_16 : decode prog_1_method_23_code 16 = .ok (.invokespecial 126, 3) := by decide +kernel
theorem d_CaseLayout_needWithin_19 : decode prog_1_method_23_code 19 = .ok (.athrow, 1) := by decide +kernel
theorem d_CaseLayout_needWithin_20 : decode prog_1_method_23_code 20 = .ok (.return_, 1) := by decide +kernel
theorem d_CaseLayout_thing_0 : decode prog_1_method_4_code 0 = .ok (.aload_n 0, 1) := by decide +kernel
theorem d_CaseLayout_thing_1 : decode prog_1_method_4_code 1 = .ok (.getfield 25, 3) := by decide +kernel
theorem d_CaseLayout_thing_4 : decode prog_1_method_4_code 4 = .ok (.getfield 92, 3) := by decide +kernel
theorem d_CaseLayout_thing_7 : decode prog_1_method_4_code 7 = .ok (.bipush 7, 2) := by decide +kernel
theorem d_CaseLayout_thing_9 : decode prog_1_method_4_code 9 = .ok (.if_icmp .lt 13, 3) := by decide +kernel
theorem d_CaseLayout_thing_12 : decode prog_1_method_4_code 12 = .ok (.new 96, 3) := by decide +kernel
theorem d_CaseLayout_thing_15 : decode prog_1_method_4_code 15 = .ok (.dup, 1) := by decide +kernel
theorem d_CaseLayout_thing_16 : decode prog_1_method_4_code 16 = .ok (.ldc 98, 2) := by decide +kernel
theorem d_CaseLayout_thing_18 : decode prog_1_method_4_code 18 = .ok (.invokespecial 100, 3) := by decide +kernel
theorem d_CaseLayout_thing_21 : decode prog_1_method_4_code 21 = .ok (.athrow, 1) := by decide +kernel
theorem d_CaseLayout_thing_22 : decode prog_1_method_4_code 22 = .ok (.iload_n 1, 1) := by decide +kernel
theorem d_CaseLayout_thing_23 : decode prog_1_method_4_code 23 = .ok (.iconst 1, 1) := by decide +kernel
theorem d_CaseLayout_thing_24 : decode prog_1_method_4_code 24 = .ok (.iconst 4, 1) := by decide +kernel
theorem d_CaseLayout_thing_25 : decode prog_1_method_4_code 25 = .ok (.invokestatic 84, 3) := by decide +kernel
theorem d_CaseLayout_thing_28 : decode prog_1_method_4_code 28 = .ok (.iload_n 2, 1) := by decide +kernel
theorem d_CaseLayout_thing_29 : decode prog_1_method_4_code 29 = .ok (.iconst 1, 1) := by decide +kernel
theorem d_CaseLayout_thing_30 : decode prog_1_method_4_code 30 = .ok (.iconst 4, 1) := by decide +kernel
theorem d_CaseLayout_thing_31 : decode prog_1_method_4_code 31 = .ok (.invokestatic 84, 3) := by decide +kernel
theorem d_CaseLayout_thing_34 : decode prog_1_method_4_code 34 = .ok (.iload_n 3, 1) := by decide +kernel
theorem d_CaseLayout_thing_35 : decode prog_1_method_4_code 35 = .ok (.iconst 0, 1) := by decide +kernel
theorem d_CaseLayout_thing_36 : decode prog_1_method_4_code 36 = .ok (.iconst 3, 1) := by decide +kernel
theorem d_CaseLayout_thing_37 : decode prog_1_method_4_code 37 = .ok (.invokestatic 84, 3) := by decide +kernel
theorem d_CaseLayout_thing_40 : decode prog_1_method_4_code 40 = .ok (.aload_n 0, 1) := by decide +kernel
theorem d_CaseLayout_thing_41 : decode prog_1_method_4_code 41 = .ok (.getfield 57, 3) := by decide +kernel
theorem d_CaseLayout_thing_44 : decode prog_1_method_4_code 44 = .ok (.invokevirtual 81, 3) := by decide +kernel
theorem d_CaseLayout_thing_47 : decode prog_1_method_4_code 47 = .ok (.aload_n 0, 1) := by decide +kernel
theorem d_CaseLayout_thing_48 : decode prog_1_method_4_code 48 = .ok (.getfield 25, 3) := by decide +kernel
theorem d_CaseLayout_thing_51 : decode prog_1_method_4_code 51 = .ok (.iload_n 1, 1) := by decide +kernel
theorem d_CaseLayout_thing_52 : decode prog_1_method_4_code 52 = .ok (.iload_n 2, 1) := by decide +kernel
theorem d_CaseLayout_thing_53 : decode prog_1_method_4_code 53 = .ok (.iload_n 3, 1) := by decide +kernel
theorem d_CaseLayout_thing_54 : decode prog_1_method_4_code 54 = .ok (.invokevirtual 103, 3) := by decide +kernel
theorem d_CaseLayout_thing_57 : decode prog_1_method_4_code 57 = .ok (.ireturn, 1) := by decide +kernel
theorem d_CaseLayout_apart_0 : decode prog_1_method_5_code 0 = .ok (.aload_n 0, 1) := by decide +kernel
theorem d_CaseLayout_apart_1 : decode prog_1_method_5_code 1 = .ok (.iload_n 1, 1) := by decide +kernel
theorem d_CaseLayout_apart_2 : decode prog_1_method_5_code 2 = .ok (.iload_n 2, 1) := by decide +kernel
theorem d_CaseLayout_apart_3 : decode prog_1_method_5_code 3 = .ok (.invokevirtual 106, 3) := by decide +kernel
theorem d_CaseLayout_apart_6 : decode prog_1_method_5_code 6 = .ok (.iload_n 3, 1) := by decide +kernel
theorem d_CaseLayout_apart_7 : decode prog_1_method_5_code 7 = .ok (.iconst 0, 1) := by decide +kernel
theorem d_CaseLayout_apart_8 : decode prog_1_method_5_code 8 = .ok (.iconst 5, 1) := by decide +kernel
theorem d_CaseLayout_apart_9 : decode prog_1_method_5_code 9 = .ok (.invokestatic 84, 3) := by decide +kernel
theorem d_CaseLayout_apart_12 : decode prog_1_method_5_code 12 = .ok (.aload_n 0, 1) := by decide +kernel
theorem d_CaseLayout_apart_13 : decode prog_1_method_5_code 13 = .ok (.getfield 57, 3) := by decide +kernel
theorem d_CaseLayout_apart_16 : decode prog_1_method_5_code 16 = .ok (.invokevirtual 81, 3) := by decide +kernel
theorem d_CaseLayout_apart_19 : decode prog_1_method_5_code 19 = .ok (.aload_n 0, 1) := by decide +kernel
theorem d_CaseLayout_apart_20 : decode prog_1_method_5_code 20 = .ok (.getfield 25, 3) := by decide +kernel
theorem d_CaseLayout_apart_23 : decode prog_1_method_5_code 23 = .ok (.getfield 109, 3) := by decide +kernel
theorem d_CaseLayout_apart_26 : decode prog_1_method_5_code 26 = .ok (.iload_n 1, 1) := by decide +kernel
theorem d_CaseLayout_apart_27 : decode prog_1_method_5_code 27 = .ok (.iload_n 2, 1) := by decide +kernel
theorem d_CaseLayout_apart_28 : decode prog_1_method_5_code 28 = .ok (.iload_n 3, 1) := by decide +kernel
theorem d_CaseLayout_apart_29 : decode prog_1_method_5_code 29 = .ok (.invokestatic 112, 3) := by decide +kernel
theorem d_CaseLayout_apart_32 : decode prog_1_method_5_code 32 = .ok (.ireturn, 1) := by decide +kernel
theorem d_CaseLayout_needPair_0 : decode prog_1_method_21_code 0 = .ok (.aload_n 0, 1) := by decide +kernel
theorem d_CaseLayout_needPair_1 : decode prog_1_method_21_code 1 = .ok (.iload_n 1, 1) := by decide +kernel
theorem d_CaseLayout_needPair_2 : decode prog_1_method_21_code 2 = .ok (.invokevirtual 133, 3) := by decide +kernel
theorem d_CaseLayout_needPair_5 : decode prog_1_method_21_code 5 = .ok (.aload_n 0, 1) := by decide +kernel
theorem d_CaseLayout_needPair_6 : decode prog_1_method_21_code 6 = .ok (.iload_n 2, 1) := by decide +kernel
theorem d_CaseLayout_needPair_7 : decode prog_1_method_21_code 7 = .ok (.invokevirtual 133, 3) := by decide +kernel
theorem d_CaseLayout_needPair_10 : decode prog_1_method_21_code 10 = .ok (.iload_n 1, 1) := by decide +kernel
theorem d_CaseLayout_needPair_11 : decode prog_1_method_21_code 11 = .ok (.iload_n 2, 1) := by decide +kernel
theorem d_CaseLayout_needPair_12 : decode prog_1_method_21_code 12 = .ok (.if_icmp .ne 13, 3) := by decide +kernel
theorem d_CaseLayout_needPair_15 : decode prog_1_method_21_code 15 = .ok (.new 122, 3) := by decide +kernel
theorem d_CaseLayout_needPair_18 : decode prog_1_method_21_code 18 = .ok (.dup, 1) := by decide +kernel
theorem d_CaseLayout_needPair_19 : decode prog_1_method_21_code 19 = .ok (.ldc 221, 2) := by decide +kernel
theorem d_CaseLayout_needPair_21 : decode prog_1_method_21_code 21 = .ok (.invokespecial 126, 3) := by decide +kernel
theorem d_CaseLayout_needPair_24 : decode prog_1_method_21_code 24 = .ok (.athrow, 1) := by decide +kernel
theorem d_CaseLayout_needPair_25 : decode prog_1_method_21_code 25 = .ok (.return_, 1) := by decide +kernel
theorem d_CaseLayout_needThing_0 : decode prog_1_method_19_code 0 = .ok (.iload_n 1, 1) := by decide +kernel
theorem d_CaseLayout_needThing_1 : decode prog_1_method_19_code 1 = .ok (.ifCond .lt 14, 3) := by decide +kernel
theorem d_CaseLayout_needThing_4 : decode prog_1_method_19_code 4 = .ok (.iload_n 1, 1) := by decide +kernel
theorem d_CaseLayout_needThing_5 : decode prog_1_method_19_code 5 = .ok (.aload_n 0, 1) := by decide +kernel
theorem d_CaseLayout_needThing_6 : decode prog_1_method_19_code 6 = .ok (.getfield 25, 3) := by decide +kernel
theorem d_CaseLayout_needThing_9 : decode prog_1_method_19_code 9 = .ok (.getfield 92, 3) := by decide +kernel
theorem d_CaseLayout_needThing_12 : decode prog_1_method_19_code 12 = .ok (.if_icmp .lt 13, 3) := by decide +kernel
theorem d_CaseLayout_needThing_15 : decode prog_1_method_19_code 15 = .ok (.new 167, 3) := by decide +kernel
