theorem d_Mod_sees_3 : decode prog_10_method_17_code 3 = .ok (.aload_n 0, 1) := by decide +kernel
theorem d_Mod_sees_4 : decode prog_10_method_17_code 4 = .ok (.getfield 99, 3) := by decide +kernel
theorem d_Mod_sees_7 : decode prog_10_method_17_code 7 = .ok (.iconst 1, 1) := by decide +kernel
theorem d_Mod_sees_8 : decode prog_10_method_17_code 8 = .ok (.isub, 1) := by decide +kernel
theorem d_Mod_sees_9 : decode prog_10_method_17_code 9 = .ok (.invokestatic 82, 3) := by decide +kernel
theorem d_Mod_sees_12 : decode prog_10_method_17_code 12 = .ok (.ifCond .eq 11, 3) := by decide +kernel
theorem d_Mod_sees_15 : decode prog_10_method_17_code 15 = .ok (.aload_n 0, 1) := by decide +kernel
theorem d_Mod_sees_16 : decode prog_10_method_17_code 16 = .ok (.iload_n 2, 1) := by decide +kernel
theorem d_Mod_sees_17 : decode prog_10_method_17_code 17 = .ok (.invokevirtual 119, 3) := by decide +kernel
theorem d_Mod_sees_20 : decode prog_10_method_17_code 20 = .ok (.ifCond .ne 7, 3) := by decide +kernel
theorem d_Mod_sees_23 : decode prog_10_method_17_code 23 = .ok (.iconst 1, 1) := by decide +kernel
theorem d_Mod_sees_24 : decode prog_10_method_17_code 24 = .ok (.goto 4, 3) := by decide +kernel
theorem d_Mod_sees_27 : decode prog_10_method_17_code 27 = .ok (.iconst 0, 1) := by decide +kernel
theorem d_Mod_sees_28 : decode prog_10_method_17_code 28 = .ok (.iconst 0, 1) := by decide +kernel
theorem d_Mod_sees_29 : decode prog_10_method_17_code 29 = .ok (.iconst 0, 1) := by decide +kernel
theorem d_Mod_sees_30 : decode prog_10_method_17_code 30 = .ok (.invokevirtual 106, 3) := by decide +kernel
theorem d_Mod_sees_33 : decode prog_10_method_17_code 33 = .ok (.ifCond .eq 5, 3) := by decide +kernel
theorem d_Mod_sees_36 : decode prog_10_method_17_code 36 = .ok (.iconst 0, 1) := by decide +kernel
theorem d_Mod_sees_37 : decode prog_10_method_17_code 37 = .ok (.ireturn, 1) := by decide +kernel
theorem d_Mod_sees_38 : decode prog_10_method_17_code 38 = .ok (.aload_n 0, 1) := by decide +kernel
theorem d_Mod_sees_39 : decode prog_10_method_17_code 39 = .ok (.getfield 38, 3) := by decide +kernel
theorem d_Mod_sees_42 : decode prog_10_method_17_code 42 = .ok (.bipush 7, 2) := by decide +kernel
theorem d_Mod_sees_44 : decode prog_10_method_17_code 44 = .ok (.iload_n 1, 1) := by decide +kernel
theorem d_Mod_sees_45 : decode prog_10_method_17_code 45 = .ok (.imul, 1) := by decide +kernel
theorem d_Mod_sees_46 : decode prog_10_method_17_code 46 = .ok (.iload_n 2, 1) := by decide +kernel
theorem d_Mod_sees_47 : decode prog_10_method_17_code 47 = .ok (.iadd, 1) := by decide +kernel
theorem d_Mod_sees_48 : decode prog_10_method_17_code 48 = .ok (.baload, 1) := by decide +kernel
theorem d_Mod_sees_49 : decode prog_10_method_17_code 49 = .ok (.istore 4, 2) := by decide +kernel
theorem d_Mod_sees_51 : decode prog_10_method_17_code 51 = .ok (.aload_n 0, 1) := by decide +kernel
theorem d_Mod_sees_52 : decode prog_10_method_17_code 52 = .ok (.getfield 38, 3) := by decide +kernel
theorem d_Mod_sees_55 : decode prog_10_method_17_code 55 = .ok (.bipush 7, 2) := by decide +kernel
theorem d_Mod_sees_57 : decode prog_10_method_17_code 57 = .ok (.iload_n 1, 1) := by decide +kernel
theorem d_Mod_sees_58 : decode prog_10_method_17_code 58 = .ok (.imul, 1) := by decide +kernel
theorem d_Mod_sees_59 : decode prog_10_method_17_code 59 = .ok (.iload_n 2, 1) := by decide +kernel
theorem d_Mod_sees_60 : decode prog_10_method_17_code 60 = .ok (.iadd, 1) := by decide +kernel
theorem d_Mod_sees_61 : decode prog_10_method_17_code 61 = .ok (.iload_n 3, 1) := by decide +kernel
theorem d_Mod_sees_62 : decode prog_10_method_17_code 62 = .ok (.bastore, 1) := by decide +kernel
theorem d_Mod_sees_63 : decode prog_10_method_17_code 63 = .ok (.aload_n 0, 1) := by decide +kernel
theorem d_Mod_sees_64 : decode prog_10_method_17_code 64 = .ok (.invokevirtual 116, 3) := by decide +kernel
theorem d_Mod_sees_67 : decode prog_10_method_17_code 67 = .ok (.iload 4, 2) := by decide +kernel
theorem d_Mod_sees_69 : decode prog_10_method_17_code 69 = .ok (.iload_n 3, 1) := by decide +kernel
theorem d_Mod_sees_70 : decode prog_10_method_17_code 70 = .ok (.if_icmp .eq 7, 3) := by decide +kernel
theorem d_Mod_sees_73 : decode prog_10_method_17_code 73 = .ok (.iconst 1, 1) := by decide +kernel
theorem d_Mod_sees_74 : decode prog_10_method_17_code 74 = .ok (.goto 4, 3) := by decide +kernel
theorem d_Mod_sees_77 : decode prog_10_method_17_code 77 = .ok (.iconst 0, 1) := by decide +kernel
theorem d_Mod_sees_78 : decode prog_10_method_17_code 78 = .ok (.ireturn, 1) := by decide +kernel
theorem d_Mod_sight_0 : decode prog_10_method_41_code 0 = .ok (.aload_n 0, 1) := by decide +kernel
theorem d_Mod_sight_1 : decode prog_10_method_41_code 1 = .ok (.iload_n 1, 1) := by decide +kernel
theorem d_Mod_sight_2 : decode prog_10_method_41_code 2 = .ok (.iconst 0, 1) := by decide +kernel
theorem d_Mod_sight_3 : decode prog_10_method_41_code 3 = .ok (.aload_n 0, 1) := by decide +kernel
theorem d_Mod_sight_4 : decode prog_10_method_41_code 4 = .ok (.getfield 99, 3) := by decide +kernel
theorem d_Mod_sight_7 : decode prog_10_method_41_code 7 = .ok (.iconst 1, 1) := by decide +kernel
theorem d_Mod_sight_8 : decode prog_10_method_41_code 8 = .ok (.isub, 1) := by decide +kernel
theorem d_Mod_sight_9 : decode prog_10_method_41_code 9 = .ok (.invokestatic 82, 3) := by decide +kernel
theorem d_Mod_sight_12 : decode prog_10_method_41_code 12 = .ok (.ifCond .eq 11, 3) := by decide +kernel
theorem d_Mod_sight_15 : decode prog_10_method_41_code 15 = .ok (.aload_n 0, 1) := by decide +kernel
theorem d_Mod_sight_16 : decode prog_10_method_41_code 16 = .ok (.iload_n 2, 1) := by decide +kernel
theorem d_Mod_sight_17 : decode prog_10_method_41_code 17 = .ok (.invokevirtual 119, 3) := by decide +kernel
theorem d_Mod_sight_20 : decode prog_10_method_41_code 20 = .ok (.ifCond .ne 7, 3) := by decide +kernel
theorem d_Mod_sight_23 : decode prog_10_method_41_code 23 = .ok (.iconst 1, 1) := by decide +kernel
theorem d_Mod_sight_24 : decode prog_10_method_41_code 24 = .ok (.goto 4, 3) := by decide +kernel
theorem d_Mod_sight_27 : decode prog_10_method_41_code 27 = .ok (.iconst 0, 1) := by decide +kernel
theorem d_Mod_sight_28 : decode prog_10_method_41_code 28 = .ok (.aload_n 0, 1) := by decide +kernel
theorem d_Mod_sight_29 : decode prog_10_method_41_code 29 = .ok (.getfield 89, 3) := by decide +kernel
theorem d_Mod_sight_32 : decode prog_10_method_41_code 32 = .ok (.ifCond .ne 7, 3) := by decide +kernel
theorem d_Mod_sight_35 : decode prog_10_method_41_code 35 = .ok (.iconst 1, 1) := by decide +kernel
theorem d_Mod_sight_36 : decode prog_10_method_41_code 36 = .ok (.goto 4, 3) := by decide +kernel
theorem d_Mod_sight_39 : decode prog_10_method_41_code 39 = .ok (.iconst 0, 1) := by decide +kernel
theorem d_Mod_sight_40 : decode prog_10_method_41_code 40 = .ok (.iconst 0, 1) := by decide +kernel
theorem d_Mod_sight_41 : decode prog_10_method_41_code 41 = .ok (.invokevirtual 106, 3) := by decide +kernel
theorem d_Mod_sight_44 : decode prog_10_method_41_code 44 = .ok (.ifCond .eq 5, 3) := by decide +kernel
theorem d_Mod_sight_47 : decode prog_10_method_41_code 47 = .ok (.iconst 0, 1) := by decide +kernel
theorem d_Mod_sight_48 : decode prog_10_method_41_code 48 = .ok (.ireturn, 1) := by decide +kernel
theorem d_Mod_sight_49 : decode prog_10_method_41_code 49 = .ok (.aload_n 0, 1) := by decide +kernel
theorem d_Mod_sight_50 : decode prog_10_method_41_code 50 = .ok (.invokevirtual 179, 3) := by decide +kernel
theorem d_Mod_sight_53 : decode prog_10_method_41_code 53 = .ok (.aload_n 0, 1) := by decide +kernel
theorem d_Mod_sight_54 : decode prog_10_method_41_code 54 = .ok (.iload_n 1, 1) := by decide +kernel
theorem d_Mod_sight_55 : decode prog_10_method_41_code 55 = .ok (.iload_n 2, 1) := by decide +kernel
theorem d_Mod_sight_56 : decode prog_10_method_41_code 56 = .ok (.invokevirtual 150, 3) := by decide +kernel
theorem d_Mod_sight_59 : decode prog_10_method_41_code 59 = .ok (.ireturn, 1) := by decide +kernel
theorem d_Mod_stepsFrom_0 : decode prog_10_method_29_code 0 = .ok (.aload_n 0, 1) := by decide +kernel
theorem d_Mod_stepsFrom_1 : decode prog_10_method_29_code 1 = .ok (.iload_n 1, 1) := by decide +kernel
theorem d_Mod_stepsFrom_2 : decode prog_10_method_29_code 2 = .ok (.iload_n 2, 1) := by decide +kernel
theorem d_Mod_stepsFrom_3 : decode prog_10_method_29_code 3 = .ok (.invokevirtual 102, 3) := by decide +kernel
theorem d_Mod_stepsFrom_6 : decode prog_10_method_29_code 6 = .ok (.ifCond .eq 17, 3) := by decide +kernel
theorem d_Mod_stepsFrom_9 : decode prog_10_method_29_code 9 = .ok (.aload_n 0, 1) := by decide +kernel
theorem d_Mod_stepsFrom_10 : decode prog_10_method_29_code 10 = .ok (.getfield 66, 3) := by decide +kernel
theorem d_Mod_stepsFrom_13 : decode prog_10_method_29_code 13 = .ok (.bipush 9, 2) := by decide +kernel
theorem d_Mod_stepsFrom_15 : decode prog_10_method_29_code 15 = .ok (.iload_n 2, 1) := by decide +kernel
theorem d_Mod_stepsFrom_16 : decode prog_10_method_29_code 16 = .ok (.imul, 1) := by decide +kernel
theorem d_Mod_stepsFrom_17 : decode prog_10_method_29_code 17 = .ok (.iload_n 1, 1) := by decide +kernel
theorem d_Mod_stepsFrom_18 : decode prog_10_method_29_code 18 = .ok (.iadd, 1) := by decide +kernel
theorem d_Mod_stepsFrom_19 : decode prog_10_method_29_code 19 = .ok (.iaload, 1) := by decide +kernel
theorem d_Mod_stepsFrom_20 : decode prog_10_method_29_code 20 = .ok (.goto 6, 3) := by decide +kernel
theorem d_Mod_stepsFrom_23 : decode prog_10_method_29_code 23 = .ok (.sipush 1000, 3) := by decide +kernel
theorem d_Mod_stepsFrom_26 : decode prog_10_method_29_code 26 = .ok (.ireturn, 1) := by decide +kernel
theorem d_Mod_thing_0 : decode prog_10_method_13_code 0 = .ok (.aload_n 0, 1) := by decide +kernel
theorem d_Mod_thing_1 : decode prog_10_method_13_code 1 = .ok (.aload_n 0, 1) := by decide +kernel
theorem d_Mod_thing_2 : decode prog_10_method_13_code 2 = .ok (.getfield 86, 3) := by decide +kernel
theorem d_Mod_thing_5 : decode prog_10_method_13_code 5 = .ok (.bipush 7, 2) := by decide +kernel
theorem d_Mod_thing_7 : decode prog_10_method_13_code 7 = .ok (.if_icmp .ne 7, 3) := by decide +kernel
theorem d_Mod_thing_10 : decode prog_10_method_13_code 10 = .ok (.iconst 1, 1) := by decide +kernel
theorem d_Mod_thing_11 : decode prog_10_method_13_code 11 = .ok (.goto 4, 3) := by decide +kernel
theorem d_Mod_thing_14 : decode prog_10_method_13_code 14 = .ok (.iconst 0, 1) := by decide +kernel
theorem d_Mod_thing_15 : decode prog_10_method_13_code 15 = .ok (.iload_n 1, 1) := by decide +kernel
theorem d_Mod_thing_16 : decode prog_10_method_13_code 16 = .ok (.iconst 1, 1) := by decide +kernel
theorem d_Mod_thing_17 : decode prog_10_method_13_code 17 = .ok (.iconst 4, 1) := by decide +kernel
theorem d_Mod_thing_18 : decode prog_10_method_13_code 18 = .ok (.invokestatic 82, 3) := by decide +kernel
theorem d_Mod_thing_21 : decode prog_10_method_13_code 21 = .ok (.ifCond .eq 21, 3) := by decide +kernel
theorem d_Mod_thing_24 : decode prog_10_method_13_code 24 = .ok (.iload_n 2, 1) := by decide +kernel
theorem d_Mod_thing_25 : decode prog_10_method_13_code 25 = .ok (.iconst 1, 1) := by decide +kernel
theorem d_Mod_thing_26 : decode prog_10_method_13_code 26 = .ok (.iconst 4, 1) := by decide +kernel
theorem d_Mod_thing_27 : decode prog_10_method_13_code 27 = .ok (.invokestatic 82, 3) := by decide +kernel
theorem d_Mod_thing_30 : decode prog_10_method_13_code 30 = .ok (.ifCond .eq 12, 3) := by decide +kernel
theorem d_Mod_thing_33 : decode prog_10_method_13_code 33 = .ok (.iload_n 3, 1) := by decide +kernel
theorem d_Mod_thing_34 : decode prog_10_method_13_code 34 = .ok (.iconst 0, 1) := by decide +kernel
theorem d_Mod_thing_35 : decode prog_10_method_13_code 35 = .ok (.iconst 3, 1) := by decide +kernel
theorem d_Mod_thing_36 : decode prog_10_method_13_code 36 = .ok (.invokestatic 82, 3) := by decide +kernel
theorem d_Mod_thing_39 : decode prog_10_method_13_code 39 = .ok (.ifCond .ne 7, 3) := by decide +kernel
theorem d_Mod_thing_42 : decode prog_10_method_13_code 42 = .ok (.iconst 1, 1) := by decide +kernel
theorem d_Mod_thing_43 : decode prog_10_method_13_code 43 = .ok (.goto 4, 3) := by decide +kernel
theorem d_Mod_thing_46 : decode prog_10_method_13_code 46 = .ok (.iconst 0, 1) := by decide +kernel
theorem d_Mod_thing_47 : decode prog_10_method_13_code 47 = .ok (.iconst 0, 1) := by decide +kernel
theorem d_Mod_thing_48 : decode prog_10_method_13_code 48 = .ok (.invokevirtual 106, 3) := by decide +kernel
theorem d_Mod_thing_51 : decode prog_10_method_13_code 51 = .ok (.ifCond .eq 5, 3) := by decide +kernel
theorem d_Mod_thing_54 : decode prog_10_method_13_code 54 = .ok (.iconst 0, 1) := by decide +kernel
theorem d_Mod_thing_55 : decode prog_10_method_13_code 55 = .ok (.ireturn, 1) := by decide +kernel
theorem d_Mod_thing_56 : decode prog_10_method_13_code 56 = .ok (.aload_n 0, 1) := by decide +kernel
theorem d_Mod_thing_57 : decode prog_10_method_13_code 57 = .ok (.getfield 17, 3) := by decide +kernel
theorem d_Mod_thing_60 : decode prog_10_method_13_code 60 = .ok (.aload_n 0, 1) := by decide +kernel
theorem d_Mod_thing_61 : decode prog_10_method_13_code 61 = .ok (.getfield 86, 3) := by decide +kernel
theorem d_Mod_thing_64 : decode prog_10_method_13_code 64 = .ok (.iload_n 1, 1) := by decide +kernel
theorem d_Mod_thing_65 : decode prog_10_method_13_code 65 = .ok (.iastore, 1) := by decide +kernel
theorem d_Mod_thing_66 : decode prog_10_method_13_code 66 = .ok (.aload_n 0, 1) := by decide +kernel
theorem d_Mod_thing_67 : decode prog_10_method_13_code 67 = .ok (.getfield 20, 3) := by decide +kernel
theorem d_Mod_thing_70 : decode prog_10_method_13_code 70 = .ok (.aload_n 0, 1) := by decide +kernel
theorem d_Mod_thing_71 : decode prog_10_method_13_code 71 = .ok (.getfield 86, 3) := by decide +kernel
theorem d_Mod_thing_74 : decode prog_10_method_13_code 74 = .ok (.iload_n 2, 1) := by decide +kernel
theorem d_Mod_thing_75 : decode prog_10_method_13_code 75 = .ok (.iastore, 1) := by decide +kernel
theorem d_Mod_thing_76 : decode prog_10_method_13_code 76 = .ok (.aload_n 0, 1) := by decide +kernel
theorem d_Mod_thing_77 : decode prog_10_method_13_code 77 = .ok (.getfield 23, 3) := by decide +kernel
theorem d_Mod_thing_80 : decode prog_10_method_13_code 80 = .ok (.aload_n 0, 1) := by decide +kernel
theorem d_Mod_thing_81 : decode prog_10_method_13_code 81 = .ok (.getfield 86, 3) := by decide +kernel
theorem d_Mod_thing_84 : decode prog_10_method_13_code 84 = .ok (.iload_n 3, 1) := by decide +kernel
theorem d_Mod_thing_85 : decode prog_10_method_13_code 85 = .ok (.iastore, 1) := by decide +kernel
theorem d_Mod_thing_86 : decode prog_10_method_13_code 86 = .ok (.aload_n 0, 1) := by decide +kernel
theorem d_Mod_thing_87 : decode prog_10_method_13_code 87 = .ok (.dup, 1) := by decide +kernel
theorem d_Mod_thing_88 : decode prog_10_method_13_code 88 = .ok (.getfield 86, 3) := by decide +kernel
theorem d_Mod_thing_91 : decode prog_10_method_13_code 91 = .ok (.iconst 1, 1) := by decide +kernel
theorem d_Mod_thing_92 : decode prog_10_method_13_code 92 = .ok (.iadd, 1) := by decide +kernel
theorem d_Mod_thing_93 : decode prog_10_method_13_code 93 = .ok (.putfield 86, 3) := by decide +kernel
theorem d_Mod_thing_96 : decode prog_10_method_13_code 96 = .ok (.aload_n 0, 1) := by decide +kernel
theorem d_Mod_thing_97 : decode prog_10_method_13_code 97 = .ok (.invokevirtual 116, 3) := by decide +kernel
theorem d_Mod_thing_100 : decode prog_10_method_13_code 100 = .ok (.aload_n 0, 1) := by decide +kernel
theorem d_Mod_thing_101 : decode prog_10_method_13_code 101 = .ok (.getfield 86, 3) := by decide +kernel
theorem d_Mod_thing_104 : decode prog_10_method_13_code 104 = .ok (.iconst 1, 1) := by decide +kernel
theorem d_Mod_thing_105 : decode prog_10_method_13_code 105 = .ok (.isub, 1) := by decide +kernel
theorem d_Mod_thing_106 : decode prog_10_method_13_code 106 = .ok (.ireturn, 1) := by decide +kernel
theorem d_Mod_throwing_0 : decode prog_10_method_4_code 0 = .ok (.aload_n 0, 1) := by decide +kernel
theorem d_Mod_throwing_1 : decode prog_10_method_4_code 1 = .ok (.iload_n 1, 1) := by decide +kernel
theorem d_Mod_throwing_2 : decode prog_10_method_4_code 2 = .ok (.ifCond .eq 7, 3) := by decide +kernel
theorem d_Mod_throwing_5 : decode prog_10_method_4_code 5 = .ok (.iconst 1, 1) := by decide +kernel
theorem d_Mod_throwing_6 : decode prog_10_method_4_code 6 = .ok (.goto 20, 3) := by decide +kernel
theorem d_Mod_throwing_9 : decode prog_10_method_4_code 9 = .ok (.iload_n 2, 1) := by decide +kernel
theorem d_Mod_throwing_10 : decode prog_10_method_4_code 10 = .ok (.ifCond .eq 7, 3) := by decide +kernel
theorem d_Mod_throwing_13 : decode prog_10_method_4_code 13 = .ok (.iconst 2, 1) := by decide +kernel
theorem d_Mod_throwing_14 : decode prog_10_method_4_code 14 = .ok (.goto 12, 3) := by decide +kernel
theorem d_Mod_throwing_17 : decode prog_10_method_4_code 17 = .ok (.iload_n 3, 1) := by decide +kernel
theorem d_Mod_throwing_18 : decode prog_10_method_4_code 18 = .ok (.ifCond .eq 7, 3) := by decide +kernel
theorem d_Mod_throwing_21 : decode prog_10_method_4_code 21 = .ok (.iconst 3, 1) := by decide +kernel
theorem d_Mod_throwing_22 : decode prog_10_method_4_code 22 = .ok (.goto 4, 3) := by decide +kernel
theorem d_Mod_throwing_25 : decode prog_10_method_4_code 25 = .ok (.iconst 0, 1) := by decide +kernel
theorem d_Mod_throwing_26 : decode prog_10_method_4_code 26 = .ok (.putfield 79, 3) := by decide +kernel
theorem d_Mod_throwing_29 : decode prog_10_method_4_code 29 = .ok (.aload_n 0, 1) := by decide +kernel
theorem d_Mod_throwing_30 : decode prog_10_method_4_code 30 = .ok (.getfield 79, 3) := by decide +kernel
theorem d_Mod_throwing_33 : decode prog_10_method_4_code 33 = .ok (.ifCond .le 7, 3) := by decide +kernel
theorem d_Mod_throwing_36 : decode prog_10_method_4_code 36 = .ok (.iconst 1, 1) := by decide +kernel
theorem d_Mod_throwing_37 : decode prog_10_method_4_code 37 = .ok (.goto 4, 3) := by decide +kernel
theorem d_Mod_throwing_40 : decode prog_10_method_4_code 40 = .ok (.iconst 0, 1) := by decide +kernel
theorem d_Mod_throwing_41 : decode prog_10_method_4_code 41 = .ok (.ireturn, 1) := by decide +kernel
theorem d_Mod_thrown_0 : decode prog_10_method_3_code 0 = .ok (.aload_n 0, 1) := by decide +kernel
theorem d_Mod_thrown_1 : decode prog_10_method_3_code 1 = .ok (.getfield 79, 3) := by decide +kernel
theorem d_Mod_thrown_4 : decode prog_10_method_3_code 4 = .ok (.ireturn, 1) := by decide +kernel
theorem d_Mod_wall_0 : decode prog_10_method_11_code 0 = .ok (.aload_n 0, 1) := by decide +kernel
theorem d_Mod_wall_1 : decode prog_10_method_11_code 1 = .ok (.aload_n 0, 1) := by decide +kernel
theorem d_Mod_wall_2 : decode prog_10_method_11_code 2 = .ok (.iload_n 1, 1) := by decide +kernel
theorem d_Mod_wall_3 : decode prog_10_method_11_code 3 = .ok (.iload_n 2, 1) := by decide +kernel
theorem d_Mod_wall_4 : decode prog_10_method_11_code 4 = .ok (.invokevirtual 102, 3) := by decide +kernel
theorem d_Mod_wall_7 : decode prog_10_method_11_code 7 = .ok (.ifCond .ne 7, 3) := by decide +kernel
theorem d_Mod_wall_10 : decode prog_10_method_11_code 10 = .ok (.iconst 1, 1) := by decide +kernel
theorem d_Mod_wall_11 : decode prog_10_method_11_code 11 = .ok (.goto 4, 3) := by decide +kernel
theorem d_Mod_wall_14 : decode prog_10_method_11_code 14 = .ok (.iconst 0, 1) := by decide +kernel
theorem d_Mod_wall_15 : decode prog_10_method_11_code 15 = .ok (.iconst 0, 1) := by decide +kernel
theorem d_Mod_wall_16 : decode prog_10_method_11_code 16 = .ok (.iconst 0, 1) := by decide +kernel
theorem d_Mod_wall_17 : decode prog_10_method_11_code 17 = .ok (.invokevirtual 106, 3) := by decide +kernel
theorem d_Mod_wall_20 : decode prog_10_method_11_code 20 = .ok (.ifCond .eq 5, 3) := by decide +kernel
theorem d_Mod_wall_23 : decode prog_10_method_11_code 23 = .ok (.iconst 0, 1) := by decide +kernel
theorem d_Mod_wall_24 : decode prog_10_method_11_code 24 = .ok (.ireturn, 1) := by decide +kernel
theorem d_Mod_wall_25 : decode prog_10_method_11_code 25 = .ok (.aload_n 0, 1) := by decide +kernel
theorem d_Mod_wall_26 : decode prog_10_method_11_code 26 = .ok (.iload_n 1, 1) := by decide +kernel
theorem d_Mod_wall_27 : decode prog_10_method_11_code 27 = .ok (.iload_n 2, 1) := by decide +kernel
theorem d_Mod_wall_28 : decode prog_10_method_11_code 28 = .ok (.invokevirtual 110, 3) := by decide +kernel
theorem d_Mod_wall_31 : decode prog_10_method_11_code 31 = .ok (.ifCond .ne 27, 3) := by decide +kernel
theorem d_Mod_wall_34 : decode prog_10_method_11_code 34 = .ok (.aload_n 0, 1) := by decide +kernel
theorem d_Mod_wall_35 : decode prog_10_method_11_code 35 = .ok (.iload_n 1, 1) := by decide +kernel
theorem d_Mod_wall_36 : decode prog_10_method_11_code 36 = .ok (.iload_n 2, 1) := by decide +kernel
theorem d_Mod_wall_37 : decode prog_10_method_11_code 37 = .ok (.invokevirtual 113, 3) := by decide +kernel
theorem d_Mod_wall_40 : decode prog_10_method_11_code 40 = .ok (.ifCond .ne 18, 3) := by decide +kernel
theorem d_Mod_wall_43 : decode prog_10_method_11_code 43 = .ok (.aload_n 0, 1) := by decide +kernel
theorem d_Mod_wall_44 : decode prog_10_method_11_code 44 = .ok (.getfield 7, 3) := by decide +kernel
theorem d_Mod_wall_47 : decode prog_10_method_11_code 47 = .ok (.bipush 9, 2) := by decide +kernel
theorem d_Mod_wall_49 : decode prog_10_method_11_code 49 = .ok (.iload_n 2, 1) := by decide +kernel
theorem d_Mod_wall_50 : decode prog_10_method_11_code 50 = .ok (.imul, 1) := by decide +kernel
theorem d_Mod_wall_51 : decode prog_10_method_11_code 51 = .ok (.iload_n 1, 1) := by decide +kernel
theorem d_Mod_wall_52 : decode prog_10_method_11_code 52 = .ok (.iadd, 1) := by decide +kernel
theorem d_Mod_wall_53 : decode prog_10_method_11_code 53 = .ok (.baload, 1) := by decide +kernel
theorem d_Mod_wall_54 : decode prog_10_method_11_code 54 = .ok (.iload_n 3, 1) := by decide +kernel
theorem d_Mod_wall_55 : decode prog_10_method_11_code 55 = .ok (.if_icmp .ne 5, 3) := by decide +kernel
theorem d_Mod_wall_58 : decode prog_10_method_11_code 58 = .ok (.iconst 0, 1) := by decide +kernel
theorem d_Mod_wall_59 : decode prog_10_method_11_code 59 = .ok (.ireturn, 1) := by decide +kernel
theorem d_Mod_wall_60 : decode prog_10_method_11_code 60 = .ok (.aload_n 0, 1) := by decide +kernel
theorem d_Mod_wall_61 : decode prog_10_method_11_code 61 = .ok (.getfield 7, 3) := by decide +kernel
theorem d_Mod_wall_64 : decode prog_10_method_11_code 64 = .ok (.bipush 9, 2) := by decide +kernel
theorem d_Mod_wall_66 : decode prog_10_method_11_code 66 = .ok (.iload_n 2, 1) := by decide +kernel
theorem d_Mod_wall_67 : decode prog_10_method_11_code 67 = .ok (.imul, 1) := by decide +kernel
theorem d_Mod_wall_68 : decode prog_10_method_11_code 68 = .ok (.iload_n 1, 1) := by decide +kernel
theorem d_Mod_wall_69 : decode prog_10_method_11_code 69 = .ok (.iadd, 1) := by decide +kernel
theorem d_Mod_wall_70 : decode prog_10_method_11_code 70 = .ok (.iload_n 3, 1) := by decide +kernel
theorem d_Mod_wall_71 : decode prog_10_method_11_code 71 = .ok (.bastore, 1) := by decide +kernel
theorem d_Mod_wall_72 : decode prog_10_method_11_code 72 = .ok (.aload_n 0, 1) := by decide +kernel
theorem d_Mod_wall_73 : decode prog_10_method_11_code 73 = .ok (.invokevirtual 116, 3) := by decide +kernel
theorem d_Mod_wall_76 : decode prog_10_method_11_code 76 = .ok (.iconst 1, 1) := by decide +kernel
theorem d_Mod_wall_77 : decode prog_10_method_11_code 77 = .ok (.ireturn, 1) := by decide +kernel
theorem d_Mod_wallCount_0 : decode prog_10_method_43_code 0 = .ok (.iconst 0, 1) := by decide +kernel
theorem d_Mod_wallCount_1 : decode prog_10_method_43_code 1 = .ok (.istore_n 1, 1) := by decide +kernel
theorem d_Mod_wallCount_2 : decode prog_10_method_43_code 2 = .ok (.iconst 0, 1) := by decide +kernel
theorem d_Mod_wallCount_3 : decode prog_10_method_43_code 3 = .ok (.istore_n 2, 1) := by decide +kernel
theorem d_Mod_wallCount_4 : decode prog_10_method_43_code 4 = .ok (.iload_n 2, 1) := by decide +kernel
theorem d_Mod_wallCount_5 : decode prog_10_method_43_code 5 = .ok (.bipush 81, 2) := by decide +kernel
theorem d_Mod_wallCount_7 : decode prog_10_method_43_code 7 = .ok (.if_icmp .ge 26, 3) := by decide +kernel
theorem d_Mod_wallCount_10 : decode prog_10_method_43_code 10 = .ok (.iload_n 1, 1) := by decide +kernel
theorem d_Mod_wallCount_11 : decode prog_10_method_43_code 11 = .ok (.aload_n 0, 1) := by decide +kernel
theorem d_Mod_wallCount_12 : decode prog_10_method_43_code 12 = .ok (.getfield 7, 3) := by decide +kernel
theorem d_Mod_wallCount_15 : decode prog_10_method_43_code 15 = .ok (.iload_n 2, 1) := by decide +kernel
theorem d_Mod_wallCount_16 : decode prog_10_method_43_code 16 = .ok (.baload, 1) := by decide +kernel
theorem d_Mod_wallCount_17 : decode prog_10_method_43_code 17 = .ok (.ifCond .eq 7, 3) := by decide +kernel
theorem d_Mod_wallCount_20 : decode prog_10_method_43_code 20 = .ok (.iconst 1, 1) := by decide +kernel
theorem d_Mod_wallCount_21 : decode prog_10_method_43_code 21 = .ok (.goto 4, 3) := by decide +kernel
theorem d_Mod_wallCount_24 : decode prog_10_method_43_code 24 = .ok (.iconst 0, 1) := by decide +kernel
theorem d_Mod_wallCount_25 : decode prog_10_method_43_code 25 = .ok (.iadd, 1) := by decide +kernel
theorem d_Mod_wallCount_26 : decode prog_10_method_43_code 26 = .ok (.istore_n 1, 1) := by decide +kernel
theorem d_Mod_wallCount_27 : decode prog_10_method_43_code 27 = .ok (.iinc 2 1, 3) := by decide +kernel
theorem d_Mod_wallCount_30 : decode prog_10_method_43_code 30 = .ok (.goto (-26), 3) := by decide +kernel
theorem d_Mod_wallCount_33 : decode prog_10_method_43_code 33 = .ok (.iload_n 1, 1) := by decide +kernel
theorem d_Mod_wallCount_34 : decode prog_10_method_43_code 34 = .ok (.ireturn, 1) := by decide +kernel
theorem d_Mod_wish_0 : decode prog_10_method_15_code 0 = .ok (.aload_n 0, 1) := by decide +kernel
theorem d_Mod_wish_1 : decode prog_10_method_15_code 1 = .ok (.aload_n 0, 1) := by decide +kernel
theorem d_Mod_wish_2 : decode prog_10_method_15_code 2 = .ok (.iload_n 1, 1) := by decide +kernel
theorem d_Mod_wish_3 : decode prog_10_method_15_code 3 = .ok (.invokevirtual 119, 3) := by decide +kernel
theorem d_Mod_wish_6 : decode prog_10_method_15_code 6 = .ok (.ifCond .eq 11, 3) := by decide +kernel
theorem d_Mod_wish_9 : decode prog_10_method_15_code 9 = .ok (.aload_n 0, 1) := by decide +kernel
theorem d_Mod_wish_10 : decode prog_10_method_15_code 10 = .ok (.iload_n 2, 1) := by decide +kernel
theorem d_Mod_wish_11 : decode prog_10_method_15_code 11 = .ok (.invokevirtual 119, 3) := by decide +kernel
theorem d_Mod_wish_14 : decode prog_10_method_15_code 14 = .ok (.ifCond .ne 7, 3) := by decide +kernel
theorem d_Mod_wish_17 : decode prog_10_method_15_code 17 = .ok (.iconst 1, 1) := by decide +kernel
theorem d_Mod_wish_18 : decode prog_10_method_15_code 18 = .ok (.goto 4, 3) := by decide +kernel
theorem d_Mod_wish_21 : decode prog_10_method_15_code 21 = .ok (.iconst 0, 1) := by decide +kernel
theorem d_Mod_wish_22 : decode prog_10_method_15_code 22 = .ok (.iload_n 1, 1) := by decide +kernel
theorem d_Mod_wish_23 : decode prog_10_method_15_code 23 = .ok (.iload_n 2, 1) := by decide +kernel
theorem d_Mod_wish_24 : decode prog_10_method_15_code 24 = .ok (.if_icmp .eq 13, 3) := by decide +kernel
theorem d_Mod_wish_27 : decode prog_10_method_15_code 27 = .ok (.iload_n 3, 1) := by decide +kernel
theorem d_Mod_wish_28 : decode prog_10_method_15_code 28 = .ok (.iconst 0, 1) := by decide +kernel
theorem d_Mod_wish_29 : decode prog_10_method_15_code 29 = .ok (.bipush 99, 2) := by decide +kernel
theorem d_Mod_wish_31 : decode prog_10_method_15_code 31 = .ok (.invokestatic 82, 3) := by decide +kernel
theorem d_Mod_wish_34 : decode prog_10_method_15_code 34 = .ok (.ifCond .ne 7, 3) := by decide +kernel
theorem d_Mod_wish_37 : decode prog_10_method_15_code 37 = .ok (.iconst 1, 1) := by decide +kernel
theorem d_Mod_wish_38 : decode prog_10_method_15_code 38 = .ok (.goto 4, 3) := by decide +kernel
theorem d_Mod_wish_41 : decode prog_10_method_15_code 41 = .ok (.iconst 0, 1) := by decide +kernel
theorem d_Mod_wish_42 : decode prog_10_method_15_code 42 = .ok (.iconst 0, 1) := by decide +kernel
theorem d_Mod_wish_43 : decode prog_10_method_15_code 43 = .ok (.invokevirtual 106, 3) := by decide +kernel
theorem d_Mod_wish_46 : decode prog_10_method_15_code 46 = .ok (.ifCond .eq 5, 3) := by decide +kernel
theorem d_Mod_wish_49 : decode prog_10_method_15_code 49 = .ok (.iconst 0, 1) := by decide +kernel
theorem d_Mod_wish_50 : decode prog_10_method_15_code 50 = .ok (.ireturn, 1) := by decide +kernel
theorem d_Mod_wish_51 : decode prog_10_method_15_code 51 = .ok (.aload_n 0, 1) := by decide +kernel
theorem d_Mod_wish_52 : decode prog_10_method_15_code 52 = .ok (.getfield 29, 3) := by decide +kernel
theorem d_Mod_wish_55 : decode prog_10_method_15_code 55 = .ok (.bipush 7, 2) := by decide +kernel
theorem d_Mod_wish_57 : decode prog_10_method_15_code 57 = .ok (.iload_n 1, 1) := by decide +kernel
theorem d_Mod_wish_58 : decode prog_10_method_15_code 58 = .ok (.imul, 1) := by decide +kernel
theorem d_Mod_wish_59 : decode prog_10_method_15_code 59 = .ok (.iload_n 2, 1) := by decide +kernel
theorem d_Mod_wish_60 : decode prog_10_method_15_code 60 = .ok (.iadd, 1) := by decide +kernel
theorem d_Mod_wish_61 : decode prog_10_method_15_code 61 = .ok (.iaload, 1) := by decide +kernel
theorem d_Mod_wish_62 : decode prog_10_method_15_code 62 = .ok (.istore 4, 2) := by decide +kernel
theorem d_Mod_wish_64 : decode prog_10_method_15_code 64 = .ok (.aload_n 0, 1) := by decide +kernel
theorem d_Mod_wish_65 : decode prog_10_method_15_code 65 = .ok (.getfield 29, 3) := by decide +kernel
theorem d_Mod_wish_68 : decode prog_10_method_15_code 68 = .ok (.bipush 7, 2) := by decide +kernel
theorem d_Mod_wish_70 : decode prog_10_method_15_code 70 = .ok (.iload_n 1, 1) := by decide +kernel
theorem d_Mod_wish_71 : decode prog_10_method_15_code 71 = .ok (.imul, 1) := by decide +kernel
theorem d_Mod_wish_72 : decode prog_10_method_15_code 72 = .ok (.iload_n 2, 1) := by decide +kernel
theorem d_Mod_wish_73 : decode prog_10_method_15_code 73 = .ok (.iadd, 1) := by decide +kernel
theorem d_Mod_wish_74 : decode prog_10_method_15_code 74 = .ok (.iload_n 3, 1) := by decide +kernel
theorem d_Mod_wish_75 : decode prog_10_method_15_code 75 = .ok (.iastore, 1) := by decide +kernel
theorem d_Mod_wish_76 : decode prog_10_method_15_code 76 = .ok (.aload_n 0, 1) := by decide +kernel
theorem d_Mod_wish_77 : decode prog_10_method_15_code 77 = .ok (.getfield 29, 3) := by decide +kernel
theorem d_Mod_wish_80 : decode prog_10_method_15_code 80 = .ok (.bipush 7, 2) := by decide +kernel
theorem d_Mod_wish_82 : decode prog_10_method_15_code 82 = .ok (.iload_n 2, 1) := by decide +kernel
theorem d_Mod_wish_83 : decode prog_10_method_15_code 83 = .ok (.imul, 1) := by decide +kernel
theorem d_Mod_wish_84 : decode prog_10_method_15_code 84 = .ok (.iload_n 1, 1) := by decide +kernel
theorem d_Mod_wish_85 : decode prog_10_method_15_code 85 = .ok (.iadd, 1) := by decide +kernel
theorem d_Mod_wish_86 : decode prog_10_method_15_code 86 = .ok (.iload_n 3, 1) := by decide +kernel
theorem d_Mod_wish_87 : decode prog_10_method_15_code 87 = .ok (.iastore, 1) := by decide +kernel
theorem d_Mod_wish_88 : decode prog_10_method_15_code 88 = .ok (.aload_n 0, 1) := by decide +kernel
theorem d_Mod_wish_89 : decode prog_10_method_15_code 89 = .ok (.invokevirtual 116, 3) := by decide +kernel
theorem d_Mod_wish_92 : decode prog_10_method_15_code 92 = .ok (.iload 4, 2) := by decide +kernel
theorem d_Mod_wish_94 : decode prog_10_method_15_code 94 = .ok (.ireturn, 1) := by decide +kernel
theorem d_Mod_worth_0 : decode prog_10_method_40_code 0 = .ok (.aload_n 0, 1) := by decide +kernel
theorem d_Mod_worth_1 : decode prog_10_method_40_code 1 = .ok (.iconst 0, 1) := by decide +kernel
theorem d_Mod_worth_2 : decode prog_10_method_40_code 2 = .ok (.putfield 79, 3) := by decide +kernel
theorem d_Mod_worth_5 : decode prog_10_method_40_code 5 = .ok (.aload_n 0, 1) := by decide +kernel
theorem d_Mod_worth_6 : decode prog_10_method_40_code 6 = .ok (.getfield 89, 3) := by decide +kernel
theorem d_Mod_worth_9 : decode prog_10_method_40_code 9 = .ok (.ifCond .eq 10, 3) := by decide +kernel
theorem d_Mod_worth_12 : decode prog_10_method_40_code 12 = .ok (.aload_n 0, 1) := by decide +kernel
theorem d_Mod_worth_13 : decode prog_10_method_40_code 13 = .ok (.getfield 163, 3) := by decide +kernel
theorem d_Mod_worth_16 : decode prog_10_method_40_code 16 = .ok (.goto 4, 3) := by decide +kernel
theorem d_Mod_worth_19 : decode prog_10_method_40_code 19 = .ok (.iconst (-1), 1) := by decide +kernel
theorem d_Mod_worth_20 : decode prog_10_method_40_code 20 = .ok (.ireturn, 1) := by decide +kernel
theorem d_Mod_worthNow_0 : decode prog_10_method_33_code 0 = .ok (.iconst 0, 1) := by decide +kernel
theorem d_Mod_worthNow_1 : decode prog_10_method_33_code 1 = .ok (.istore_n 1, 1) := by decide +kernel
theorem d_Mod_worthNow_2 : decode prog_10_method_33_code 2 = .ok (.iconst 0, 1) := by decide +kernel
theorem d_Mod_worthNow_3 : decode prog_10_method_33_code 3 = .ok (.istore_n 2, 1) := by decide +kernel
theorem d_Mod_worthNow_4 : decode prog_10_method_33_code 4 = .ok (.iload_n 2, 1) := by decide +kernel
theorem d_Mod_worthNow_5 : decode prog_10_method_33_code 5 = .ok (.aload_n 0, 1) := by decide +kernel
theorem d_Mod_worthNow_6 : decode prog_10_method_33_code 6 = .ok (.getfield 86, 3) := by decide +kernel
theorem d_Mod_worthNow_9 : decode prog_10_method_33_code 9 = .ok (.if_icmp .ge 49, 3) := by decide +kernel
theorem d_Mod_worthNow_12 : decode prog_10_method_33_code 12 = .ok (.iconst 0, 1) := by decide +kernel
theorem d_Mod_worthNow_13 : decode prog_10_method_33_code 13 = .ok (.istore_n 3, 1) := by decide +kernel
theorem d_Mod_worthNow_14 : decode prog_10_method_33_code 14 = .ok (.iload_n 3, 1) := by decide +kernel
theorem d_Mod_worthNow_15 : decode prog_10_method_33_code 15 = .ok (.iload_n 2, 1) := by decide +kernel
theorem d_Mod_worthNow_16 : decode prog_10_method_33_code 16 = .ok (.if_icmp .ge 36, 3) := by decide +kernel
theorem d_Mod_worthNow_19 : decode prog_10_method_33_code 19 = .ok (.iload_n 1, 1) := by decide +kernel
theorem d_Mod_worthNow_20 : decode prog_10_method_33_code 20 = .ok (.aload_n 0, 1) := by decide +kernel
theorem d_Mod_worthNow_21 : decode prog_10_method_33_code 21 = .ok (.iload_n 2, 1) := by decide +kernel
theorem d_Mod_worthNow_22 : decode prog_10_method_33_code 22 = .ok (.iload_n 3, 1) := by decide +kernel
theorem d_Mod_worthNow_23 : decode prog_10_method_33_code 23 = .ok (.invokevirtual 130, 3) := by decide +kernel
theorem d_Mod_worthNow_26 : decode prog_10_method_33_code 26 = .ok (.ifCond .ne 17, 3) := by decide +kernel
theorem d_Mod_worthNow_29 : decode prog_10_method_33_code 29 = .ok (.aload_n 0, 1) := by decide +kernel
theorem d_Mod_worthNow_30 : decode prog_10_method_33_code 30 = .ok (.getfield 29, 3) := by decide +kernel
theorem d_Mod_worthNow_33 : decode prog_10_method_33_code 33 = .ok (.bipush 7, 2) := by decide +kernel
theorem d_Mod_worthNow_35 : decode prog_10_method_33_code 35 = .ok (.iload_n 2, 1) := by decide +kernel
theorem d_Mod_worthNow_36 : decode prog_10_method_33_code 36 = .ok (.imul, 1) := by decide +kernel
theorem d_Mod_worthNow_37 : decode prog_10_method_33_code 37 = .ok (.iload_n 3, 1) := by decide +kernel
theorem d_Mod_worthNow_38 : decode prog_10_method_33_code 38 = .ok (.iadd, 1) := by decide +kernel
theorem d_Mod_worthNow_39 : decode prog_10_method_33_code 39 = .ok (.iaload, 1) := by decide +kernel
theorem d_Mod_worthNow_40 : decode prog_10_method_33_code 40 = .ok (.goto 4, 3) := by decide +kernel
theorem d_Mod_worthNow_43 : decode prog_10_method_33_code 43 = .ok (.iconst 0, 1) := by decide +kernel
theorem d_Mod_worthNow_44 : decode prog_10_method_33_code 44 = .ok (.iadd, 1) := by decide +kernel
theorem d_Mod_worthNow_45 : decode prog_10_method_33_code 45 = .ok (.istore_n 1, 1) := by decide +kernel
theorem d_Mod_worthNow_46 : decode prog_10_method_33_code 46 = .ok (.iinc 3 1, 3) := by decide +kernel
theorem d_Mod_worthNow_49 : decode prog_10_method_33_code 49 = .ok (.goto (-35), 3) := by decide +kernel
theorem d_Mod_worthNow_52 : decode prog_10_method_33_code 52 = .ok (.iinc 2 1, 3) := by decide +kernel
theorem d_Mod_worthNow_55 : decode prog_10_method_33_code 55 = .ok (.goto (-51), 3) := by decide +kernel
theorem d_Mod_worthNow_58 : decode prog_10_method_33_code 58 = .ok (.iload_n 1, 1) := by decide +kernel
theorem d_Mod_worthNow_59 : decode prog_10_method_33_code 59 = .ok (.ireturn, 1) := by decide +kernel
theorem d_Mod_zone_0 : decode prog_10_method_12_code 0 = .ok (.aload_n 0, 1) := by decide +kernel
theorem d_Mod_zone_1 : decode prog_10_method_12_code 1 = .ok (.aload_n 0, 1) := by decide +kernel
theorem d_Mod_zone_2 : decode prog_10_method_12_code 2 = .ok (.iload_n 1, 1) := by decide +kernel
theorem d_Mod_zone_3 : decode prog_10_method_12_code 3 = .ok (.iload_n 2, 1) := by decide +kernel
theorem d_Mod_zone_4 : decode prog_10_method_12_code 4 = .ok (.invokevirtual 102, 3) := by decide +kernel
theorem d_Mod_zone_7 : decode prog_10_method_12_code 7 = .ok (.ifCond .ne 7, 3) := by decide +kernel
theorem d_Mod_zone_10 : decode prog_10_method_12_code 10 = .ok (.iconst 1, 1) := by decide +kernel
theorem d_Mod_zone_11 : decode prog_10_method_12_code 11 = .ok (.goto 4, 3) := by decide +kernel
theorem d_Mod_zone_14 : decode prog_10_method_12_code 14 = .ok (.iconst 0, 1) := by decide +kernel
theorem d_Mod_zone_15 : decode prog_10_method_12_code 15 = .ok (.iload_n 3, 1) := by decide +kernel
theorem d_Mod_zone_16 : decode prog_10_method_12_code 16 = .ok (.iconst 0, 1) := by decide +kernel
theorem d_Mod_zone_17 : decode prog_10_method_12_code 17 = .ok (.iconst 3, 1) := by decide +kernel
theorem d_Mod_zone_18 : decode prog_10_method_12_code 18 = .ok (.invokestatic 82, 3) := by decide +kernel
theorem d_Mod_zone_21 : decode prog_10_method_12_code 21 = .ok (.ifCond .ne 7, 3) := by decide +kernel
theorem d_Mod_zone_24 : decode prog_10_method_12_code 24 = .ok (.iconst 1, 1) := by decide +kernel
theorem d_Mod_zone_25 : decode prog_10_method_12_code 25 = .ok (.goto 4, 3) := by decide +kernel
theorem d_Mod_zone_28 : decode prog_10_method_12_code 28 = .ok (.iconst 0, 1) := by decide +kernel
theorem d_Mod_zone_29 : decode prog_10_method_12_code 29 = .ok (.iconst 0, 1) := by decide +kernel
theorem d_Mod_zone_30 : decode prog_10_method_12_code 30 = .ok (.invokevirtual 106, 3) := by decide +kernel
theorem d_Mod_zone_33 : decode prog_10_method_12_code 33 = .ok (.ifCond .eq 5, 3) := by decide +kernel
theorem d_Mod_zone_36 : decode prog_10_method_12_code 36 = .ok (.iconst 0, 1) := by decide +kernel
theorem d_Mod_zone_37 : decode prog_10_method_12_code 37 = .ok (.ireturn, 1) := by decide +kernel
theorem d_Mod_zone_38 : decode prog_10_method_12_code 38 = .ok (.aload_n 0, 1) := by decide +kernel
theorem d_Mod_zone_39 : decode prog_10_method_12_code 39 = .ok (.getfield 13, 3) := by decide +kernel
theorem d_Mod_zone_42 : decode prog_10_method_12_code 42 = .ok (.bipush 9, 2) := by decide +kernel
theorem d_Mod_zone_44 : decode prog_10_method_12_code 44 = .ok (.iload_n 2, 1) := by decide +kernel
theorem d_Mod_zone_45 : decode prog_10_method_12_code 45 = .ok (.imul, 1) := by decide +kernel
theorem d_Mod_zone_46 : decode prog_10_method_12_code 46 = .ok (.iload_n 1, 1) := by decide +kernel
theorem d_Mod_zone_47 : decode prog_10_method_12_code 47 = .ok (.iadd, 1) := by decide +kernel
theorem d_Mod_zone_48 : decode prog_10_method_12_code 48 = .ok (.iaload, 1) := by decide +kernel
theorem d_Mod_zone_49 : decode prog_10_method_12_code 49 = .ok (.istore 4, 2) := by decide +kernel
theorem d_Mod_zone_51 : decode prog_10_method_12_code 51 = .ok (.aload_n 0, 1) := by decide +kernel
theorem d_Mod_zone_52 : decode prog_10_method_12_code 52 = .ok (.getfield 13, 3) := by decide +kernel
theorem d_Mod_zone_55 : decode prog_10_method_12_code 55 = .ok (.bipush 9, 2) := by decide +kernel
theorem d_Mod_zone_57 : decode prog_10_method_12_code 57 = .ok (.iload_n 2, 1) := by decide +kernel
theorem d_Mod_zone_58 : decode prog_10_method_12_code 58 = .ok (.imul, 1) := by decide +kernel
theorem d_Mod_zone_59 : decode prog_10_method_12_code 59 = .ok (.iload_n 1, 1) := by decide +kernel
theorem d_Mod_zone_60 : decode prog_10_method_12_code 60 = .ok (.iadd, 1) := by decide +kernel
