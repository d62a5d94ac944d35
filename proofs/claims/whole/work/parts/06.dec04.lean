theorem d_Mod_isExit_35 : decode prog_10_method_9_code 35 = .ok (.iaload, 1) := by decide +kernel
theorem d_Mod_isExit_36 : decode prog_10_method_9_code 36 = .ok (.iload_n 2, 1) := by decide +kernel
theorem d_Mod_isExit_37 : decode prog_10_method_9_code 37 = .ok (.if_icmp .ne 7, 3) := by decide +kernel
theorem d_Mod_isExit_40 : decode prog_10_method_9_code 40 = .ok (.iconst 1, 1) := by decide +kernel
theorem d_Mod_isExit_41 : decode prog_10_method_9_code 41 = .ok (.goto 4, 3) := by decide +kernel
theorem d_Mod_isExit_44 : decode prog_10_method_9_code 44 = .ok (.iconst 0, 1) := by decide +kernel
theorem d_Mod_isExit_45 : decode prog_10_method_9_code 45 = .ok (.istore_n 3, 1) := by decide +kernel
theorem d_Mod_isExit_46 : decode prog_10_method_9_code 46 = .ok (.iinc 4 1, 3) := by decide +kernel
theorem d_Mod_isExit_49 : decode prog_10_method_9_code 49 = .ok (.goto (-44), 3) := by decide +kernel
theorem d_Mod_isExit_52 : decode prog_10_method_9_code 52 = .ok (.iload_n 3, 1) := by decide +kernel
theorem d_Mod_isExit_53 : decode prog_10_method_9_code 53 = .ok (.ireturn, 1) := by decide +kernel
theorem d_Mod_isPlace_0 : decode prog_10_method_10_code 0 = .ok (.iconst 0, 1) := by decide +kernel
theorem d_Mod_isPlace_1 : decode prog_10_method_10_code 1 = .ok (.istore_n 3, 1) := by decide +kernel
theorem d_Mod_isPlace_2 : decode prog_10_method_10_code 2 = .ok (.iconst 0, 1) := by decide +kernel
theorem d_Mod_isPlace_3 : decode prog_10_method_10_code 3 = .ok (.istore 4, 2) := by decide +kernel
theorem d_Mod_isPlace_5 : decode prog_10_method_10_code 5 = .ok (.iload 4, 2) := by decide +kernel
theorem d_Mod_isPlace_7 : decode prog_10_method_10_code 7 = .ok (.aload_n 0, 1) := by decide +kernel
theorem d_Mod_isPlace_8 : decode prog_10_method_10_code 8 = .ok (.getfield 99, 3) := by decide +kernel
theorem d_Mod_isPlace_11 : decode prog_10_method_10_code 11 = .ok (.if_icmp .ge 41, 3) := by decide +kernel
theorem d_Mod_isPlace_14 : decode prog_10_method_10_code 14 = .ok (.iload_n 3, 1) := by decide +kernel
theorem d_Mod_isPlace_15 : decode prog_10_method_10_code 15 = .ok (.ifCond .ne 25, 3) := by decide +kernel
theorem d_Mod_isPlace_18 : decode prog_10_method_10_code 18 = .ok (.aload_n 0, 1) := by decide +kernel
theorem d_Mod_isPlace_19 : decode prog_10_method_10_code 19 = .ok (.getfield 32, 3) := by decide +kernel
theorem d_Mod_isPlace_22 : decode prog_10_method_10_code 22 = .ok (.iload 4, 2) := by decide +kernel
theorem d_Mod_isPlace_24 : decode prog_10_method_10_code 24 = .ok (.iaload, 1) := by decide +kernel
theorem d_Mod_isPlace_25 : decode prog_10_method_10_code 25 = .ok (.iload_n 1, 1) := by decide +kernel
theorem d_Mod_isPlace_26 : decode prog_10_method_10_code 26 = .ok (.if_icmp .ne 18, 3) := by decide +kernel
theorem d_Mod_isPlace_29 : decode prog_10_method_10_code 29 = .ok (.aload_n 0, 1) := by decide +kernel
theorem d_Mod_isPlace_30 : decode prog_10_method_10_code 30 = .ok (.getfield 35, 3) := by decide +kernel
theorem d_Mod_isPlace_33 : decode prog_10_method_10_code 33 = .ok (.iload 4, 2) := by decide +kernel
theorem d_Mod_isPlace_35 : decode prog_10_method_10_code 35 = .ok (.iaload, 1) := by decide +kernel
theorem d_Mod_isPlace_36 : decode prog_10_method_10_code 36 = .ok (.iload_n 2, 1) := by decide +kernel
theorem d_Mod_isPlace_37 : decode prog_10_method_10_code 37 = .ok (.if_icmp .ne 7, 3) := by decide +kernel
theorem d_Mod_isPlace_40 : decode prog_10_method_10_code 40 = .ok (.iconst 1, 1) := by decide +kernel
theorem d_Mod_isPlace_41 : decode prog_10_method_10_code 41 = .ok (.goto 4, 3) := by decide +kernel
theorem d_Mod_isPlace_44 : decode prog_10_method_10_code 44 = .ok (.iconst 0, 1) := by decide +kernel
theorem d_Mod_isPlace_45 : decode prog_10_method_10_code 45 = .ok (.istore_n 3, 1) := by decide +kernel
theorem d_Mod_isPlace_46 : decode prog_10_method_10_code 46 = .ok (.iinc 4 1, 3) := by decide +kernel
theorem d_Mod_isPlace_49 : decode prog_10_method_10_code 49 = .ok (.goto (-44), 3) := by decide +kernel
theorem d_Mod_isPlace_52 : decode prog_10_method_10_code 52 = .ok (.iload_n 3, 1) := by decide +kernel
theorem d_Mod_isPlace_53 : decode prog_10_method_10_code 53 = .ok (.ireturn, 1) := by decide +kernel
theorem d_Mod_forget_0 : decode prog_10_method_8_code 0 = .ok (.aload_n 0, 1) := by decide +kernel
theorem d_Mod_forget_1 : decode prog_10_method_8_code 1 = .ok (.iconst 0, 1) := by decide +kernel
theorem d_Mod_forget_2 : decode prog_10_method_8_code 2 = .ok (.putfield 89, 3) := by decide +kernel
theorem d_Mod_forget_5 : decode prog_10_method_8_code 5 = .ok (.aload_n 0, 1) := by decide +kernel
theorem d_Mod_forget_6 : decode prog_10_method_8_code 6 = .ok (.iconst 0, 1) := by decide +kernel
theorem d_Mod_forget_7 : decode prog_10_method_8_code 7 = .ok (.putfield 93, 3) := by decide +kernel
theorem d_Mod_forget_10 : decode prog_10_method_8_code 10 = .ok (.return_, 1) := by decide +kernel
theorem d_Mod_zone_0 : decode prog_10_method_12_code 0 = .ok (.aload_n 0, 1) := by decide +kernel
theorem d_Mod_zone_1 : decode prog_10_method_12_code 1 = .ok (.aload_n 0, 1) := by decide +kernel
theorem d_Mod_zone_2 : decode prog_10_method_12_code 2 = .ok (.iload_n 1, 1) := by decide +kernel
theorem d_Mod_zone_3 : decode prog_10_method_12_code 3 = .ok (.iload_n 2, 1) := by decide +kernel
theorem d_Mod_zone_4 : decode prog_10_method_12_code 4 = .ok (.invokevirtual 102, 3) := by decide +kernel
theorem d_Mod_zone_7 : decode prog_10_method_12_code 7 = .ok (.ifCond .ne 7, 3) := by decide +kernel
theorem d_Mod_zone_10 : decode prog_10_method_12_code 10 = .ok (.iconst 1, 1) := by decide +kernel
theorem d_Mod_zone_11 : decode prog_10_method_12_code 11 = .ok (.goto 4, 3) := by decide +kernel
theorem d_Mod_zone_14 : decode prog_10_method_12_code 14 = .ok (.iconst 0, 1) := by decide +kernel
theorem d_Mod_zone_15 : decode prog_10_method_12_code 15 = .ok (.iload_n 3, 1) := by decide +kernel
theorem d_Mod_zone_16 : decode prog_10_method_12_code 16 = .ok (.iconst 0, 1) := by decide +kernel
theorem d_Mod_zone_17 : decode prog_10_method_12_code 17 = .ok (.iconst 3, 1) := by decide +kernel
theorem d_Mod_zone_18 : decode prog_10_method_12_code 18 = .ok (.invokestatic 82, 3) := by decide +kernel
theorem d_Mod_zone_21 : decode prog_10_method_12_code 21 = .ok (.ifCond .ne 7, 3) := by decide +kernel
theorem d_Mod_zone_24 : decode prog_10_method_12_code 24 = .ok (.iconst 1, 1) := by decide +kernel
theorem d_Mod_zone_25 : decode prog_10_method_12_code 25 = .ok (.goto 4, 3) := by decide +kernel
theorem d_Mod_zone_28 : decode prog_10_method_12_code 28 = .ok (.iconst 0, 1) := by decide +kernel
theorem d_Mod_zone_29 : decode prog_10_method_12_code 29 = .ok (.iconst 0, 1) := by decide +kernel
theorem d_Mod_zone_30 : decode prog_10_method_12_code 30 = .ok (.invokevirtual 106, 3) := by decide +kernel
theorem d_Mod_zone_33 : decode prog_10_method_12_code 33 = .ok (.ifCond .eq 5, 3) := by decide +kernel
theorem d_Mod_zone_36 : decode prog_10_method_12_code 36 = .ok (.iconst 0, 1) := by decide +kernel
theorem d_Mod_zone_37 : decode prog_10_method_12_code 37 = .ok (.ireturn, 1) := by decide +kernel
theorem d_Mod_zone_38 : decode prog_10_method_12_code 38 = .ok (.aload_n 0, 1) := by decide +kernel
theorem d_Mod_zone_39 : decode prog_10_method_12_code 39 = .ok (.getfield 13, 3) := by decide +kernel
theorem d_Mod_zone_42 : decode prog_10_method_12_code 42 = .ok (.bipush 9, 2) := by decide +kernel
theorem d_Mod_zone_44 : decode prog_10_method_12_code 44 = .ok (.iload_n 2, 1) := by decide +kernel
theorem d_Mod_zone_45 : decode prog_10_method_12_code 45 = .ok (.imul, 1) := by decide +kernel
theorem d_Mod_zone_46 : decode prog_10_method_12_code 46 = .ok (.iload_n 1, 1) := by decide +kernel
theorem d_Mod_zone_47 : decode prog_10_method_12_code 47 = .ok (.iadd, 1) := by decide +kernel
theorem d_Mod_zone_48 : decode prog_10_method_12_code 48 = .ok (.iaload, 1) := by decide +kernel
theorem d_Mod_zone_49 : decode prog_10_method_12_code 49 = .ok (.istore 4, 2) := by decide +kernel
theorem d_Mod_zone_51 : decode prog_10_method_12_code 51 = .ok (.aload_n 0, 1) := by decide +kernel
theorem d_Mod_zone_52 : decode prog_10_method_12_code 52 = .ok (.getfield 13, 3) := by decide +kernel
theorem d_Mod_zone_55 : decode prog_10_method_12_code 55 = .ok (.bipush 9, 2) := by decide +kernel
theorem d_Mod_zone_57 : decode prog_10_method_12_code 57 = .ok (.iload_n 2, 1) := by decide +kernel
theorem d_Mod_zone_58 : decode prog_10_method_12_code 58 = .ok (.imul, 1) := by decide +kernel
theorem d_Mod_zone_59 : decode prog_10_method_12_code 59 = .ok (.iload_n 1, 1) := by decide +kernel
theorem d_Mod_zone_60 : decode prog_10_method_12_code 60 = .ok (.iadd, 1) := by decide +kernel
theorem d_Mod_zone_61 : decode prog_10_method_12_code 61 = .ok (.iload_n 3, 1) := by decide +kernel
theorem d_Mod_zone_62 : decode prog_10_method_12_code 62 = .ok (.iastore, 1) := by decide +kernel
theorem d_Mod_zone_63 : decode prog_10_method_12_code 63 = .ok (.aload_n 0, 1) := by decide +kernel
theorem d_Mod_zone_64 : decode prog_10_method_12_code 64 = .ok (.invokevirtual 116, 3) := by decide +kernel
theorem d_Mod_zone_67 : decode prog_10_method_12_code 67 = .ok (.iload 4, 2) := by decide +kernel
theorem d_Mod_zone_69 : decode prog_10_method_12_code 69 = .ok (.ireturn, 1) := by decide +kernel
theorem d_Mod_thing_0 : decode prog_10_method_13_code 0 = .ok (.aload_n 0, 1) := by decide +kernel
theorem d_Mod_thing_1 : decode prog_10_method_13_code 1 = .ok (.aload_n 0, 1) := by decide +kernel
theorem d_Mod_thing_2 : decode prog_10_method_13_code 2 = .ok (.getfield 86, 3) := by decide +kernel
theorem d_Mod_thing_5 : decode prog_10_method_13_code 5 = .ok (.bipush 7, 2) := by decide +kernel
theorem d_Mod_thing_7 : decode prog_10_method_13_code 7 = .ok (.if_icmp .ne 7, 3) := by decide +kernel
theorem d_Mod_thing_10 : decode prog_10_method_13_code 10 = .ok (.iconst 1, 1) := by decide +kernel
theorem d_Mod_thing_11 : decode prog_10_method_13_code 11 = .ok (.goto 4, 3) := by decide +kernel
theorem d_Mod_thing_14 : decode prog_10_method_13_code 14 = .ok (.iconst 0, 1) := by decide +kernel
theorem d_Mod_thing_15 : decode prog_10_method_13_code 15 = .ok (.iload_n 1, 1) := by decide +kernel
theorem d_Mod_thing_16 : decode prog_10_method_13_code 16 = .ok (.iconst 1, 1) := by decide +kernel
theorem d_Mod_thing_17 : decode prog_10_method_13_code 17 = .ok (.iconst 4, 1) := by decide +kernel
theorem d_Mod_thing_18 : decode prog_10_method_13_code 18 = .ok (.invokestatic 82, 3) := by decide +kernel
theorem d_Mod_thing_21 : decode prog_10_method_13_code 21 = .ok (.ifCond .eq 21, 3) := by decide +kernel
theorem d_Mod_thing_24 : decode prog_10_method_13_code 24 = .ok (.iload_n 2, 1) := by decide +kernel
theorem d_Mod_thing_25 : decode prog_10_method_13_code 25 = .ok (.iconst 1, 1) := by decide +kernel
theorem d_Mod_thing_26 : decode prog_10_method_13_code 26 = .ok (.iconst 4, 1) := by decide +kernel
theorem d_Mod_thing_27 : decode prog_10_method_13_code 27 = .ok (.invokestatic 82, 3) := by decide +kernel
theorem d_Mod_thing_30 : decode prog_10_method_13_code 30 = .ok (.ifCond .eq 12, 3) := by decide +kernel
theorem d_Mod_thing_33 : decode prog_10_method_13_code 33 = .ok (.iload_n 3, 1) := by decide +kernel
theorem d_Mod_thing_34 : decode prog_10_method_13_code 34 = .ok (.iconst 0, 1) := by decide +kernel
theorem d_Mod_thing_35 : decode prog_10_method_13_code 35 = .ok (.iconst 3, 1) := by decide +kernel
theorem d_Mod_thing_36 : decode prog_10_method_13_code 36 = .ok (.invokestatic 82, 3) := by decide +kernel
theorem d_Mod_thing_39 : decode prog_10_method_13_code 39 = .ok (.ifCond .ne 7, 3) := by decide +kernel
theorem d_Mod_thing_42 : decode prog_10_method_13_code 42 = .ok (.iconst 1, 1) := by decide +kernel
theorem d_Mod_thing_43 : decode prog_10_method_13_code 43 = .ok (.goto 4, 3) := by decide +kernel
theorem d_Mod_thing_46 : decode prog_10_method_13_code 46 = .ok (.iconst 0, 1) := by decide +kernel
theorem d_Mod_thing_47 : decode prog_10_method_13_code 47 = .ok (.iconst 0, 1) := by decide +kernel
theorem d_Mod_thing_48 : decode prog_10_method_13_code 48 = .ok (.invokevirtual 106, 3) := by decide +kernel
theorem d_Mod_thing_51 : decode prog_10_method_13_code 51 = .ok (.ifCond .eq 5, 3) := by decide +kernel
theorem d_Mod_thing_54 : decode prog_10_method_13_code 54 = .ok (.iconst 0, 1) := by decide +kernel
theorem d_Mod_thing_55 : decode prog_10_method_13_code 55 = .ok (.ireturn, 1) := by decide +kernel
theorem d_Mod_thing_56 : decode prog_10_method_13_code 56 = .ok (.aload_n 0, 1) := by decide +kernel
theorem d_Mod_thing_57 : decode prog_10_method_13_code 57 = .ok (.getfield 17, 3) := by decide +kernel
theorem d_Mod_thing_60 : decode prog_10_method_13_code 60 = .ok (.aload_n 0, 1) := by decide +kernel
theorem d_Mod_thing_61 : decode prog_10_method_13_code 61 = .ok (.getfield 86, 3) := by decide +kernel
theorem d_Mod_thing_64 : decode prog_10_method_13_code 64 = .ok (.iload_n 1, 1) := by decide +kernel
theorem d_Mod_thing_65 : decode prog_10_method_13_code 65 = .ok (.iastore, 1) := by decide +kernel
theorem d_Mod_thing_66 : decode prog_10_method_13_code 66 = .ok (.aload_n 0, 1) := by decide +kernel
theorem d_Mod_thing_67 : decode prog_10_method_13_code 67 = .ok (.getfield 20, 3) := by decide +kernel
theorem d_Mod_thing_70 : decode prog_10_method_13_code 70 = .ok (.aload_n 0, 1) := by decide +kernel
theorem d_Mod_thing_71 : decode prog_10_method_13_code 71 = .ok (.getfield 86, 3) := by decide +kernel
theorem d_Mod_thing_74 : decode prog_10_method_13_code 74 = .ok (.iload_n 2, 1) := by decide +kernel
theorem d_Mod_thing_75 : decode prog_10_method_13_code 75 = .ok (.iastore, 1) := by decide +kernel
theorem d_Mod_thing_76 : decode prog_10_method_13_code 76 = .ok (.aload_n 0, 1) := by decide +kernel
theorem d_Mod_thing_77 : decode prog_10_method_13_code 77 = .ok (.getfield 23, 3) := by decide +kernel
theorem d_Mod_thing_80 : decode prog_10_method_13_code 80 = .ok (.aload_n 0, 1) := by decide +kernel
theorem d_Mod_thing_81 : decode prog_10_method_13_code 81 = .ok (.getfield 86, 3) := by decide +kernel
theorem d_Mod_thing_84 : decode prog_10_method_13_code 84 = .ok (.iload_n 3, 1) := by decide +kernel
theorem d_Mod_thing_85 : decode prog_10_method_13_code 85 = .ok (.iastore, 1) := by decide +kernel
theorem d_Mod_thing_86 : decode prog_10_method_13_code 86 = .ok (.aload_n 0, 1) := by decide +kernel
theorem d_Mod_thing_87 : decode prog_10_method_13_code 87 = .ok (.dup, 1) := by decide +kernel
theorem d_Mod_thing_88 : decode prog_10_method_13_code 88 = .ok (.getfield 86, 3) := by decide +kernel
theorem d_Mod_thing_91 : decode prog_10_method_13_code 91 = .ok (.iconst 1, 1) := by decide +kernel
theorem d_Mod_thing_92 : decode prog_10_method_13_code 92 = .ok (.iadd, 1) := by decide +kernel
theorem d_Mod_thing_93 : decode prog_10_method_13_code 93 = .ok (.putfield 86, 3) := by decide +kernel
theorem d_Mod_thing_96 : decode prog_10_method_13_code 96 = .ok (.aload_n 0, 1) := by decide +kernel
theorem d_Mod_thing_97 : decode prog_10_method_13_code 97 = .ok (.invokevirtual 116, 3) := by decide +kernel
theorem d_Mod_thing_100 : decode prog_10_method_13_code 100 = .ok (.aload_n 0, 1) := by decide +kernel
theorem d_Mod_thing_101 : decode prog_10_method_13_code 101 = .ok (.getfield 86, 3) := by decide +kernel
theorem d_Mod_thing_104 : decode prog_10_method_13_code 104 = .ok (.iconst 1, 1) := by decide +kernel
theorem d_Mod_thing_105 : decode prog_10_method_13_code 105 = .ok (.isub, 1) := by decide +kernel
theorem d_Mod_thing_106 : decode prog_10_method_13_code 106 = .ok (.ireturn, 1) := by decide +kernel
theorem d_Mod_apart_0 : decode prog_10_method_14_code 0 = .ok (.aload_n 0, 1) := by decide +kernel
theorem d_Mod_apart_1 : decode prog_10_method_14_code 1 = .ok (.aload_n 0, 1) := by decide +kernel
theorem d_Mod_apart_2 : decode prog_10_method_14_code 2 = .ok (.iload_n 1, 1) := by decide +kernel
theorem d_Mod_apart_3 : decode prog_10_method_14_code 3 = .ok (.invokevirtual 119, 3) := by decide +kernel
theorem d_Mod_apart_6 : decode prog_10_method_14_code 6 = .ok (.ifCond .eq 11, 3) := by decide +kernel
theorem d_Mod_apart_9 : decode prog_10_method_14_code 9 = .ok (.aload_n 0, 1) := by decide +kernel
theorem d_Mod_apart_10 : decode prog_10_method_14_code 10 = .ok (.iload_n 2, 1) := by decide +kernel
theorem d_Mod_apart_11 : decode prog_10_method_14_code 11 = .ok (.invokevirtual 119, 3) := by decide +kernel
theorem d_Mod_apart_14 : decode prog_10_method_14_code 14 = .ok (.ifCond .ne 7, 3) := by decide +kernel
theorem d_Mod_apart_17 : decode prog_10_method_14_code 17 = .ok (.iconst 1, 1) := by decide +kernel
theorem d_Mod_apart_18 : decode prog_10_method_14_code 18 = .ok (.goto 4, 3) := by decide +kernel
theorem d_Mod_apart_21 : decode prog_10_method_14_code 21 = .ok (.iconst 0, 1) := by decide +kernel
theorem d_Mod_apart_22 : decode prog_10_method_14_code 22 = .ok (.iload_n 1, 1) := by decide +kernel
theorem d_Mod_apart_23 : decode prog_10_method_14_code 23 = .ok (.iload_n 2, 1) := by decide +kernel
theorem d_Mod_apart_24 : decode prog_10_method_14_code 24 = .ok (.if_icmp .eq 12, 3) := by decide +kernel
theorem d_Mod_apart_27 : decode prog_10_method_14_code 27 = .ok (.iload_n 3, 1) := by decide +kernel
theorem d_Mod_apart_28 : decode prog_10_method_14_code 28 = .ok (.iconst 0, 1) := by decide +kernel
theorem d_Mod_apart_29 : decode prog_10_method_14_code 29 = .ok (.iconst 5, 1) := by decide +kernel
theorem d_Mod_apart_30 : decode prog_10_method_14_code 30 = .ok (.invokestatic 82, 3) := by decide +kernel
theorem d_Mod_apart_33 : decode prog_10_method_14_code 33 = .ok (.ifCond .ne 7, 3) := by decide +kernel
theorem d_Mod_apart_36 : decode prog_10_method_14_code 36 = .ok (.iconst 1, 1) := by decide +kernel
theorem d_Mod_apart_37 : decode prog_10_method_14_code 37 = .ok (.goto 4, 3) := by decide +kernel
theorem d_Mod_apart_40 : decode prog_10_method_14_code 40 = .ok (.iconst 0, 1) := by decide +kernel
theorem d_Mod_apart_41 : decode prog_10_method_14_code 41 = .ok (.iconst 0, 1) := by decide +kernel
theorem d_Mod_apart_42 : decode prog_10_method_14_code 42 = .ok (.invokevirtual 106, 3) := by decide +kernel
theorem d_Mod_apart_45 : decode prog_10_method_14_code 45 = .ok (.ifCond .eq 5, 3) := by decide +kernel
theorem d_Mod_apart_48 : decode prog_10_method_14_code 48 = .ok (.iconst 0, 1) := by decide +kernel
theorem d_Mod_apart_49 : decode prog_10_method_14_code 49 = .ok (.ireturn, 1) := by decide +kernel
theorem d_Mod_apart_50 : decode prog_10_method_14_code 50 = .ok (.aload_n 0, 1) := by decide +kernel
theorem d_Mod_apart_51 : decode prog_10_method_14_code 51 = .ok (.getfield 26, 3) := by decide +kernel
theorem d_Mod_apart_54 : decode prog_10_method_14_code 54 = .ok (.bipush 7, 2) := by decide +kernel
theorem d_Mod_apart_56 : decode prog_10_method_14_code 56 = .ok (.iload_n 1, 1) := by decide +kernel
theorem d_Mod_apart_57 : decode prog_10_method_14_code 57 = .ok (.imul, 1) := by decide +kernel
theorem d_Mod_apart_58 : decode prog_10_method_14_code 58 = .ok (.iload_n 2, 1) := by decide +kernel
theorem d_Mod_apart_59 : decode prog_10_method_14_code 59 = .ok (.iadd, 1) := by decide +kernel
theorem d_Mod_apart_60 : decode prog_10_method_14_code 60 = .ok (.iaload, 1) := by decide +kernel
theorem d_Mod_apart_61 : decode prog_10_method_14_code 61 = .ok (.istore 4, 2) := by decide +kernel
theorem d_Mod_apart_63 : decode prog_10_method_14_code 63 = .ok (.aload_n 0, 1) := by decide +kernel
theorem d_Mod_apart_64 : decode prog_10_method_14_code 64 = .ok (.getfield 26, 3) := by decide +kernel
theorem d_Mod_apart_67 : decode prog_10_method_14_code 67 = .ok (.bipush 7, 2) := by decide +kernel
theorem d_Mod_apart_69 : decode prog_10_method_14_code 69 = .ok (.iload_n 1, 1) := by decide +kernel
theorem d_Mod_apart_70 : decode prog_10_method_14_code 70 = .ok (.imul, 1) := by decide +kernel
theorem d_Mod_apart_71 : decode prog_10_method_14_code 71 = .ok (.iload_n 2, 1) := by decide +kernel
theorem d_Mod_apart_72 : decode prog_10_method_14_code 72 = .ok (.iadd, 1) := by decide +kernel
theorem d_Mod_apart_73 : decode prog_10_method_14_code 73 = .ok (.iload_n 3, 1) := by decide +kernel
theorem d_Mod_apart_74 : decode prog_10_method_14_code 74 = .ok (.iastore, 1) := by decide +kernel
theorem d_Mod_apart_75 : decode prog_10_method_14_code 75 = .ok (.aload_n 0, 1) := by decide +kernel
theorem d_Mod_apart_76 : decode prog_10_method_14_code 76 = .ok (.getfield 26, 3) := by decide +kernel
theorem d_Mod_apart_79 : decode prog_10_method_14_code 79 = .ok (.bipush 7, 2) := by decide +kernel
theorem d_Mod_apart_81 : decode prog_10_method_14_code 81 = .ok (.iload_n 2, 1) := by decide +kernel
theorem d_Mod_apart_82 : decode prog_10_method_14_code 82 = .ok (.imul, 1) := by decide +kernel
theorem d_Mod_apart_83 : decode prog_10_method_14_code 83 = .ok (.iload_n 1, 1) := by decide +kernel
theorem d_Mod_apart_84 : decode prog_10_method_14_code 84 = .ok (.iadd, 1) := by decide +kernel
theorem d_Mod_apart_85 : decode prog_10_method_14_code 85 = .ok (.iload_n 3, 1) := by decide +kernel
theorem d_Mod_apart_86 : decode prog_10_method_14_code 86 = .ok (.iastore, 1) := by decide +kernel
theorem d_Mod_apart_87 : decode prog_10_method_14_code 87 = .ok (.aload_n 0, 1) := by decide +kernel
theorem d_Mod_apart_88 : decode prog_10_method_14_code 88 = .ok (.invokevirtual 116, 3) := by decide +kernel
theorem d_Mod_apart_91 : decode prog_10_method_14_code 91 = .ok (.iload 4, 2) := by decide +kernel
theorem d_Mod_apart_93 : decode prog_10_method_14_code 93 = .ok (.ireturn, 1) := by decide +kernel
theorem d_Mod_isThing_0 : decode prog_10_method_7_code 0 = .ok (.iload_n 1, 1) := by decide +kernel
theorem d_Mod_isThing_1 : decode prog_10_method_7_code 1 = .ok (.iconst 0, 1) := by decide +kernel
theorem d_Mod_isThing_2 : decode prog_10_method_7_code 2 = .ok (.aload_n 0, 1) := by decide +kernel
theorem d_Mod_isThing_3 : decode prog_10_method_7_code 3 = .ok (.getfield 86, 3) := by decide +kernel
theorem d_Mod_isThing_6 : decode prog_10_method_7_code 6 = .ok (.iconst 1, 1) := by decide +kernel
theorem d_Mod_isThing_7 : decode prog_10_method_7_code 7 = .ok (.isub, 1) := by decide +kernel
theorem d_Mod_isThing_8 : decode prog_10_method_7_code 8 = .ok (.invokestatic 82, 3) := by decide +kernel
theorem d_Mod_isThing_11 : decode prog_10_method_7_code 11 = .ok (.ireturn, 1) := by decide +kernel
theorem d_Mod_wish_0 : decode prog_10_method_15_code 0 = .ok (.aload_n 0, 1) := by decide +kernel
theorem d_Mod_wish_1 : decode prog_10_method_15_code 1 = .ok (.aload_n 0, 1) := by decide +kernel
theorem d_Mod_wish_2 : decode prog_10_method_15_code 2 = .ok (.iload_n 1, 1) := by decide +kernel
theorem d_Mod_wish_3 : decode prog_10_method_15_code 3 = .ok (.invokevirtual 119, 3) := by decide +kernel
theorem d_Mod_wish_6 : decode prog_10_method_15_code 6 = .ok (.ifCond .eq 11, 3) := by decide +kernel
theorem d_Mod_wish_9 : decode prog_10_method_15_code 9 = .ok (.aload_n 0, 1) := by decide +kernel
theorem d_Mod_wish_10 : decode prog_10_method_15_code 10 = .ok (.iload_n 2, 1) := by decide +kernel
theorem d_Mod_wish_11 : decode prog_10_method_15_code 11 = .ok (.invokevirtual 119, 3) := by decide +kernel
theorem d_Mod_wish_14 : decode prog_10_method_15_code 14 = .ok (.ifCond .ne 7, 3) := by decide +kernel
theorem d_Mod_wish_17 : decode prog_10_method_15_code 17 = .ok (.iconst 1, 1) := by decide +kernel
theorem d_Mod_wish_18 : decode prog_10_method_15_code 18 = .ok (.goto 4, 3) := by decide +kernel
theorem d_Mod_wish_21 : decode prog_10_method_15_code 21 = .ok (.iconst 0, 1) := by decide +kernel
theorem d_Mod_wish_22 : decode prog_10_method_15_code 22 = .ok (.iload_n 1, 1) := by decide +kernel
theorem d_Mod_wish_23 : decode prog_10_method_15_code 23 = .ok (.iload_n 2, 1) := by decide +kernel
theorem d_Mod_wish_24 : decode prog_10_method_15_code 24 = .ok (.if_icmp .eq 13, 3) := by decide +kernel
theorem d_Mod_wish_27 : decode prog_10_method_15_code 27 = .ok (.iload_n 3, 1) := by decide +kernel
theorem d_Mod_wish_28 : decode prog_10_method_15_code 28 = .ok (.iconst 0, 1) := by decide +kernel
theorem d_Mod_wish_29 : decode prog_10_method_15_code 29 = .ok (.bipush 99, 2) := by decide +kernel
theorem d_Mod_wish_31 : decode prog_10_method_15_code 31 = .ok (.invokestatic 82, 3) := by decide +kernel
theorem d_Mod_wish_34 : decode prog_10_method_15_code 34 = .ok (.ifCond .ne 7, 3) := by decide +kernel
theorem d_Mod_wish_37 : decode prog_10_method_15_code 37 = .ok (.iconst 1, 1) := by decide +kernel
theorem d_Mod_wish_38 : decode prog_10_method_15_code 38 = .ok (.goto 4, 3) := by decide +kernel
theorem d_Mod_wish_41 : decode prog_10_method_15_code 41 = .ok (.iconst 0, 1) := by decide +kernel
theorem d_Mod_wish_42 : decode prog_10_method_15_code 42 = .ok (.iconst 0, 1) := by decide +kernel
theorem d_Mod_wish_43 : decode prog_10_method_15_code 43 = .ok (.invokevirtual 106, 3) := by decide +kernel
theorem d_Mod_wish_46 : decode prog_10_method_15_code 46 = .ok (.ifCond .eq 5, 3) := by decide +kernel
theorem d_Mod_wish_49 : decode prog_10_method_15_code 49 = .ok (.iconst 0, 1) := by decide +kernel
theorem d_Mod_wish_50 : decode prog_10_method_15_code 50 = .ok (.ireturn, 1) := by decide +kernel
theorem d_Mod_wish_51 : decode prog_10_method_15_code 51 = .ok (.aload_n 0, 1) := by decide +kernel
theorem d_Mod_wish_52 : decode prog_10_method_15_code 52 = .ok (.getfield 29, 3) := by decide +kernel
theorem d_Mod_wish_55 : decode prog_10_method_15_code 55 = .ok (.bipush 7, 2) := by decide +kernel
theorem d_Mod_wish_57 : decode prog_10_method_15_code 57 = .ok (.iload_n 1, 1) := by decide +kernel
theorem d_Mod_wish_58 : decode prog_10_method_15_code 58 = .ok (.imul, 1) := by decide +kernel
theorem d_Mod_wish_59 : decode prog_10_method_15_code 59 = .ok (.iload_n 2, 1) := by decide +kernel
theorem d_Mod_wish_60 : decode prog_10_method_15_code 60 = .ok (.iadd, 1) := by decide +kernel
theorem d_Mod_wish_61 : decode prog_10_method_15_code 61 = .ok (.iaload, 1) := by decide +kernel
theorem d_Mod_wish_62 : decode prog_10_method_15_code 62 = .ok (.istore 4, 2) := by decide +kernel
theorem d_Mod_wish_64 : decode prog_10_method_15_code 64 = .ok (.aload_n 0, 1) := by decide +kernel
theorem d_Mod_wish_65 : decode prog_10_method_15_code 65 = .ok (.getfield 29, 3) := by decide +kernel
theorem d_Mod_wish_68 : decode prog_10_method_15_code 68 = .ok (.bipush 7, 2) := by decide +kernel
theorem d_Mod_wish_70 : decode prog_10_method_15_code 70 = .ok (.iload_n 1, 1) := by decide +kernel
theorem d_Mod_wish_71 : decode prog_10_method_15_code 71 = .ok (.imul, 1) := by decide +kernel
theorem d_Mod_wish_72 : decode prog_10_method_15_code 72 = .ok (.iload_n 2, 1) := by decide +kernel
theorem d_Mod_wish_73 : decode prog_10_method_15_code 73 = .ok (.iadd, 1) := by decide +kernel
theorem d_Mod_wish_74 : decode prog_10_method_15_code 74 = .ok (.iload_n 3, 1) := by decide +kernel
theorem d_Mod_wish_75 : decode prog_10_method_15_code 75 = .ok (.iastore, 1) := by decide +kernel
theorem d_Mod_wish_76 : decode prog_10_method_15_code 76 = .ok (.aload_n 0, 1) := by decide +kernel
theorem d_Mod_wish_77 : decode prog_10_method_15_code 77 = .ok (.getfield 29, 3) := by decide +kernel
theorem d_Mod_wish_80 : decode prog_10_method_15_code 80 = .ok (.bipush 7, 2) := by decide +kernel
theorem d_Mod_wish_82 : decode prog_10_method_15_code 82 = .ok (.iload_n 2, 1) := by decide +kernel
theorem d_Mod_wish_83 : decode prog_10_method_15_code 83 = .ok (.imul, 1) := by decide +kernel
theorem d_Mod_wish_84 : decode prog_10_method_15_code 84 = .ok (.iload_n 1, 1) := by decide +kernel
theorem d_Mod_wish_85 : decode prog_10_method_15_code 85 = .ok (.iadd, 1) := by decide +kernel
theorem d_Mod_wish_86 : decode prog_10_method_15_code 86 = .ok (.iload_n 3, 1) := by decide +kernel
theorem d_Mod_wish_87 : decode prog_10_method_15_code 87 = .ok (.iastore, 1) := by decide +kernel
theorem d_Mod_wish_88 : decode prog_10_method_15_code 88 = .ok (.aload_n 0, 1) := by decide +kernel
theorem d_Mod_wish_89 : decode prog_10_method_15_code 89 = .ok (.invokevirtual 116, 3) := by decide +kernel
theorem d_Mod_wish_92 : decode prog_10_method_15_code 92 = .ok (.iload 4, 2) := by decide +kernel
theorem d_Mod_wish_94 : decode prog_10_method_15_code 94 = .ok (.ireturn, 1) := by decide +kernel
theorem d_Mod_place_0 : decode prog_10_method_16_code 0 = .ok (.aload_n 0, 1) := by decide +kernel
theorem d_Mod_place_1 : decode prog_10_method_16_code 1 = .ok (.iload_n 1, 1) := by decide +kernel
theorem d_Mod_place_2 : decode prog_10_method_16_code 2 = .ok (.iload_n 2, 1) := by decide +kernel
theorem d_Mod_place_3 : decode prog_10_method_16_code 3 = .ok (.invokevirtual 102, 3) := by decide +kernel
theorem d_Mod_place_6 : decode prog_10_method_16_code 6 = .ok (.ifCond .ne 7, 3) := by decide +kernel
theorem d_Mod_place_9 : decode prog_10_method_16_code 9 = .ok (.iconst 1, 1) := by decide +kernel
theorem d_Mod_place_10 : decode prog_10_method_16_code 10 = .ok (.goto 4, 3) := by decide +kernel
theorem d_Mod_place_13 : decode prog_10_method_16_code 13 = .ok (.iconst 0, 1) := by decide +kernel
theorem d_Mod_place_14 : decode prog_10_method_16_code 14 = .ok (.istore_n 3, 1) := by decide +kernel
theorem d_Mod_place_15 : decode prog_10_method_16_code 15 = .ok (.aload_n 0, 1) := by decide +kernel
theorem d_Mod_place_16 : decode prog_10_method_16_code 16 = .ok (.iload_n 3, 1) := by decide +kernel
theorem d_Mod_place_17 : decode prog_10_method_16_code 17 = .ok (.aload_n 0, 1) := by decide +kernel
theorem d_Mod_place_18 : decode prog_10_method_16_code 18 = .ok (.getfield 99, 3) := by decide +kernel
theorem d_Mod_place_21 : decode prog_10_method_16_code 21 = .ok (.bipush 8, 2) := by decide +kernel
theorem d_Mod_place_23 : decode prog_10_method_16_code 23 = .ok (.if_icmp .ne 7, 3) := by decide +kernel
theorem d_Mod_place_26 : decode prog_10_method_16_code 26 = .ok (.iconst 1, 1) := by decide +kernel
theorem d_Mod_place_27 : decode prog_10_method_16_code 27 = .ok (.goto 4, 3) := by decide +kernel
theorem d_Mod_place_30 : decode prog_10_method_16_code 30 = .ok (.iconst 0, 1) := by decide +kernel
theorem d_Mod_place_31 : decode prog_10_method_16_code 31 = .ok (.iload_n 3, 1) := by decide +kernel
theorem d_Mod_place_32 : decode prog_10_method_16_code 32 = .ok (.ifCond .ne 21, 3) := by decide +kernel
theorem d_Mod_place_35 : decode prog_10_method_16_code 35 = .ok (.aload_n 0, 1) := by decide +kernel
theorem d_Mod_place_36 : decode prog_10_method_16_code 36 = .ok (.getfield 7, 3) := by decide +kernel
theorem d_Mod_place_39 : decode prog_10_method_16_code 39 = .ok (.bipush 9, 2) := by decide +kernel
theorem d_Mod_place_41 : decode prog_10_method_16_code 41 = .ok (.iload_n 2, 1) := by decide +kernel
theorem d_Mod_place_42 : decode prog_10_method_16_code 42 = .ok (.imul, 1) := by decide +kernel
theorem d_Mod_place_43 : decode prog_10_method_16_code 43 = .ok (.iload_n 1, 1) := by decide +kernel
theorem d_Mod_place_44 : decode prog_10_method_16_code 44 = .ok (.iadd, 1) := by decide +kernel
theorem d_Mod_place_45 : decode prog_10_method_16_code 45 = .ok (.baload, 1) := by decide +kernel
theorem d_Mod_place_46 : decode prog_10_method_16_code 46 = .ok (.ifCond .eq 7, 3) := by decide +kernel
theorem d_Mod_place_49 : decode prog_10_method_16_code 49 = .ok (.iconst 1, 1) := by decide +kernel
theorem d_Mod_place_50 : decode prog_10_method_16_code 50 = .ok (.goto 4, 3) := by decide +kernel
theorem d_Mod_place_53 : decode prog_10_method_16_code 53 = .ok (.iconst 0, 1) := by decide +kernel
theorem d_Mod_place_54 : decode prog_10_method_16_code 54 = .ok (.invokevirtual 106, 3) := by decide +kernel
theorem d_Mod_place_57 : decode prog_10_method_16_code 57 = .ok (.ifCond .eq 5, 3) := by decide +kernel
theorem d_Mod_place_60 : decode prog_10_method_16_code 60 = .ok (.iconst 0, 1) := by decide +kernel
theorem d_Mod_place_61 : decode prog_10_method_16_code 61 = .ok (.ireturn, 1) := by decide +kernel
theorem d_Mod_place_62 : decode prog_10_method_16_code 62 = .ok (.aload_n 0, 1) := by decide +kernel
theorem d_Mod_place_63 : decode prog_10_method_16_code 63 = .ok (.getfield 32, 3) := by decide +kernel
theorem d_Mod_place_66 : decode prog_10_method_16_code 66 = .ok (.aload_n 0, 1) := by decide +kernel
theorem d_Mod_place_67 : decode prog_10_method_16_code 67 = .ok (.getfield 99, 3) := by decide +kernel
theorem d_Mod_place_70 : decode prog_10_method_16_code 70 = .ok (.iload_n 1, 1) := by decide +kernel
theorem d_Mod_place_71 : decode prog_10_method_16_code 71 = .ok (.iastore, 1) := by decide +kernel
theorem d_Mod_place_72 : decode prog_10_method_16_code 72 = .ok (.aload_n 0, 1) := by decide +kernel
theorem d_Mod_place_73 : decode prog_10_method_16_code 73 = .ok (.getfield 35, 3) := by decide +kernel
theorem d_Mod_place_76 : decode prog_10_method_16_code 76 = .ok (.aload_n 0, 1) := by decide +kernel
theorem d_Mod_place_77 : decode prog_10_method_16_code 77 = .ok (.getfield 99, 3) := by decide +kernel
theorem d_Mod_place_80 : decode prog_10_method_16_code 80 = .ok (.iload_n 2, 1) := by decide +kernel
theorem d_Mod_place_81 : decode prog_10_method_16_code 81 = .ok (.iastore, 1) := by decide +kernel
theorem d_Mod_place_82 : decode prog_10_method_16_code 82 = .ok (.aload_n 0, 1) := by decide +kernel
theorem d_Mod_place_83 : decode prog_10_method_16_code 83 = .ok (.dup, 1) := by decide +kernel
theorem d_Mod_place_84 : decode prog_10_method_16_code 84 = .ok (.getfield 99, 3) := by decide +kernel
theorem d_Mod_place_87 : decode prog_10_method_16_code 87 = .ok (.iconst 1, 1) := by decide +kernel
theorem d_Mod_place_88 : decode prog_10_method_16_code 88 = .ok (.iadd, 1) := by decide +kernel
theorem d_Mod_place_89 : decode prog_10_method_16_code 89 = .ok (.putfield 99, 3) := by decide +kernel
theorem d_Mod_place_92 : decode prog_10_method_16_code 92 = .ok (.aload_n 0, 1) := by decide +kernel
theorem d_Mod_place_93 : decode prog_10_method_16_code 93 = .ok (.getfield 99, 3) := by decide +kernel
theorem d_Mod_place_96 : decode prog_10_method_16_code 96 = .ok (.iconst 1, 1) := by decide +kernel
theorem d_Mod_place_97 : decode prog_10_method_16_code 97 = .ok (.isub, 1) := by decide +kernel
theorem d_Mod_place_98 : decode prog_10_method_16_code 98 = .ok (.ireturn, 1) := by decide +kernel
theorem d_Mod_sees_0 : decode prog_10_method_17_code 0 = .ok (.aload_n 0, 1) := by decide +kernel
theorem d_Mod_sees_1 : decode prog_10_method_17_code 1 = .ok (.iload_n 1, 1) := by decide +kernel
theorem d_Mod_sees_2 : decode prog_10_method_17_code 2 = .ok (.iconst 0, 1) := by decide +kernel
theorem d_Mod_sees_3 : decode prog_10_method_17_code 3 = .ok (.aload_n 0, 1) := by decide +kernel
theorem d_Mod_sees_4 : decode prog_10_method_17_code 4 = .ok (.getfield 99, 3) := by decide +kernel
theorem d_Mod_sees_7 : decode prog_10_method_17_code 7 = .ok (.iconst 1, 1) := by decide +kernel
theorem d_Mod_sees_8 : decode prog_10_method_17_code 8 = .ok (.isub, 1) := by decide +kernel
theorem d_Mod_sees_9 : decode prog_10_method_17_code 9 = .ok (.invokestatic 82, 3) := by decide +kernel
theorem d_Mod_sees_12 : decode prog_10_method_17_code 12 = .ok (.ifCond .eq 11, 3) := by decide +kernel
theorem d_Mod_sees_15 : decode prog_10_method_17_code 15 = .ok (.aload_n 0, 1) := by decide +kernel
theorem d_Mod_sees_16 : decode prog_10_method_17_code 16 = .ok (.iload_n 2, 1) := by decide +kernel
theorem d_Mod_sees_17 : decode prog_10_method_17_code 17 = .ok (.invokevirtual 119, 3) := by decide +kernel
theorem d_Mod_sees_20 : decode prog_10_method_17_code 20 = .ok (.ifCond .ne 7, 3) := by decide +kernel
theorem d_Mod_sees_23 : decode prog_10_method_17_code 23 = .ok (.iconst 1, 1) := by decide +kernel
theorem d_Mod_sees_24 : decode prog_10_method_17_code 24 = .ok (.goto 4, 3) := by decide +kernel
theorem d_Mod_sees_27 : decode prog_10_method_17_code 27 = .ok (.iconst 0, 1) := by decide +kernel
theorem d_Mod_sees_28 : decode prog_10_method_17_code 28 = .ok (.iconst 0, 1) := by decide +kernel
theorem d_Mod_sees_29 : decode prog_10_method_17_code 29 = .ok (.iconst 0, 1) := by decide +kernel
theorem d_Mod_sees_30 : decode prog_10_method_17_code 30 = .ok (.invokevirtual 106, 3) := by decide +kernel
theorem d_Mod_sees_33 : decode prog_10_method_17_code 33 = .ok (.ifCond .eq 5, 3) := by decide +kernel
theorem d_Mod_sees_36 : decode prog_10_method_17_code 36 = .ok (.iconst 0, 1) := by decide +kernel
theorem d_Mod_sees_37 : decode prog_10_method_17_code 37 = .ok (.ireturn, 1) := by decide +kernel
theorem d_Mod_sees_38 : decode prog_10_method_17_code 38 = .ok (.aload_n 0, 1) := by decide +kernel
theorem d_Mod_sees_39 : decode prog_10_method_17_code 39 = .ok (.getfield 38, 3) := by decide +kernel
theorem d_Mod_sees_42 : decode prog_10_method_17_code 42 = .ok (.bipush 7, 2) := by decide +kernel
theorem d_Mod_sees_44 : decode prog_10_method_17_code 44 = .ok (.iload_n 1, 1) := by decide +kernel
theorem d_Mod_sees_45 : decode prog_10_method_17_code 45 = .ok (.imul, 1) := by decide +kernel
theorem d_Mod_sees_46 : decode prog_10_method_17_code 46 = .ok (.iload_n 2, 1) := by decide +kernel
theorem d_Mod_sees_47 : decode prog_10_method_17_code 47 = .ok (.iadd, 1) := by decide +kernel
theorem d_Mod_sees_48 : decode prog_10_method_17_code 48 = .ok (.baload, 1) := by decide +kernel
theorem d_Mod_sees_49 : decode prog_10_method_17_code 49 = .ok (.istore 4, 2) := by decide +kernel
theorem d_Mod_sees_51 : decode prog_10_method_17_code 51 = .ok (.aload_n 0, 1) := by decide +kernel
theorem d_Mod_sees_52 : decode prog_10_method_17_code 52 = .ok (.getfield 38, 3) := by decide +kernel
theorem d_Mod_sees_55 : decode prog_10_method_17_code 55 = .ok (.bipush 7, 2) := by decide +kernel
theorem d_Mod_sees_57 : decode prog_10_method_17_code 57 = .ok (.iload_n 1, 1) := by decide +kernel
theorem d_Mod_sees_58 : decode prog_10_method_17_code 58 = .ok (.imul, 1) := by decide +kernel
theorem d_Mod_sees_59 : decode prog_10_method_17_code 59 = .ok (.iload_n 2, 1) := by decide +kernel
theorem d_Mod_sees_60 : decode prog_10_method_17_code 60 = .ok (.iadd, 1) := by decide +kernel
theorem d_Mod_sees_61 : decode prog_10_method_17_code 61 = .ok (.iload_n 3, 1) := by decide +kernel
theorem d_Mod_sees_62 : decode prog_10_method_17_code 62 = .ok (.bastore, 1) := by decide +kernel
theorem d_Mod_sees_63 : decode prog_10_method_17_code 63 = .ok (.aload_n 0, 1) := by decide +kernel
theorem d_Mod_sees_64 : decode prog_10_method_17_code 64 = .ok (.invokevirtual 116, 3) := by decide +kernel
theorem d_Mod_sees_67 : decode prog_10_method_17_code 67 = .ok (.iload 4, 2) := by decide +kernel
theorem d_Mod_sees_69 : decode prog_10_method_17_code 69 = .ok (.iload_n 3, 1) := by decide +kernel
theorem d_Mod_sees_70 : decode prog_10_method_17_code 70 = .ok (.if_icmp .eq 7, 3) := by decide +kernel
theorem d_Mod_sees_73 : decode prog_10_method_17_code 73 = .ok (.iconst 1, 1) := by decide +kernel
theorem d_Mod_sees_74 : decode prog_10_method_17_code 74 = .ok (.goto 4, 3) := by decide +kernel
theorem d_Mod_sees_77 : decode prog_10_method_17_code 77 = .ok (.iconst 0, 1) := by decide +kernel
theorem d_Mod_sees_78 : decode prog_10_method_17_code 78 = .ok (.ireturn, 1) := by decide +kernel
theorem d_Mod_exit_0 : decode prog_10_method_18_code 0 = .ok (.aload_n 0, 1) := by decide +kernel
theorem d_Mod_exit_1 : decode prog_10_method_18_code 1 = .ok (.iload_n 1, 1) := by decide +kernel
theorem d_Mod_exit_2 : decode prog_10_method_18_code 2 = .ok (.iload_n 2, 1) := by decide +kernel
theorem d_Mod_exit_3 : decode prog_10_method_18_code 3 = .ok (.invokevirtual 102, 3) := by decide +kernel
theorem d_Mod_exit_6 : decode prog_10_method_18_code 6 = .ok (.ifCond .ne 7, 3) := by decide +kernel
theorem d_Mod_exit_9 : decode prog_10_method_18_code 9 = .ok (.iconst 1, 1) := by decide +kernel
theorem d_Mod_exit_10 : decode prog_10_method_18_code 10 = .ok (.goto 4, 3) := by decide +kernel
theorem d_Mod_exit_13 : decode prog_10_method_18_code 13 = .ok (.iconst 0, 1) := by decide +kernel
theorem d_Mod_exit_14 : decode prog_10_method_18_code 14 = .ok (.istore_n 3, 1) := by decide +kernel
theorem d_Mod_exit_15 : decode prog_10_method_18_code 15 = .ok (.aload_n 0, 1) := by decide +kernel
theorem d_Mod_exit_16 : decode prog_10_method_18_code 16 = .ok (.iload_n 3, 1) := by decide +kernel
theorem d_Mod_exit_17 : decode prog_10_method_18_code 17 = .ok (.aload_n 0, 1) := by decide +kernel
