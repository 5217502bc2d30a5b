theorem d_0_0 : decode prog_1_method_1_code 0 = .ok (.aload_n 0, 1) := by decide +kernel
theorem d_0_1 : decode prog_1_method_1_code 1 = .ok (.invokespecial 1, 3) := by decide +kernel
theorem d_0_4 : decode prog_1_method_1_code 4 = .ok (.aload_n 0, 1) := by decide +kernel
theorem d_0_5 : decode prog_1_method_1_code 5 = .ok (.new 7, 3) := by decide +kernel
theorem d_0_8 : decode prog_1_method_1_code 8 = .ok (.dup, 1) := by decide +kernel
theorem d_0_9 : decode prog_1_method_1_code 9 = .ok (.iconst 1, 1) := by decide +kernel
theorem d_0_10 : decode prog_1_method_1_code 10 = .ok (.bipush 100, 2) := by decide +kernel
theorem d_0_12 : decode prog_1_method_1_code 12 = .ok (.iload_n 1, 1) := by decide +kernel
theorem d_0_13 : decode prog_1_method_1_code 13 = .ok (.invokestatic 9, 3) := by decide +kernel
theorem d_0_16 : decode prog_1_method_1_code 16 = .ok (.invokestatic 15, 3) := by decide +kernel
theorem d_0_19 : decode prog_1_method_1_code 19 = .ok (.invokespecial 18, 3) := by decide +kernel
theorem d_0_22 : decode prog_1_method_1_code 22 = .ok (.putfield 21, 3) := by decide +kernel
theorem d_0_25 : decode prog_1_method_1_code 25 = .ok (.aload_n 0, 1) := by decide +kernel
theorem d_0_26 : decode prog_1_method_1_code 26 = .ok (.new 27, 3) := by decide +kernel
theorem d_0_29 : decode prog_1_method_1_code 29 = .ok (.dup, 1) := by decide +kernel
theorem d_0_30 : decode prog_1_method_1_code 30 = .ok (.aload_n 0, 1) := by decide +kernel
theorem d_0_31 : decode prog_1_method_1_code 31 = .ok (.getfield 21, 3) := by decide +kernel
theorem d_0_34 : decode prog_1_method_1_code 34 = .ok (.invokespecial 29, 3) := by decide +kernel
theorem d_0_37 : decode prog_1_method_1_code 37 = .ok (.putfield 32, 3) := by decide +kernel
theorem d_0_40 : decode prog_1_method_1_code 40 = .ok (.aload_n 0, 1) := by decide +kernel
theorem d_0_41 : decode prog_1_method_1_code 41 = .ok (.iconst 4, 1) := by decide +kernel
theorem d_0_42 : decode prog_1_method_1_code 42 = .ok (.anewarray 36, 3) := by decide +kernel
theorem d_0_45 : decode prog_1_method_1_code 45 = .ok (.putfield 38, 3) := by decide +kernel
theorem d_0_48 : decode prog_1_method_1_code 48 = .ok (.iconst 0, 1) := by decide +kernel
theorem d_0_49 : decode prog_1_method_1_code 49 = .ok (.istore_n 3, 1) := by decide +kernel
theorem d_0_50 : decode prog_1_method_1_code 50 = .ok (.iload_n 3, 1) := by decide +kernel
theorem d_0_51 : decode prog_1_method_1_code 51 = .ok (.iconst 4, 1) := by decide +kernel
theorem d_0_52 : decode prog_1_method_1_code 52 = .ok (.if_icmp .ge 26, 3) := by decide +kernel
theorem d_0_55 : decode prog_1_method_1_code 55 = .ok (.aload_n 0, 1) := by decide +kernel
theorem d_0_56 : decode prog_1_method_1_code 56 = .ok (.getfield 38, 3) := by decide +kernel
theorem d_0_59 : decode prog_1_method_1_code 59 = .ok (.iload_n 3, 1) := by decide +kernel
theorem d_0_60 : decode prog_1_method_1_code 60 = .ok (.new 36, 3) := by decide +kernel
theorem d_0_63 : decode prog_1_method_1_code 63 = .ok (.dup, 1) := by decide +kernel
theorem d_0_64 : decode prog_1_method_1_code 64 = .ok (.aload_n 0, 1) := by decide +kernel
theorem d_0_65 : decode prog_1_method_1_code 65 = .ok (.getfield 21, 3) := by decide +kernel
theorem d_0_68 : decode prog_1_method_1_code 68 = .ok (.invokespecial 42, 3) := by decide +kernel
theorem d_0_71 : decode prog_1_method_1_code 71 = .ok (.aastore, 1) := by decide +kernel
theorem d_0_72 : decode prog_1_method_1_code 72 = .ok (.iinc 3 1, 3) := by decide +kernel
theorem d_0_75 : decode prog_1_method_1_code 75 = .ok (.goto (-25), 3) := by decide +kernel
theorem d_0_78 : decode prog_1_method_1_code 78 = .ok (.aload_n 0, 1) := by decide +kernel
theorem d_0_79 : decode prog_1_method_1_code 79 = .ok (.iconst 4, 1) := by decide +kernel
theorem d_0_80 : decode prog_1_method_1_code 80 = .ok (.anewarray 43, 3) := by decide +kernel
theorem d_0_83 : decode prog_1_method_1_code 83 = .ok (.putfield 45, 3) := by decide +kernel
theorem d_0_86 : decode prog_1_method_1_code 86 = .ok (.iconst 0, 1) := by decide +kernel
theorem d_0_87 : decode prog_1_method_1_code 87 = .ok (.istore_n 3, 1) := by decide +kernel
theorem d_0_88 : decode prog_1_method_1_code 88 = .ok (.iload_n 3, 1) := by decide +kernel
theorem d_0_89 : decode prog_1_method_1_code 89 = .ok (.iconst 4, 1) := by decide +kernel
theorem d_0_90 : decode prog_1_method_1_code 90 = .ok (.if_icmp .ge 31, 3) := by decide +kernel
theorem d_0_93 : decode prog_1_method_1_code 93 = .ok (.aload_n 0, 1) := by decide +kernel
theorem d_0_94 : decode prog_1_method_1_code 94 = .ok (.getfield 45, 3) := by decide +kernel
theorem d_0_97 : decode prog_1_method_1_code 97 = .ok (.iload_n 3, 1) := by decide +kernel
theorem d_0_98 : decode prog_1_method_1_code 98 = .ok (.new 43, 3) := by decide +kernel
theorem d_0_101 : decode prog_1_method_1_code 101 = .ok (.dup, 1) := by decide +kernel
theorem d_0_102 : decode prog_1_method_1_code 102 = .ok (.aload_n 0, 1) := by decide +kernel
theorem d_0_103 : decode prog_1_method_1_code 103 = .ok (.getfield 21, 3) := by decide +kernel
theorem d_0_106 : decode prog_1_method_1_code 106 = .ok (.aload_n 0, 1) := by decide +kernel
theorem d_0_107 : decode prog_1_method_1_code 107 = .ok (.getfield 32, 3) := by decide +kernel
theorem d_0_110 : decode prog_1_method_1_code 110 = .ok (.iload_n 3, 1) := by decide +kernel
theorem d_0_111 : decode prog_1_method_1_code 111 = .ok (.invokespecial 49, 3) := by decide +kernel
theorem d_0_114 : decode prog_1_method_1_code 114 = .ok (.aastore, 1) := by decide +kernel
theorem d_0_115 : decode prog_1_method_1_code 115 = .ok (.iinc 3 1, 3) := by decide +kernel
theorem d_0_118 : decode prog_1_method_1_code 118 = .ok (.goto (-30), 3) := by decide +kernel
theorem d_0_121 : decode prog_1_method_1_code 121 = .ok (.aload_n 0, 1) := by decide +kernel
theorem d_0_122 : decode prog_1_method_1_code 122 = .ok (.iload_n 2, 1) := by decide +kernel
theorem d_0_123 : decode prog_1_method_1_code 123 = .ok (.putfield 52, 3) := by decide +kernel
theorem d_0_126 : decode prog_1_method_1_code 126 = .ok (.return_, 1) := by decide +kernel
theorem d_1_0 : decode prog_1_method_2_code 0 = .ok (.aload_n 0, 1) := by decide +kernel
theorem d_1_1 : decode prog_1_method_2_code 1 = .ok (.iload_n 1, 1) := by decide +kernel
theorem d_1_2 : decode prog_1_method_2_code 2 = .ok (.invokevirtual 56, 3) := by decide +kernel
theorem d_1_5 : decode prog_1_method_2_code 5 = .ok (.astore_n 3, 1) := by decide +kernel
theorem d_1_6 : decode prog_1_method_2_code 6 = .ok (.aload_n 3, 1) := by decide +kernel
theorem d_1_7 : decode prog_1_method_2_code 7 = .ok (.ifnonnull 5, 3) := by decide +kernel
theorem d_1_10 : decode prog_1_method_2_code 10 = .ok (.iconst 0, 1) := by decide +kernel
theorem d_1_11 : decode prog_1_method_2_code 11 = .ok (.ireturn, 1) := by decide +kernel
theorem d_1_12 : decode prog_1_method_2_code 12 = .ok (.aload_n 3, 1) := by decide +kernel
theorem d_1_13 : decode prog_1_method_2_code 13 = .ok (.iload_n 2, 1) := by decide +kernel
theorem d_1_14 : decode prog_1_method_2_code 14 = .ok (.putfield 60, 3) := by decide +kernel
theorem d_1_17 : decode prog_1_method_2_code 17 = .ok (.iconst 1, 1) := by decide +kernel
theorem d_1_18 : decode prog_1_method_2_code 18 = .ok (.ireturn, 1) := by decide +kernel
theorem d_2_0 : decode prog_1_method_3_code 0 = .ok (.aload_n 0, 1) := by decide +kernel
theorem d_2_1 : decode prog_1_method_3_code 1 = .ok (.iload_n 1, 1) := by decide +kernel
theorem d_2_2 : decode prog_1_method_3_code 2 = .ok (.invokevirtual 56, 3) := by decide +kernel
theorem d_2_5 : decode prog_1_method_3_code 5 = .ok (.astore_n 2, 1) := by decide +kernel
theorem d_2_6 : decode prog_1_method_3_code 6 = .ok (.aload_n 2, 1) := by decide +kernel
theorem d_2_7 : decode prog_1_method_3_code 7 = .ok (.ifnonnull 5, 3) := by decide +kernel
theorem d_2_10 : decode prog_1_method_3_code 10 = .ok (.iconst 0, 1) := by decide +kernel
theorem d_2_11 : decode prog_1_method_3_code 11 = .ok (.ireturn, 1) := by decide +kernel
theorem d_2_12 : decode prog_1_method_3_code 12 = .ok (.aload_n 0, 1) := by decide +kernel
theorem d_2_13 : decode prog_1_method_3_code 13 = .ok (.aload_n 0, 1) := by decide +kernel
theorem d_2_14 : decode prog_1_method_3_code 14 = .ok (.getfield 52, 3) := by decide +kernel
theorem d_2_17 : decode prog_1_method_3_code 17 = .ok (.ldc 63, 2) := by decide +kernel
theorem d_2_19 : decode prog_1_method_3_code 19 = .ok (.imul, 1) := by decide +kernel
theorem d_2_20 : decode prog_1_method_3_code 20 = .ok (.iconst 1, 1) := by decide +kernel
theorem d_2_21 : decode prog_1_method_3_code 21 = .ok (.iadd, 1) := by decide +kernel
theorem d_2_22 : decode prog_1_method_3_code 22 = .ok (.putfield 52, 3) := by decide +kernel
theorem d_2_25 : decode prog_1_method_3_code 25 = .ok (.aload_n 2, 1) := by decide +kernel
theorem d_2_26 : decode prog_1_method_3_code 26 = .ok (.aload_n 0, 1) := by decide +kernel
theorem d_2_27 : decode prog_1_method_3_code 27 = .ok (.getfield 52, 3) := by decide +kernel
theorem d_2_30 : decode prog_1_method_3_code 30 = .ok (.invokevirtual 64, 3) := by decide +kernel
theorem d_2_33 : decode prog_1_method_3_code 33 = .ok (.aload_n 0, 1) := by decide +kernel
theorem d_2_34 : decode prog_1_method_3_code 34 = .ok (.getfield 52, 3) := by decide +kernel
theorem d_2_37 : decode prog_1_method_3_code 37 = .ok (.ireturn, 1) := by decide +kernel
theorem d_3_0 : decode prog_1_method_4_code 0 = .ok (.aload_n 0, 1) := by decide +kernel
theorem d_3_1 : decode prog_1_method_4_code 1 = .ok (.iload_n 1, 1) := by decide +kernel
theorem d_3_2 : decode prog_1_method_4_code 2 = .ok (.invokevirtual 56, 3) := by decide +kernel
theorem d_3_5 : decode prog_1_method_4_code 5 = .ok (.astore 4, 2) := by decide +kernel
theorem d_3_7 : decode prog_1_method_4_code 7 = .ok (.aload 4, 2) := by decide +kernel
theorem d_3_9 : decode prog_1_method_4_code 9 = .ok (.ifnull 17, 3) := by decide +kernel
theorem d_3_12 : decode prog_1_method_4_code 12 = .ok (.aload 4, 2) := by decide +kernel
theorem d_3_14 : decode prog_1_method_4_code 14 = .ok (.iload_n 2, 1) := by decide +kernel
theorem d_3_15 : decode prog_1_method_4_code 15 = .ok (.iload_n 3, 1) := by decide +kernel
theorem d_3_16 : decode prog_1_method_4_code 16 = .ok (.invokevirtual 67, 3) := by decide +kernel
theorem d_3_19 : decode prog_1_method_4_code 19 = .ok (.ifCond .eq 7, 3) := by decide +kernel
theorem d_3_22 : decode prog_1_method_4_code 22 = .ok (.iconst 1, 1) := by decide +kernel
theorem d_3_23 : decode prog_1_method_4_code 23 = .ok (.goto 4, 3) := by decide +kernel
theorem d_3_26 : decode prog_1_method_4_code 26 = .ok (.iconst 0, 1) := by decide +kernel
theorem d_3_27 : decode prog_1_method_4_code 27 = .ok (.ireturn, 1) := by decide +kernel
theorem d_4_0 : decode prog_1_method_5_code 0 = .ok (.aload_n 0, 1) := by decide +kernel
theorem d_4_1 : decode prog_1_method_5_code 1 = .ok (.iload_n 1, 1) := by decide +kernel
theorem d_4_2 : decode prog_1_method_5_code 2 = .ok (.invokevirtual 56, 3) := by decide +kernel
theorem d_4_5 : decode prog_1_method_5_code 5 = .ok (.astore 6, 2) := by decide +kernel
theorem d_4_7 : decode prog_1_method_5_code 7 = .ok (.aload 6, 2) := by decide +kernel
theorem d_4_9 : decode prog_1_method_5_code 9 = .ok (.ifnull 13, 3) := by decide +kernel
theorem d_4_12 : decode prog_1_method_5_code 12 = .ok (.iload_n 2, 1) := by decide +kernel
theorem d_4_13 : decode prog_1_method_5_code 13 = .ok (.iload_n 3, 1) := by decide +kernel
theorem d_4_14 : decode prog_1_method_5_code 14 = .ok (.iload 4, 2) := by decide +kernel
theorem d_4_16 : decode prog_1_method_5_code 16 = .ok (.invokestatic 71, 3) := by decide +kernel
theorem d_4_19 : decode prog_1_method_5_code 19 = .ok (.ifCond .ne 7, 3) := by decide +kernel
theorem d_4_22 : decode prog_1_method_5_code 22 = .ok (.sipush 400, 3) := by decide +kernel
theorem d_4_25 : decode prog_1_method_5_code 25 = .ok (.ireturn, 1) := by decide +kernel
theorem d_4_26 : decode prog_1_method_5_code 26 = .ok (.aload 6, 2) := by decide +kernel
theorem d_4_28 : decode prog_1_method_5_code 28 = .ok (.getfield 75, 3) := by decide +kernel
theorem d_4_31 : decode prog_1_method_5_code 31 = .ok (.ifCond .ne 7, 3) := by decide +kernel
theorem d_4_34 : decode prog_1_method_5_code 34 = .ok (.sipush 401, 3) := by decide +kernel
theorem d_4_37 : decode prog_1_method_5_code 37 = .ok (.ireturn, 1) := by decide +kernel
theorem d_4_38 : decode prog_1_method_5_code 38 = .ok (.aload 6, 2) := by decide +kernel
theorem d_4_40 : decode prog_1_method_5_code 40 = .ok (.iconst 0, 1) := by decide +kernel
theorem d_4_41 : decode prog_1_method_5_code 41 = .ok (.putfield 75, 3) := by decide +kernel
theorem d_4_44 : decode prog_1_method_5_code 44 = .ok (.aload 6, 2) := by decide +kernel
theorem d_4_46 : decode prog_1_method_5_code 46 = .ok (.invokevirtual 79, 3) := by decide +kernel
theorem d_4_49 : decode prog_1_method_5_code 49 = .ok (.aload 6, 2) := by decide +kernel
theorem d_4_51 : decode prog_1_method_5_code 51 = .ok (.iload_n 2, 1) := by decide +kernel
theorem d_4_52 : decode prog_1_method_5_code 52 = .ok (.iload 5, 2) := by decide +kernel
theorem d_4_54 : decode prog_1_method_5_code 54 = .ok (.invokevirtual 82, 3) := by decide +kernel
theorem d_4_57 : decode prog_1_method_5_code 57 = .ok (.ifCond .eq 7, 3) := by decide +kernel
theorem d_4_60 : decode prog_1_method_5_code 60 = .ok (.sipush 500, 3) := by decide +kernel
theorem d_4_63 : decode prog_1_method_5_code 63 = .ok (.ireturn, 1) := by decide +kernel
theorem d_4_64 : decode prog_1_method_5_code 64 = .ok (.iload_n 2, 1) := by decide +kernel
theorem d_4_65 : decode prog_1_method_5_code 65 = .ok (.iconst (-1), 1) := by decide +kernel
theorem d_4_66 : decode prog_1_method_5_code 66 = .ok (.if_icmp .ne 12, 3) := by decide +kernel
theorem d_4_69 : decode prog_1_method_5_code 69 = .ok (.aload 6, 2) := by decide +kernel
theorem d_4_71 : decode prog_1_method_5_code 71 = .ok (.invokevirtual 85, 3) := by decide +kernel
theorem d_4_74 : decode prog_1_method_5_code 74 = .ok (.sipush 200, 3) := by decide +kernel
theorem d_4_77 : decode prog_1_method_5_code 77 = .ok (.ireturn, 1) := by decide +kernel
theorem d_4_78 : decode prog_1_method_5_code 78 = .ok (.iload 4, 2) := by decide +kernel
theorem d_4_80 : decode prog_1_method_5_code 80 = .ok (.ifCond .ne 13, 3) := by decide +kernel
theorem d_4_83 : decode prog_1_method_5_code 83 = .ok (.aload 6, 2) := by decide +kernel
theorem d_4_85 : decode prog_1_method_5_code 85 = .ok (.iload_n 2, 1) := by decide +kernel
theorem d_4_86 : decode prog_1_method_5_code 86 = .ok (.invokevirtual 88, 3) := by decide +kernel
theorem d_4_89 : decode prog_1_method_5_code 89 = .ok (.sipush 200, 3) := by decide +kernel
theorem d_4_92 : decode prog_1_method_5_code 92 = .ok (.ireturn, 1) := by decide +kernel
theorem d_4_93 : decode prog_1_method_5_code 93 = .ok (.aload 6, 2) := by decide +kernel
theorem d_4_95 : decode prog_1_method_5_code 95 = .ok (.iload_n 2, 1) := by decide +kernel
theorem d_4_96 : decode prog_1_method_5_code 96 = .ok (.iload_n 3, 1) := by decide +kernel
theorem d_4_97 : decode prog_1_method_5_code 97 = .ok (.iload 4, 2) := by decide +kernel
theorem d_4_99 : decode prog_1_method_5_code 99 = .ok (.iload 5, 2) := by decide +kernel
theorem d_4_101 : decode prog_1_method_5_code 101 = .ok (.invokevirtual 91, 3) := by decide +kernel
theorem d_4_104 : decode prog_1_method_5_code 104 = .ok (.ifCond .eq 9, 3) := by decide +kernel
theorem d_4_107 : decode prog_1_method_5_code 107 = .ok (.sipush 200, 3) := by decide +kernel
theorem d_4_110 : decode prog_1_method_5_code 110 = .ok (.goto 6, 3) := by decide +kernel
theorem d_4_113 : decode prog_1_method_5_code 113 = .ok (.sipush 503, 3) := by decide +kernel
theorem d_4_116 : decode prog_1_method_5_code 116 = .ok (.ireturn, 1) := by decide +kernel
theorem d_5_0 : decode prog_1_method_6_code 0 = .ok (.aload_n 0, 1) := by decide +kernel
theorem d_5_1 : decode prog_1_method_6_code 1 = .ok (.iload_n 1, 1) := by decide +kernel
theorem d_5_2 : decode prog_1_method_6_code 2 = .ok (.invokevirtual 56, 3) := by decide +kernel
theorem d_5_5 : decode prog_1_method_6_code 5 = .ok (.astore_n 2, 1) := by decide +kernel
theorem d_5_6 : decode prog_1_method_6_code 6 = .ok (.aload_n 2, 1) := by decide +kernel
theorem d_5_7 : decode prog_1_method_6_code 7 = .ok (.ifnonnull 5, 3) := by decide +kernel
theorem d_5_10 : decode prog_1_method_6_code 10 = .ok (.iconst 0, 1) := by decide +kernel
theorem d_5_11 : decode prog_1_method_6_code 11 = .ok (.ireturn, 1) := by decide +kernel
theorem d_5_12 : decode prog_1_method_6_code 12 = .ok (.aload_n 2, 1) := by decide +kernel
theorem d_5_13 : decode prog_1_method_6_code 13 = .ok (.invokevirtual 79, 3) := by decide +kernel
theorem d_5_16 : decode prog_1_method_6_code 16 = .ok (.aload_n 2, 1) := by decide +kernel
theorem d_5_17 : decode prog_1_method_6_code 17 = .ok (.getfield 95, 3) := by decide +kernel
theorem d_5_20 : decode prog_1_method_6_code 20 = .ok (.ireturn, 1) := by decide +kernel
theorem d_6_0 : decode prog_1_method_7_code 0 = .ok (.aload_n 0, 1) := by decide +kernel
theorem d_6_1 : decode prog_1_method_7_code 1 = .ok (.iload_n 1, 1) := by decide +kernel
theorem d_6_2 : decode prog_1_method_7_code 2 = .ok (.invokevirtual 56, 3) := by decide +kernel
theorem d_6_5 : decode prog_1_method_7_code 5 = .ok (.astore_n 3, 1) := by decide +kernel
theorem d_6_6 : decode prog_1_method_7_code 6 = .ok (.aload_n 3, 1) := by decide +kernel
theorem d_6_7 : decode prog_1_method_7_code 7 = .ok (.ifnonnull 5, 3) := by decide +kernel
theorem d_6_10 : decode prog_1_method_7_code 10 = .ok (.iconst (-1), 1) := by decide +kernel
theorem d_6_11 : decode prog_1_method_7_code 11 = .ok (.ireturn, 1) := by decide +kernel
theorem d_6_12 : decode prog_1_method_7_code 12 = .ok (.aload_n 3, 1) := by decide +kernel
theorem d_6_13 : decode prog_1_method_7_code 13 = .ok (.invokevirtual 79, 3) := by decide +kernel
theorem d_6_16 : decode prog_1_method_7_code 16 = .ok (.aload_n 3, 1) := by decide +kernel
theorem d_6_17 : decode prog_1_method_7_code 17 = .ok (.iload_n 2, 1) := by decide +kernel
theorem d_6_18 : decode prog_1_method_7_code 18 = .ok (.invokevirtual 98, 3) := by decide +kernel
theorem d_6_21 : decode prog_1_method_7_code 21 = .ok (.astore 4, 2) := by decide +kernel
theorem d_6_23 : decode prog_1_method_7_code 23 = .ok (.aload 4, 2) := by decide +kernel
theorem d_6_25 : decode prog_1_method_7_code 25 = .ok (.ifnonnull 7, 3) := by decide +kernel
theorem d_6_28 : decode prog_1_method_7_code 28 = .ok (.iconst (-1), 1) := by decide +kernel
theorem d_6_29 : decode prog_1_method_7_code 29 = .ok (.goto 25, 3) := by decide +kernel
theorem d_6_32 : decode prog_1_method_7_code 32 = .ok (.aload 4, 2) := by decide +kernel
theorem d_6_34 : decode prog_1_method_7_code 34 = .ok (.getfield 102, 3) := by decide +kernel
theorem d_6_37 : decode prog_1_method_7_code 37 = .ok (.bipush 16, 2) := by decide +kernel
theorem d_6_39 : decode prog_1_method_7_code 39 = .ok (.aload 4, 2) := by decide +kernel
theorem d_6_41 : decode prog_1_method_7_code 41 = .ok (.getfield 107, 3) := by decide +kernel
theorem d_6_44 : decode prog_1_method_7_code 44 = .ok (.aload_n 0, 1) := by decide +kernel
theorem d_6_45 : decode prog_1_method_7_code 45 = .ok (.getfield 21, 3) := by decide +kernel
theorem d_6_48 : decode prog_1_method_7_code 48 = .ok (.getfield 110, 3) := by decide +kernel
theorem d_6_51 : decode prog_1_method_7_code 51 = .ok (.isub, 1) := by decide +kernel
theorem d_6_52 : decode prog_1_method_7_code 52 = .ok (.imul, 1) := by decide +kernel
theorem d_6_53 : decode prog_1_method_7_code 53 = .ok (.iadd, 1) := by decide +kernel
theorem d_6_54 : decode prog_1_method_7_code 54 = .ok (.ireturn, 1) := by decide +kernel
theorem d_7_0 : decode prog_1_method_8_code 0 = .ok (.iload_n 1, 1) := by decide +kernel
theorem d_7_1 : decode prog_1_method_8_code 1 = .ok (.ifCond .lt 8, 3) := by decide +kernel
theorem d_7_4 : decode prog_1_method_8_code 4 = .ok (.iload_n 1, 1) := by decide +kernel
theorem d_7_5 : decode prog_1_method_8_code 5 = .ok (.iconst 4, 1) := by decide +kernel
theorem d_7_6 : decode prog_1_method_8_code 6 = .ok (.if_icmp .lt 5, 3) := by decide +kernel
theorem d_7_9 : decode prog_1_method_8_code 9 = .ok (.iconst (-1), 1) := by decide +kernel
theorem d_7_10 : decode prog_1_method_8_code 10 = .ok (.ireturn, 1) := by decide +kernel
theorem d_7_11 : decode prog_1_method_8_code 11 = .ok (.aload_n 0, 1) := by decide +kernel
theorem d_7_12 : decode prog_1_method_8_code 12 = .ok (.getfield 32, 3) := by decide +kernel
theorem d_7_15 : decode prog_1_method_8_code 15 = .ok (.getfield 113, 3) := by decide +kernel
theorem d_7_18 : decode prog_1_method_8_code 18 = .ok (.istore 5, 2) := by decide +kernel
theorem d_7_20 : decode prog_1_method_8_code 20 = .ok (.aload_n 0, 1) := by decide +kernel
theorem d_7_21 : decode prog_1_method_8_code 21 = .ok (.getfield 45, 3) := by decide +kernel
theorem d_7_24 : decode prog_1_method_8_code 24 = .ok (.iload_n 1, 1) := by decide +kernel
theorem d_7_25 : decode prog_1_method_8_code 25 = .ok (.aaload, 1) := by decide +kernel
theorem d_7_26 : decode prog_1_method_8_code 26 = .ok (.astore 6, 2) := by decide +kernel
theorem d_7_28 : decode prog_1_method_8_code 28 = .ok (.aload 6, 2) := by decide +kernel
theorem d_7_30 : decode prog_1_method_8_code 30 = .ok (.invokevirtual 116, 3) := by decide +kernel
theorem d_7_33 : decode prog_1_method_8_code 33 = .ok (.ifCond .eq 14, 3) := by decide +kernel
theorem d_7_36 : decode prog_1_method_8_code 36 = .ok (.aload 6, 2) := by decide +kernel
theorem d_7_38 : decode prog_1_method_8_code 38 = .ok (.getfield 120, 3) := by decide +kernel
theorem d_7_41 : decode prog_1_method_8_code 41 = .ok (.invokevirtual 124, 3) := by decide +kernel
theorem d_7_44 : decode prog_1_method_8_code 44 = .ok (.goto 22, 3) := by decide +kernel
theorem d_7_47 : decode prog_1_method_8_code 47 = .ok (.aload_n 0, 1) := by decide +kernel
theorem d_7_48 : decode prog_1_method_8_code 48 = .ok (.aload 6, 2) := by decide +kernel
theorem d_7_50 : decode prog_1_method_8_code 50 = .ok (.aload_n 0, 1) := by decide +kernel
theorem d_7_51 : decode prog_1_method_8_code 51 = .ok (.iload_n 2, 1) := by decide +kernel
theorem d_7_52 : decode prog_1_method_8_code 52 = .ok (.invokevirtual 56, 3) := by decide +kernel
theorem d_7_55 : decode prog_1_method_8_code 55 = .ok (.aload_n 0, 1) := by decide +kernel
theorem d_7_56 : decode prog_1_method_8_code 56 = .ok (.iload_n 2, 1) := by decide +kernel
theorem d_7_57 : decode prog_1_method_8_code 57 = .ok (.iload_n 3, 1) := by decide +kernel
theorem d_7_58 : decode prog_1_method_8_code 58 = .ok (.iload 4, 2) := by decide +kernel
theorem d_7_60 : decode prog_1_method_8_code 60 = .ok (.invokevirtual 129, 3) := by decide +kernel
theorem d_7_63 : decode prog_1_method_8_code 63 = .ok (.invokevirtual 133, 3) := by decide +kernel
theorem d_7_66 : decode prog_1_method_8_code 66 = .ok (.aload_n 0, 1) := by decide +kernel
theorem d_7_67 : decode prog_1_method_8_code 67 = .ok (.getfield 32, 3) := by decide +kernel
theorem d_7_70 : decode prog_1_method_8_code 70 = .ok (.getfield 113, 3) := by decide +kernel
theorem d_7_73 : decode prog_1_method_8_code 73 = .ok (.iload 5, 2) := by decide +kernel
theorem d_7_75 : decode prog_1_method_8_code 75 = .ok (.isub, 1) := by decide +kernel
theorem d_7_76 : decode prog_1_method_8_code 76 = .ok (.ireturn, 1) := by decide +kernel
theorem d_8_0 : decode prog_1_method_9_code 0 = .ok (.aload_n 0, 1) := by decide +kernel
theorem d_8_1 : decode prog_1_method_9_code 1 = .ok (.iload_n 1, 1) := by decide +kernel
theorem d_8_2 : decode prog_1_method_9_code 2 = .ok (.iload_n 2, 1) := by decide +kernel
theorem d_8_3 : decode prog_1_method_9_code 3 = .ok (.invokevirtual 137, 3) := by decide +kernel
theorem d_8_6 : decode prog_1_method_9_code 6 = .ok (.astore 4, 2) := by decide +kernel
theorem d_8_8 : decode prog_1_method_9_code 8 = .ok (.aload 4, 2) := by decide +kernel
theorem d_8_10 : decode prog_1_method_9_code 10 = .ok (.ifnull 16, 3) := by decide +kernel
theorem d_8_13 : decode prog_1_method_9_code 13 = .ok (.iload_n 3, 1) := by decide +kernel
theorem d_8_14 : decode prog_1_method_9_code 14 = .ok (.bipush 100, 2) := by decide +kernel
theorem d_8_16 : decode prog_1_method_9_code 16 = .ok (.if_icmp .lt 10, 3) := by decide +kernel
theorem d_8_19 : decode prog_1_method_9_code 19 = .ok (.iload_n 3, 1) := by decide +kernel
theorem d_8_20 : decode prog_1_method_9_code 20 = .ok (.sipush 699, 3) := by decide +kernel
theorem d_8_23 : decode prog_1_method_9_code 23 = .ok (.if_icmp .le 5, 3) := by decide +kernel
theorem d_8_26 : decode prog_1_method_9_code 26 = .ok (.iconst (-1), 1) := by decide +kernel
theorem d_8_27 : decode prog_1_method_9_code 27 = .ok (.ireturn, 1) := by decide +kernel
theorem d_8_28 : decode prog_1_method_9_code 28 = .ok (.aload_n 0, 1) := by decide +kernel
theorem d_8_29 : decode prog_1_method_9_code 29 = .ok (.getfield 32, 3) := by decide +kernel
theorem d_8_32 : decode prog_1_method_9_code 32 = .ok (.getfield 113, 3) := by decide +kernel
theorem d_8_35 : decode prog_1_method_9_code 35 = .ok (.istore 5, 2) := by decide +kernel
theorem d_8_37 : decode prog_1_method_9_code 37 = .ok (.aload_n 0, 1) := by decide +kernel
theorem d_8_38 : decode prog_1_method_9_code 38 = .ok (.getfield 45, 3) := by decide +kernel
theorem d_8_41 : decode prog_1_method_9_code 41 = .ok (.iload_n 1, 1) := by decide +kernel
theorem d_8_42 : decode prog_1_method_9_code 42 = .ok (.aaload, 1) := by decide +kernel
theorem d_8_43 : decode prog_1_method_9_code 43 = .ok (.aload 4, 2) := by decide +kernel
theorem d_8_45 : decode prog_1_method_9_code 45 = .ok (.iload_n 3, 1) := by decide +kernel
theorem d_8_46 : decode prog_1_method_9_code 46 = .ok (.invokevirtual 141, 3) := by decide +kernel
theorem d_8_49 : decode prog_1_method_9_code 49 = .ok (.aload_n 0, 1) := by decide +kernel
theorem d_8_50 : decode prog_1_method_9_code 50 = .ok (.getfield 32, 3) := by decide +kernel
theorem d_8_53 : decode prog_1_method_9_code 53 = .ok (.getfield 113, 3) := by decide +kernel
theorem d_8_56 : decode prog_1_method_9_code 56 = .ok (.iload 5, 2) := by decide +kernel
theorem d_8_58 : decode prog_1_method_9_code 58 = .ok (.isub, 1) := by decide +kernel
theorem d_8_59 : decode prog_1_method_9_code 59 = .ok (.ireturn, 1) := by decide +kernel
theorem d_9_0 : decode prog_1_method_10_code 0 = .ok (.aload_n 0, 1) := by decide +kernel
theorem d_9_1 : decode prog_1_method_10_code 1 = .ok (.iload_n 1, 1) := by decide +kernel
theorem d_9_2 : decode prog_1_method_10_code 2 = .ok (.iload_n 2, 1) := by decide +kernel
theorem d_9_3 : decode prog_1_method_10_code 3 = .ok (.invokevirtual 137, 3) := by decide +kernel
theorem d_9_6 : decode prog_1_method_10_code 6 = .ok (.astore_n 3, 1) := by decide +kernel
theorem d_9_7 : decode prog_1_method_10_code 7 = .ok (.aload_n 3, 1) := by decide +kernel
theorem d_9_8 : decode prog_1_method_10_code 8 = .ok (.ifnull 13, 3) := by decide +kernel
theorem d_9_11 : decode prog_1_method_10_code 11 = .ok (.aload_n 3, 1) := by decide +kernel
theorem d_9_12 : decode prog_1_method_10_code 12 = .ok (.getfield 145, 3) := by decide +kernel
theorem d_9_15 : decode prog_1_method_10_code 15 = .ok (.invokevirtual 151, 3) := by decide +kernel
theorem d_9_18 : decode prog_1_method_10_code 18 = .ok (.ifCond .ne 5, 3) := by decide +kernel
theorem d_9_21 : decode prog_1_method_10_code 21 = .ok (.iconst 0, 1) := by decide +kernel
theorem d_9_22 : decode prog_1_method_10_code 22 = .ok (.ireturn, 1) := by decide +kernel
theorem d_9_23 : decode prog_1_method_10_code 23 = .ok (.aload_n 3, 1) := by decide +kernel
theorem d_9_24 : decode prog_1_method_10_code 24 = .ok (.getfield 145, 3) := by decide +kernel
theorem d_9_27 : decode prog_1_method_10_code 27 = .ok (.invokevirtual 156, 3) := by decide +kernel
theorem d_9_30 : decode prog_1_method_10_code 30 = .ok (.iconst 1, 1) := by decide +kernel
theorem d_9_31 : decode prog_1_method_10_code 31 = .ok (.ireturn, 1) := by decide +kernel
theorem d_10_0 : decode prog_1_method_11_code 0 = .ok (.aload_n 0, 1) := by decide +kernel
theorem d_10_1 : decode prog_1_method_11_code 1 = .ok (.iload_n 1, 1) := by decide +kernel
theorem d_10_2 : decode prog_1_method_11_code 2 = .ok (.invokevirtual 159, 3) := by decide +kernel
theorem d_10_5 : decode prog_1_method_11_code 5 = .ok (.astore_n 2, 1) := by decide +kernel
theorem d_10_6 : decode prog_1_method_11_code 6 = .ok (.aload_n 2, 1) := by decide +kernel
theorem d_10_7 : decode prog_1_method_11_code 7 = .ok (.ifnonnull 5, 3) := by decide +kernel
theorem d_10_10 : decode prog_1_method_11_code 10 = .ok (.iconst (-1), 1) := by decide +kernel
theorem d_10_11 : decode prog_1_method_11_code 11 = .ok (.ireturn, 1) := by decide +kernel
theorem d_10_12 : decode prog_1_method_11_code 12 = .ok (.aload_n 0, 1) := by decide +kernel
theorem d_10_13 : decode prog_1_method_11_code 13 = .ok (.getfield 32, 3) := by decide +kernel
theorem d_10_16 : decode prog_1_method_11_code 16 = .ok (.getfield 113, 3) := by decide +kernel
theorem d_10_19 : decode prog_1_method_11_code 19 = .ok (.istore_n 3, 1) := by decide +kernel
theorem d_10_20 : decode prog_1_method_11_code 20 = .ok (.aload_n 2, 1) := by decide +kernel
theorem d_10_21 : decode prog_1_method_11_code 21 = .ok (.getfield 120, 3) := by decide +kernel
theorem d_10_24 : decode prog_1_method_11_code 24 = .ok (.getfield 163, 3) := by decide +kernel
theorem d_10_27 : decode prog_1_method_11_code 27 = .ok (.iconst 1, 1) := by decide +kernel
theorem d_10_28 : decode prog_1_method_11_code 28 = .ok (.if_icmp .ne 7, 3) := by decide +kernel
theorem d_10_31 : decode prog_1_method_11_code 31 = .ok (.aload_n 2, 1) := by decide +kernel
theorem d_10_32 : decode prog_1_method_11_code 32 = .ok (.invokevirtual 166, 3) := by decide +kernel
theorem d_10_35 : decode prog_1_method_11_code 35 = .ok (.aload_n 0, 1) := by decide +kernel
theorem d_10_36 : decode prog_1_method_11_code 36 = .ok (.getfield 32, 3) := by decide +kernel
theorem d_10_39 : decode prog_1_method_11_code 39 = .ok (.getfield 113, 3) := by decide +kernel
theorem d_10_42 : decode prog_1_method_11_code 42 = .ok (.iload_n 3, 1) := by decide +kernel
theorem d_10_43 : decode prog_1_method_11_code 43 = .ok (.isub, 1) := by decide +kernel
theorem d_10_44 : decode prog_1_method_11_code 44 = .ok (.ireturn, 1) := by decide +kernel
theorem d_11_0 : decode prog_1_method_12_code 0 = .ok (.aload_n 0, 1) := by decide +kernel
theorem d_11_1 : decode prog_1_method_12_code 1 = .ok (.iload_n 1, 1) := by decide +kernel
theorem d_11_2 : decode prog_1_method_12_code 2 = .ok (.invokevirtual 159, 3) := by decide +kernel
theorem d_11_5 : decode prog_1_method_12_code 5 = .ok (.astore_n 2, 1) := by decide +kernel
theorem d_11_6 : decode prog_1_method_12_code 6 = .ok (.aload_n 2, 1) := by decide +kernel
theorem d_11_7 : decode prog_1_method_12_code 7 = .ok (.ifnull 14, 3) := by decide +kernel
theorem d_11_10 : decode prog_1_method_12_code 10 = .ok (.aload_n 2, 1) := by decide +kernel
theorem d_11_11 : decode prog_1_method_12_code 11 = .ok (.getfield 120, 3) := by decide +kernel
theorem d_11_14 : decode prog_1_method_12_code 14 = .ok (.getfield 163, 3) := by decide +kernel
theorem d_11_17 : decode prog_1_method_12_code 17 = .ok (.iconst 2, 1) := by decide +kernel
theorem d_11_18 : decode prog_1_method_12_code 18 = .ok (.if_icmp .eq 5, 3) := by decide +kernel
theorem d_11_21 : decode prog_1_method_12_code 21 = .ok (.iconst 0, 1) := by decide +kernel
theorem d_11_22 : decode prog_1_method_12_code 22 = .ok (.ireturn, 1) := by decide +kernel
theorem d_11_23 : decode prog_1_method_12_code 23 = .ok (.aload_n 2, 1) := by decide +kernel
theorem d_11_24 : decode prog_1_method_12_code 24 = .ok (.getfield 120, 3) := by decide +kernel
theorem d_11_27 : decode prog_1_method_12_code 27 = .ok (.invokevirtual 169, 3) := by decide +kernel
theorem d_11_30 : decode prog_1_method_12_code 30 = .ok (.iconst 1, 1) := by decide +kernel
theorem d_11_31 : decode prog_1_method_12_code 31 = .ok (.ireturn, 1) := by decide +kernel
theorem d_12_0 : decode prog_1_method_13_code 0 = .ok (.iload_n 1, 1) := by decide +kernel
theorem d_12_1 : decode prog_1_method_13_code 1 = .ok (.ifCond .lt 10, 3) := by decide +kernel
theorem d_12_4 : decode prog_1_method_13_code 4 = .ok (.iload_n 1, 1) := by decide +kernel
theorem d_12_5 : decode prog_1_method_13_code 5 = .ok (.sipush 2000, 3) := by decide +kernel
theorem d_12_8 : decode prog_1_method_13_code 8 = .ok (.if_icmp .le 5, 3) := by decide +kernel
theorem d_12_11 : decode prog_1_method_13_code 11 = .ok (.iconst (-1), 1) := by decide +kernel
theorem d_12_12 : decode prog_1_method_13_code 12 = .ok (.ireturn, 1) := by decide +kernel
theorem d_12_13 : decode prog_1_method_13_code 13 = .ok (.aload_n 0, 1) := by decide +kernel
theorem d_12_14 : decode prog_1_method_13_code 14 = .ok (.getfield 32, 3) := by decide +kernel
theorem d_12_17 : decode prog_1_method_13_code 17 = .ok (.getfield 113, 3) := by decide +kernel
theorem d_12_20 : decode prog_1_method_13_code 20 = .ok (.istore_n 2, 1) := by decide +kernel
theorem d_12_21 : decode prog_1_method_13_code 21 = .ok (.aload_n 0, 1) := by decide +kernel
theorem d_12_22 : decode prog_1_method_13_code 22 = .ok (.invokevirtual 172, 3) := by decide +kernel
theorem d_12_25 : decode prog_1_method_13_code 25 = .ok (.istore_n 3, 1) := by decide +kernel
theorem d_12_26 : decode prog_1_method_13_code 26 = .ok (.iconst 0, 1) := by decide +kernel
theorem d_12_27 : decode prog_1_method_13_code 27 = .ok (.istore 4, 2) := by decide +kernel
theorem d_12_29 : decode prog_1_method_13_code 29 = .ok (.iload 4, 2) := by decide +kernel
theorem d_12_31 : decode prog_1_method_13_code 31 = .ok (.iload_n 1, 1) := by decide +kernel
theorem d_12_32 : decode prog_1_method_13_code 32 = .ok (.if_icmp .ge 42, 3) := by decide +kernel
theorem d_12_35 : decode prog_1_method_13_code 35 = .ok (.aload_n 0, 1) := by decide +kernel
theorem d_12_36 : decode prog_1_method_13_code 36 = .ok (.getfield 21, 3) := by decide +kernel
theorem d_12_39 : decode prog_1_method_13_code 39 = .ok (.dup, 1) := by decide +kernel
theorem d_12_40 : decode prog_1_method_13_code 40 = .ok (.getfield 110, 3) := by decide +kernel
theorem d_12_43 : decode prog_1_method_13_code 43 = .ok (.iconst 1, 1) := by decide +kernel
theorem d_12_44 : decode prog_1_method_13_code 44 = .ok (.iadd, 1) := by decide +kernel
theorem d_12_45 : decode prog_1_method_13_code 45 = .ok (.putfield 110, 3) := by decide +kernel
theorem d_12_48 : decode prog_1_method_13_code 48 = .ok (.aload_n 0, 1) := by decide +kernel
theorem d_12_49 : decode prog_1_method_13_code 49 = .ok (.getfield 21, 3) := by decide +kernel
theorem d_12_52 : decode prog_1_method_13_code 52 = .ok (.getfield 110, 3) := by decide +kernel
theorem d_12_55 : decode prog_1_method_13_code 55 = .ok (.iload_n 3, 1) := by decide +kernel
theorem d_12_56 : decode prog_1_method_13_code 56 = .ok (.if_icmp .ne 12, 3) := by decide +kernel
theorem d_12_59 : decode prog_1_method_13_code 59 = .ok (.aload_n 0, 1) := by decide +kernel
theorem d_12_60 : decode prog_1_method_13_code 60 = .ok (.invokevirtual 176, 3) := by decide +kernel
theorem d_12_63 : decode prog_1_method_13_code 63 = .ok (.aload_n 0, 1) := by decide +kernel
theorem d_12_64 : decode prog_1_method_13_code 64 = .ok (.invokevirtual 172, 3) := by decide +kernel
theorem d_12_67 : decode prog_1_method_13_code 67 = .ok (.istore_n 3, 1) := by decide +kernel
theorem d_12_68 : decode prog_1_method_13_code 68 = .ok (.iinc 4 1, 3) := by decide +kernel
theorem d_12_71 : decode prog_1_method_13_code 71 = .ok (.goto (-42), 3) := by decide +kernel
theorem d_12_74 : decode prog_1_method_13_code 74 = .ok (.aload_n 0, 1) := by decide +kernel
theorem d_12_75 : decode prog_1_method_13_code 75 = .ok (.getfield 32, 3) := by decide +kernel
theorem d_12_78 : decode prog_1_method_13_code 78 = .ok (.getfield 113, 3) := by decide +kernel
theorem d_12_81 : decode prog_1_method_13_code 81 = .ok (.iload_n 2, 1) := by decide +kernel
theorem d_12_82 : decode prog_1_method_13_code 82 = .ok (.isub, 1) := by decide +kernel
theorem d_12_83 : decode prog_1_method_13_code 83 = .ok (.ireturn, 1) := by decide +kernel
theorem d_13_0 : decode prog_1_method_14_code 0 = .ok (.aload_n 0, 1) := by decide +kernel
theorem d_13_1 : decode prog_1_method_14_code 1 = .ok (.getfield 21, 3) := by decide +kernel
theorem d_13_4 : decode prog_1_method_14_code 4 = .ok (.getfield 110, 3) := by decide +kernel
theorem d_13_7 : decode prog_1_method_14_code 7 = .ok (.ireturn, 1) := by decide +kernel
theorem d_14_0 : decode prog_1_method_15_code 0 = .ok (.aload_n 0, 1) := by decide +kernel
theorem d_14_1 : decode prog_1_method_15_code 1 = .ok (.iload_n 1, 1) := by decide +kernel
theorem d_14_2 : decode prog_1_method_15_code 2 = .ok (.invokevirtual 159, 3) := by decide +kernel
theorem d_14_5 : decode prog_1_method_15_code 5 = .ok (.astore_n 2, 1) := by decide +kernel
theorem d_14_6 : decode prog_1_method_15_code 6 = .ok (.aload_n 2, 1) := by decide +kernel
theorem d_14_7 : decode prog_1_method_15_code 7 = .ok (.ifnonnull 7, 3) := by decide +kernel
theorem d_14_10 : decode prog_1_method_15_code 10 = .ok (.iconst 0, 1) := by decide +kernel
theorem d_14_11 : decode prog_1_method_15_code 11 = .ok (.goto 21, 3) := by decide +kernel
theorem d_14_14 : decode prog_1_method_15_code 14 = .ok (.aload_n 2, 1) := by decide +kernel
theorem d_14_15 : decode prog_1_method_15_code 15 = .ok (.getfield 120, 3) := by decide +kernel
theorem d_14_18 : decode prog_1_method_15_code 18 = .ok (.getfield 163, 3) := by decide +kernel
theorem d_14_21 : decode prog_1_method_15_code 21 = .ok (.bipush 8, 2) := by decide +kernel
theorem d_14_23 : decode prog_1_method_15_code 23 = .ok (.aload_n 2, 1) := by decide +kernel
theorem d_14_24 : decode prog_1_method_15_code 24 = .ok (.getfield 120, 3) := by decide +kernel
theorem d_14_27 : decode prog_1_method_15_code 27 = .ok (.getfield 179, 3) := by decide +kernel
theorem d_14_30 : decode prog_1_method_15_code 30 = .ok (.imul, 1) := by decide +kernel
theorem d_14_31 : decode prog_1_method_15_code 31 = .ok (.iadd, 1) := by decide +kernel
theorem d_14_32 : decode prog_1_method_15_code 32 = .ok (.ireturn, 1) := by decide +kernel
theorem d_15_0 : decode prog_1_method_16_code 0 = .ok (.aload_n 0, 1) := by decide +kernel
theorem d_15_1 : decode prog_1_method_16_code 1 = .ok (.iload_n 1, 1) := by decide +kernel
theorem d_15_2 : decode prog_1_method_16_code 2 = .ok (.iload_n 2, 1) := by decide +kernel
theorem d_15_3 : decode prog_1_method_16_code 3 = .ok (.invokevirtual 137, 3) := by decide +kernel
theorem d_15_6 : decode prog_1_method_16_code 6 = .ok (.astore_n 3, 1) := by decide +kernel
theorem d_15_7 : decode prog_1_method_16_code 7 = .ok (.aload_n 3, 1) := by decide +kernel
theorem d_15_8 : decode prog_1_method_16_code 8 = .ok (.ifnonnull 5, 3) := by decide +kernel
theorem d_15_11 : decode prog_1_method_16_code 11 = .ok (.iconst 0, 1) := by decide +kernel
theorem d_15_12 : decode prog_1_method_16_code 12 = .ok (.ireturn, 1) := by decide +kernel
theorem d_15_13 : decode prog_1_method_16_code 13 = .ok (.aload_n 3, 1) := by decide +kernel
theorem d_15_14 : decode prog_1_method_16_code 14 = .ok (.getfield 182, 3) := by decide +kernel
theorem d_15_17 : decode prog_1_method_16_code 17 = .ok (.aload_n 3, 1) := by decide +kernel
theorem d_15_18 : decode prog_1_method_16_code 18 = .ok (.getfield 183, 3) := by decide +kernel
theorem d_15_21 : decode prog_1_method_16_code 21 = .ok (.ifCond .eq 8, 3) := by decide +kernel
theorem d_15_24 : decode prog_1_method_16_code 24 = .ok (.bipush 8, 2) := by decide +kernel
theorem d_15_26 : decode prog_1_method_16_code 26 = .ok (.goto 4, 3) := by decide +kernel
theorem d_15_29 : decode prog_1_method_16_code 29 = .ok (.iconst 0, 1) := by decide +kernel
theorem d_15_30 : decode prog_1_method_16_code 30 = .ok (.iadd, 1) := by decide +kernel
theorem d_15_31 : decode prog_1_method_16_code 31 = .ok (.bipush 16, 2) := by decide +kernel
theorem d_15_33 : decode prog_1_method_16_code 33 = .ok (.aload_n 3, 1) := by decide +kernel
theorem d_15_34 : decode prog_1_method_16_code 34 = .ok (.getfield 186, 3) := by decide +kernel
theorem d_15_37 : decode prog_1_method_16_code 37 = .ok (.imul, 1) := by decide +kernel
theorem d_15_38 : decode prog_1_method_16_code 38 = .ok (.iadd, 1) := by decide +kernel
theorem d_15_39 : decode prog_1_method_16_code 39 = .ok (.ireturn, 1) := by decide +kernel
theorem d_16_0 : decode prog_1_method_17_code 0 = .ok (.aload_n 0, 1) := by decide +kernel
theorem d_16_1 : decode prog_1_method_17_code 1 = .ok (.iload_n 1, 1) := by decide +kernel
theorem d_16_2 : decode prog_1_method_17_code 2 = .ok (.iload_n 2, 1) := by decide +kernel
theorem d_16_3 : decode prog_1_method_17_code 3 = .ok (.invokevirtual 137, 3) := by decide +kernel
theorem d_16_6 : decode prog_1_method_17_code 6 = .ok (.astore_n 3, 1) := by decide +kernel
theorem d_16_7 : decode prog_1_method_17_code 7 = .ok (.aload_n 3, 1) := by decide +kernel
theorem d_16_8 : decode prog_1_method_17_code 8 = .ok (.ifnonnull 7, 3) := by decide +kernel
theorem d_16_11 : decode prog_1_method_17_code 11 = .ok (.iconst 0, 1) := by decide +kernel
theorem d_16_12 : decode prog_1_method_17_code 12 = .ok (.goto 7, 3) := by decide +kernel
theorem d_16_15 : decode prog_1_method_17_code 15 = .ok (.aload_n 3, 1) := by decide +kernel
theorem d_16_16 : decode prog_1_method_17_code 16 = .ok (.getfield 187, 3) := by decide +kernel
theorem d_16_19 : decode prog_1_method_17_code 19 = .ok (.ireturn, 1) := by decide +kernel
theorem d_17_0 : decode prog_1_method_18_code 0 = .ok (.iconst 0, 1) := by decide +kernel
theorem d_17_1 : decode prog_1_method_18_code 1 = .ok (.istore_n 1, 1) := by decide +kernel
theorem d_17_2 : decode prog_1_method_18_code 2 = .ok (.iconst 0, 1) := by decide +kernel
theorem d_17_3 : decode prog_1_method_18_code 3 = .ok (.istore_n 2, 1) := by decide +kernel
theorem d_17_4 : decode prog_1_method_18_code 4 = .ok (.iload_n 2, 1) := by decide +kernel
theorem d_17_5 : decode prog_1_method_18_code 5 = .ok (.iconst 4, 1) := by decide +kernel
theorem d_17_6 : decode prog_1_method_18_code 6 = .ok (.if_icmp .ge 21, 3) := by decide +kernel
theorem d_17_9 : decode prog_1_method_18_code 9 = .ok (.iload_n 1, 1) := by decide +kernel
theorem d_17_10 : decode prog_1_method_18_code 10 = .ok (.aload_n 0, 1) := by decide +kernel
theorem d_17_11 : decode prog_1_method_18_code 11 = .ok (.getfield 45, 3) := by decide +kernel
theorem d_17_14 : decode prog_1_method_18_code 14 = .ok (.iload_n 2, 1) := by decide +kernel
theorem d_17_15 : decode prog_1_method_18_code 15 = .ok (.aaload, 1) := by decide +kernel
theorem d_17_16 : decode prog_1_method_18_code 16 = .ok (.invokevirtual 190, 3) := by decide +kernel
theorem d_17_19 : decode prog_1_method_18_code 19 = .ok (.iadd, 1) := by decide +kernel
theorem d_17_20 : decode prog_1_method_18_code 20 = .ok (.istore_n 1, 1) := by decide +kernel
theorem d_17_21 : decode prog_1_method_18_code 21 = .ok (.iinc 2 1, 3) := by decide +kernel
theorem d_17_24 : decode prog_1_method_18_code 24 = .ok (.goto (-20), 3) := by decide +kernel
theorem d_17_27 : decode prog_1_method_18_code 27 = .ok (.iload_n 1, 1) := by decide +kernel
theorem d_17_28 : decode prog_1_method_18_code 28 = .ok (.ireturn, 1) := by decide +kernel
theorem d_18_0 : decode prog_1_method_19_code 0 = .ok (.aload_n 0, 1) := by decide +kernel
theorem d_18_1 : decode prog_1_method_19_code 1 = .ok (.getfield 32, 3) := by decide +kernel
theorem d_18_4 : decode prog_1_method_19_code 4 = .ok (.getfield 113, 3) := by decide +kernel
theorem d_18_7 : decode prog_1_method_19_code 7 = .ok (.ireturn, 1) := by decide +kernel
theorem d_19_0 : decode prog_1_method_20_code 0 = .ok (.aload_n 0, 1) := by decide +kernel
theorem d_19_1 : decode prog_1_method_20_code 1 = .ok (.getfield 32, 3) := by decide +kernel
theorem d_19_4 : decode prog_1_method_20_code 4 = .ok (.iload_n 1, 1) := by decide +kernel
theorem d_19_5 : decode prog_1_method_20_code 5 = .ok (.invokevirtual 193, 3) := by decide +kernel
theorem d_19_8 : decode prog_1_method_20_code 8 = .ok (.lreturn, 1) := by decide +kernel
theorem d_20_0 : decode prog_1_method_21_code 0 = .ok (.iload_n 1, 1) := by decide +kernel
theorem d_20_1 : decode prog_1_method_21_code 1 = .ok (.ifCond .lt 8, 3) := by decide +kernel
theorem d_20_4 : decode prog_1_method_21_code 4 = .ok (.iload_n 1, 1) := by decide +kernel
theorem d_20_5 : decode prog_1_method_21_code 5 = .ok (.iconst 4, 1) := by decide +kernel
theorem d_20_6 : decode prog_1_method_21_code 6 = .ok (.if_icmp .lt 7, 3) := by decide +kernel
theorem d_20_9 : decode prog_1_method_21_code 9 = .ok (.aconst_null, 1) := by decide +kernel
theorem d_20_10 : decode prog_1_method_21_code 10 = .ok (.goto 9, 3) := by decide +kernel
theorem d_20_13 : decode prog_1_method_21_code 13 = .ok (.aload_n 0, 1) := by decide +kernel
theorem d_20_14 : decode prog_1_method_21_code 14 = .ok (.getfield 38, 3) := by decide +kernel
theorem d_20_17 : decode prog_1_method_21_code 17 = .ok (.iload_n 1, 1) := by decide +kernel
theorem d_20_18 : decode prog_1_method_21_code 18 = .ok (.aaload, 1) := by decide +kernel
theorem d_20_19 : decode prog_1_method_21_code 19 = .ok (.areturn, 1) := by decide +kernel
