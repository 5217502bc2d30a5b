theorem d_90_0 : decode prog_9_method_10_code 0 = .ok (.aload_n 0, 1) := by decide +kernel
theorem d_90_1 : decode prog_9_method_10_code 1 = .ok (.iload_n 1, 1) := by decide +kernel
theorem d_90_2 : decode prog_9_method_10_code 2 = .ok (.invokevirtual 75, 3) := by decide +kernel
theorem d_90_5 : decode prog_9_method_10_code 5 = .ok (.astore 5, 2) := by decide +kernel
theorem d_90_7 : decode prog_9_method_10_code 7 = .ok (.aload 5, 2) := by decide +kernel
theorem d_90_9 : decode prog_9_method_10_code 9 = .ok (.ifnonnull 5, 3) := by decide +kernel
theorem d_90_12 : decode prog_9_method_10_code 12 = .ok (.iconst 0, 1) := by decide +kernel
theorem d_90_13 : decode prog_9_method_10_code 13 = .ok (.ireturn, 1) := by decide +kernel
theorem d_90_14 : decode prog_9_method_10_code 14 = .ok (.aload 5, 2) := by decide +kernel
theorem d_90_16 : decode prog_9_method_10_code 16 = .ok (.iload_n 1, 1) := by decide +kernel
theorem d_90_17 : decode prog_9_method_10_code 17 = .ok (.putfield 66, 3) := by decide +kernel
theorem d_90_20 : decode prog_9_method_10_code 20 = .ok (.aload 5, 2) := by decide +kernel
theorem d_90_22 : decode prog_9_method_10_code 22 = .ok (.iload_n 2, 1) := by decide +kernel
theorem d_90_23 : decode prog_9_method_10_code 23 = .ok (.putfield 79, 3) := by decide +kernel
theorem d_90_26 : decode prog_9_method_10_code 26 = .ok (.aload 5, 2) := by decide +kernel
theorem d_90_28 : decode prog_9_method_10_code 28 = .ok (.aload_n 0, 1) := by decide +kernel
theorem d_90_29 : decode prog_9_method_10_code 29 = .ok (.getfield 17, 3) := by decide +kernel
theorem d_90_32 : decode prog_9_method_10_code 32 = .ok (.getfield 30, 3) := by decide +kernel
theorem d_90_35 : decode prog_9_method_10_code 35 = .ok (.iload_n 3, 1) := by decide +kernel
theorem d_90_36 : decode prog_9_method_10_code 36 = .ok (.iadd, 1) := by decide +kernel
theorem d_90_37 : decode prog_9_method_10_code 37 = .ok (.putfield 59, 3) := by decide +kernel
theorem d_90_40 : decode prog_9_method_10_code 40 = .ok (.aload 5, 2) := by decide +kernel
theorem d_90_42 : decode prog_9_method_10_code 42 = .ok (.iload 4, 2) := by decide +kernel
theorem d_90_44 : decode prog_9_method_10_code 44 = .ok (.bipush 8, 2) := by decide +kernel
theorem d_90_46 : decode prog_9_method_10_code 46 = .ok (.ishr, 1) := by decide +kernel
theorem d_90_47 : decode prog_9_method_10_code 47 = .ok (.putfield 69, 3) := by decide +kernel
theorem d_90_50 : decode prog_9_method_10_code 50 = .ok (.aload 5, 2) := by decide +kernel
theorem d_90_52 : decode prog_9_method_10_code 52 = .ok (.iload 4, 2) := by decide +kernel
theorem d_90_54 : decode prog_9_method_10_code 54 = .ok (.sipush 255, 3) := by decide +kernel
theorem d_90_57 : decode prog_9_method_10_code 57 = .ok (.iand, 1) := by decide +kernel
theorem d_90_58 : decode prog_9_method_10_code 58 = .ok (.putfield 72, 3) := by decide +kernel
theorem d_90_61 : decode prog_9_method_10_code 61 = .ok (.iconst 1, 1) := by decide +kernel
theorem d_90_62 : decode prog_9_method_10_code 62 = .ok (.ireturn, 1) := by decide +kernel
theorem d_91_0 : decode prog_9_method_11_code 0 = .ok (.iconst 0, 1) := by decide +kernel
theorem d_91_1 : decode prog_9_method_11_code 1 = .ok (.istore_n 2, 1) := by decide +kernel
theorem d_91_2 : decode prog_9_method_11_code 2 = .ok (.iload_n 2, 1) := by decide +kernel
theorem d_91_3 : decode prog_9_method_11_code 3 = .ok (.aload_n 0, 1) := by decide +kernel
theorem d_91_4 : decode prog_9_method_11_code 4 = .ok (.getfield 56, 3) := by decide +kernel
theorem d_91_7 : decode prog_9_method_11_code 7 = .ok (.if_icmp .ge 29, 3) := by decide +kernel
theorem d_91_10 : decode prog_9_method_11_code 10 = .ok (.aload_n 0, 1) := by decide +kernel
theorem d_91_11 : decode prog_9_method_11_code 11 = .ok (.getfield 11, 3) := by decide +kernel
theorem d_91_14 : decode prog_9_method_11_code 14 = .ok (.iload_n 2, 1) := by decide +kernel
theorem d_91_15 : decode prog_9_method_11_code 15 = .ok (.aaload, 1) := by decide +kernel
theorem d_91_16 : decode prog_9_method_11_code 16 = .ok (.getfield 66, 3) := by decide +kernel
theorem d_91_19 : decode prog_9_method_11_code 19 = .ok (.iload_n 1, 1) := by decide +kernel
theorem d_91_20 : decode prog_9_method_11_code 20 = .ok (.if_icmp .ne 10, 3) := by decide +kernel
theorem d_91_23 : decode prog_9_method_11_code 23 = .ok (.aload_n 0, 1) := by decide +kernel
theorem d_91_24 : decode prog_9_method_11_code 24 = .ok (.getfield 11, 3) := by decide +kernel
theorem d_91_27 : decode prog_9_method_11_code 27 = .ok (.iload_n 2, 1) := by decide +kernel
theorem d_91_28 : decode prog_9_method_11_code 28 = .ok (.aaload, 1) := by decide +kernel
theorem d_91_29 : decode prog_9_method_11_code 29 = .ok (.areturn, 1) := by decide +kernel
theorem d_91_30 : decode prog_9_method_11_code 30 = .ok (.iinc 2 1, 3) := by decide +kernel
theorem d_91_33 : decode prog_9_method_11_code 33 = .ok (.goto (-31), 3) := by decide +kernel
theorem d_91_36 : decode prog_9_method_11_code 36 = .ok (.aload_n 0, 1) := by decide +kernel
theorem d_91_37 : decode prog_9_method_11_code 37 = .ok (.getfield 56, 3) := by decide +kernel
theorem d_91_40 : decode prog_9_method_11_code 40 = .ok (.iconst 4, 1) := by decide +kernel
theorem d_91_41 : decode prog_9_method_11_code 41 = .ok (.if_icmp .lt 5, 3) := by decide +kernel
theorem d_91_44 : decode prog_9_method_11_code 44 = .ok (.aconst_null, 1) := by decide +kernel
theorem d_91_45 : decode prog_9_method_11_code 45 = .ok (.areturn, 1) := by decide +kernel
theorem d_91_46 : decode prog_9_method_11_code 46 = .ok (.aload_n 0, 1) := by decide +kernel
theorem d_91_47 : decode prog_9_method_11_code 47 = .ok (.dup, 1) := by decide +kernel
theorem d_91_48 : decode prog_9_method_11_code 48 = .ok (.getfield 56, 3) := by decide +kernel
theorem d_91_51 : decode prog_9_method_11_code 51 = .ok (.iconst 1, 1) := by decide +kernel
theorem d_91_52 : decode prog_9_method_11_code 52 = .ok (.iadd, 1) := by decide +kernel
theorem d_91_53 : decode prog_9_method_11_code 53 = .ok (.putfield 56, 3) := by decide +kernel
theorem d_91_56 : decode prog_9_method_11_code 56 = .ok (.aload_n 0, 1) := by decide +kernel
theorem d_91_57 : decode prog_9_method_11_code 57 = .ok (.getfield 11, 3) := by decide +kernel
theorem d_91_60 : decode prog_9_method_11_code 60 = .ok (.aload_n 0, 1) := by decide +kernel
theorem d_91_61 : decode prog_9_method_11_code 61 = .ok (.getfield 56, 3) := by decide +kernel
theorem d_91_64 : decode prog_9_method_11_code 64 = .ok (.iconst 1, 1) := by decide +kernel
theorem d_91_65 : decode prog_9_method_11_code 65 = .ok (.isub, 1) := by decide +kernel
theorem d_91_66 : decode prog_9_method_11_code 66 = .ok (.aaload, 1) := by decide +kernel
theorem d_91_67 : decode prog_9_method_11_code 67 = .ok (.areturn, 1) := by decide +kernel
theorem d_92_0 : decode prog_9_method_12_code 0 = .ok (.iconst 0, 1) := by decide +kernel
theorem d_92_1 : decode prog_9_method_12_code 1 = .ok (.istore_n 2, 1) := by decide +kernel
theorem d_92_2 : decode prog_9_method_12_code 2 = .ok (.iload_n 2, 1) := by decide +kernel
theorem d_92_3 : decode prog_9_method_12_code 3 = .ok (.aload_n 0, 1) := by decide +kernel
theorem d_92_4 : decode prog_9_method_12_code 4 = .ok (.getfield 56, 3) := by decide +kernel
theorem d_92_7 : decode prog_9_method_12_code 7 = .ok (.if_icmp .ge 25, 3) := by decide +kernel
theorem d_92_10 : decode prog_9_method_12_code 10 = .ok (.aload_n 0, 1) := by decide +kernel
theorem d_92_11 : decode prog_9_method_12_code 11 = .ok (.iload_n 2, 1) := by decide +kernel
theorem d_92_12 : decode prog_9_method_12_code 12 = .ok (.invokevirtual 82, 3) := by decide +kernel
theorem d_92_15 : decode prog_9_method_12_code 15 = .ok (.iload_n 1, 1) := by decide +kernel
theorem d_92_16 : decode prog_9_method_12_code 16 = .ok (.if_icmp .ne 10, 3) := by decide +kernel
theorem d_92_19 : decode prog_9_method_12_code 19 = .ok (.aload_n 0, 1) := by decide +kernel
theorem d_92_20 : decode prog_9_method_12_code 20 = .ok (.getfield 11, 3) := by decide +kernel
theorem d_92_23 : decode prog_9_method_12_code 23 = .ok (.iload_n 2, 1) := by decide +kernel
theorem d_92_24 : decode prog_9_method_12_code 24 = .ok (.aaload, 1) := by decide +kernel
theorem d_92_25 : decode prog_9_method_12_code 25 = .ok (.areturn, 1) := by decide +kernel
theorem d_92_26 : decode prog_9_method_12_code 26 = .ok (.iinc 2 1, 3) := by decide +kernel
theorem d_92_29 : decode prog_9_method_12_code 29 = .ok (.goto (-27), 3) := by decide +kernel
theorem d_92_32 : decode prog_9_method_12_code 32 = .ok (.aconst_null, 1) := by decide +kernel
theorem d_92_33 : decode prog_9_method_12_code 33 = .ok (.areturn, 1) := by decide +kernel
theorem d_93_0 : decode prog_9_method_13_code 0 = .ok (.aload_n 0, 1) := by decide +kernel
theorem d_93_1 : decode prog_9_method_13_code 1 = .ok (.getfield 11, 3) := by decide +kernel
theorem d_93_4 : decode prog_9_method_13_code 4 = .ok (.iload_n 1, 1) := by decide +kernel
theorem d_93_5 : decode prog_9_method_13_code 5 = .ok (.aaload, 1) := by decide +kernel
theorem d_93_6 : decode prog_9_method_13_code 6 = .ok (.getfield 79, 3) := by decide +kernel
theorem d_93_9 : decode prog_9_method_13_code 9 = .ok (.istore_n 2, 1) := by decide +kernel
theorem d_93_10 : decode prog_9_method_13_code 10 = .ok (.iconst 0, 1) := by decide +kernel
theorem d_93_11 : decode prog_9_method_13_code 11 = .ok (.istore_n 3, 1) := by decide +kernel
theorem d_93_12 : decode prog_9_method_13_code 12 = .ok (.iconst 0, 1) := by decide +kernel
theorem d_93_13 : decode prog_9_method_13_code 13 = .ok (.istore 4, 2) := by decide +kernel
theorem d_93_15 : decode prog_9_method_13_code 15 = .ok (.iload 4, 2) := by decide +kernel
theorem d_93_17 : decode prog_9_method_13_code 17 = .ok (.aload_n 0, 1) := by decide +kernel
theorem d_93_18 : decode prog_9_method_13_code 18 = .ok (.getfield 56, 3) := by decide +kernel
theorem d_93_21 : decode prog_9_method_13_code 21 = .ok (.if_icmp .ge 42, 3) := by decide +kernel
theorem d_93_24 : decode prog_9_method_13_code 24 = .ok (.aload_n 0, 1) := by decide +kernel
theorem d_93_25 : decode prog_9_method_13_code 25 = .ok (.getfield 11, 3) := by decide +kernel
theorem d_93_28 : decode prog_9_method_13_code 28 = .ok (.iload 4, 2) := by decide +kernel
theorem d_93_30 : decode prog_9_method_13_code 30 = .ok (.aaload, 1) := by decide +kernel
theorem d_93_31 : decode prog_9_method_13_code 31 = .ok (.getfield 79, 3) := by decide +kernel
theorem d_93_34 : decode prog_9_method_13_code 34 = .ok (.istore 5, 2) := by decide +kernel
theorem d_93_36 : decode prog_9_method_13_code 36 = .ok (.iload 5, 2) := by decide +kernel
theorem d_93_38 : decode prog_9_method_13_code 38 = .ok (.iload_n 2, 1) := by decide +kernel
theorem d_93_39 : decode prog_9_method_13_code 39 = .ok (.if_icmp .gt 15, 3) := by decide +kernel
theorem d_93_42 : decode prog_9_method_13_code 42 = .ok (.iload 5, 2) := by decide +kernel
theorem d_93_44 : decode prog_9_method_13_code 44 = .ok (.iload_n 2, 1) := by decide +kernel
theorem d_93_45 : decode prog_9_method_13_code 45 = .ok (.if_icmp .ne 12, 3) := by decide +kernel
theorem d_93_48 : decode prog_9_method_13_code 48 = .ok (.iload 4, 2) := by decide +kernel
theorem d_93_50 : decode prog_9_method_13_code 50 = .ok (.iload_n 1, 1) := by decide +kernel
theorem d_93_51 : decode prog_9_method_13_code 51 = .ok (.if_icmp .ge 6, 3) := by decide +kernel
theorem d_93_54 : decode prog_9_method_13_code 54 = .ok (.iinc 3 1, 3) := by decide +kernel
theorem d_93_57 : decode prog_9_method_13_code 57 = .ok (.iinc 4 1, 3) := by decide +kernel
theorem d_93_60 : decode prog_9_method_13_code 60 = .ok (.goto (-45), 3) := by decide +kernel
theorem d_93_63 : decode prog_9_method_13_code 63 = .ok (.iload_n 3, 1) := by decide +kernel
theorem d_93_64 : decode prog_9_method_13_code 64 = .ok (.ireturn, 1) := by decide +kernel
theorem d_94_0 : decode prog_11_method_1_code 0 = .ok (.aload_n 0, 1) := by decide +kernel
theorem d_94_1 : decode prog_11_method_1_code 1 = .ok (.invokespecial 1, 3) := by decide +kernel
theorem d_94_4 : decode prog_11_method_1_code 4 = .ok (.aload_n 0, 1) := by decide +kernel
theorem d_94_5 : decode prog_11_method_1_code 5 = .ok (.iconst 4, 1) := by decide +kernel
theorem d_94_6 : decode prog_11_method_1_code 6 = .ok (.newarray .int, 2) := by decide +kernel
theorem d_94_8 : decode prog_11_method_1_code 8 = .ok (.putfield 7, 3) := by decide +kernel
theorem d_94_11 : decode prog_11_method_1_code 11 = .ok (.aload_n 0, 1) := by decide +kernel
theorem d_94_12 : decode prog_11_method_1_code 12 = .ok (.iconst 4, 1) := by decide +kernel
theorem d_94_13 : decode prog_11_method_1_code 13 = .ok (.newarray .boolean, 2) := by decide +kernel
theorem d_94_15 : decode prog_11_method_1_code 15 = .ok (.putfield 13, 3) := by decide +kernel
theorem d_94_18 : decode prog_11_method_1_code 18 = .ok (.aload_n 0, 1) := by decide +kernel
theorem d_94_19 : decode prog_11_method_1_code 19 = .ok (.iconst 4, 1) := by decide +kernel
theorem d_94_20 : decode prog_11_method_1_code 20 = .ok (.newarray .boolean, 2) := by decide +kernel
theorem d_94_22 : decode prog_11_method_1_code 22 = .ok (.putfield 17, 3) := by decide +kernel
theorem d_94_25 : decode prog_11_method_1_code 25 = .ok (.aload_n 0, 1) := by decide +kernel
theorem d_94_26 : decode prog_11_method_1_code 26 = .ok (.iconst 4, 1) := by decide +kernel
theorem d_94_27 : decode prog_11_method_1_code 27 = .ok (.newarray .int, 2) := by decide +kernel
theorem d_94_29 : decode prog_11_method_1_code 29 = .ok (.putfield 20, 3) := by decide +kernel
theorem d_94_32 : decode prog_11_method_1_code 32 = .ok (.aload_n 0, 1) := by decide +kernel
theorem d_94_33 : decode prog_11_method_1_code 33 = .ok (.iconst 4, 1) := by decide +kernel
theorem d_94_34 : decode prog_11_method_1_code 34 = .ok (.newarray .int, 2) := by decide +kernel
theorem d_94_36 : decode prog_11_method_1_code 36 = .ok (.putfield 23, 3) := by decide +kernel
theorem d_94_39 : decode prog_11_method_1_code 39 = .ok (.aload_n 0, 1) := by decide +kernel
theorem d_94_40 : decode prog_11_method_1_code 40 = .ok (.iconst 4, 1) := by decide +kernel
theorem d_94_41 : decode prog_11_method_1_code 41 = .ok (.newarray .int, 2) := by decide +kernel
theorem d_94_43 : decode prog_11_method_1_code 43 = .ok (.putfield 26, 3) := by decide +kernel
theorem d_94_46 : decode prog_11_method_1_code 46 = .ok (.aload_n 0, 1) := by decide +kernel
theorem d_94_47 : decode prog_11_method_1_code 47 = .ok (.bipush 64, 2) := by decide +kernel
theorem d_94_49 : decode prog_11_method_1_code 49 = .ok (.newarray .int, 2) := by decide +kernel
theorem d_94_51 : decode prog_11_method_1_code 51 = .ok (.putfield 29, 3) := by decide +kernel
theorem d_94_54 : decode prog_11_method_1_code 54 = .ok (.aload_n 0, 1) := by decide +kernel
theorem d_94_55 : decode prog_11_method_1_code 55 = .ok (.bipush 64, 2) := by decide +kernel
theorem d_94_57 : decode prog_11_method_1_code 57 = .ok (.newarray .int, 2) := by decide +kernel
theorem d_94_59 : decode prog_11_method_1_code 59 = .ok (.putfield 32, 3) := by decide +kernel
theorem d_94_62 : decode prog_11_method_1_code 62 = .ok (.aload_n 0, 1) := by decide +kernel
theorem d_94_63 : decode prog_11_method_1_code 63 = .ok (.bipush 64, 2) := by decide +kernel
theorem d_94_65 : decode prog_11_method_1_code 65 = .ok (.newarray .int, 2) := by decide +kernel
theorem d_94_67 : decode prog_11_method_1_code 67 = .ok (.putfield 35, 3) := by decide +kernel
theorem d_94_70 : decode prog_11_method_1_code 70 = .ok (.aload_n 0, 1) := by decide +kernel
theorem d_94_71 : decode prog_11_method_1_code 71 = .ok (.bipush 64, 2) := by decide +kernel
theorem d_94_73 : decode prog_11_method_1_code 73 = .ok (.newarray .int, 2) := by decide +kernel
theorem d_94_75 : decode prog_11_method_1_code 75 = .ok (.putfield 38, 3) := by decide +kernel
theorem d_94_78 : decode prog_11_method_1_code 78 = .ok (.aload_n 0, 1) := by decide +kernel
theorem d_94_79 : decode prog_11_method_1_code 79 = .ok (.iconst 4, 1) := by decide +kernel
theorem d_94_80 : decode prog_11_method_1_code 80 = .ok (.newarray .int, 2) := by decide +kernel
theorem d_94_82 : decode prog_11_method_1_code 82 = .ok (.putfield 41, 3) := by decide +kernel
theorem d_94_85 : decode prog_11_method_1_code 85 = .ok (.aload_n 0, 1) := by decide +kernel
theorem d_94_86 : decode prog_11_method_1_code 86 = .ok (.iconst 4, 1) := by decide +kernel
theorem d_94_87 : decode prog_11_method_1_code 87 = .ok (.newarray .int, 2) := by decide +kernel
theorem d_94_89 : decode prog_11_method_1_code 89 = .ok (.putfield 44, 3) := by decide +kernel
theorem d_94_92 : decode prog_11_method_1_code 92 = .ok (.aload_n 0, 1) := by decide +kernel
theorem d_94_93 : decode prog_11_method_1_code 93 = .ok (.bipush 16, 2) := by decide +kernel
theorem d_94_95 : decode prog_11_method_1_code 95 = .ok (.newarray .int, 2) := by decide +kernel
theorem d_94_97 : decode prog_11_method_1_code 97 = .ok (.putfield 47, 3) := by decide +kernel
theorem d_94_100 : decode prog_11_method_1_code 100 = .ok (.aload_n 0, 1) := by decide +kernel
theorem d_94_101 : decode prog_11_method_1_code 101 = .ok (.iconst 4, 1) := by decide +kernel
theorem d_94_102 : decode prog_11_method_1_code 102 = .ok (.newarray .int, 2) := by decide +kernel
theorem d_94_104 : decode prog_11_method_1_code 104 = .ok (.putfield 50, 3) := by decide +kernel
theorem d_94_107 : decode prog_11_method_1_code 107 = .ok (.aload_n 0, 1) := by decide +kernel
theorem d_94_108 : decode prog_11_method_1_code 108 = .ok (.iconst 4, 1) := by decide +kernel
theorem d_94_109 : decode prog_11_method_1_code 109 = .ok (.newarray .int, 2) := by decide +kernel
theorem d_94_111 : decode prog_11_method_1_code 111 = .ok (.putfield 53, 3) := by decide +kernel
theorem d_94_114 : decode prog_11_method_1_code 114 = .ok (.aload_n 0, 1) := by decide +kernel
theorem d_94_115 : decode prog_11_method_1_code 115 = .ok (.bipush 16, 2) := by decide +kernel
theorem d_94_117 : decode prog_11_method_1_code 117 = .ok (.newarray .int, 2) := by decide +kernel
theorem d_94_119 : decode prog_11_method_1_code 119 = .ok (.putfield 56, 3) := by decide +kernel
theorem d_94_122 : decode prog_11_method_1_code 122 = .ok (.aload_n 0, 1) := by decide +kernel
theorem d_94_123 : decode prog_11_method_1_code 123 = .ok (.bipush 16, 2) := by decide +kernel
theorem d_94_125 : decode prog_11_method_1_code 125 = .ok (.newarray .int, 2) := by decide +kernel
theorem d_94_127 : decode prog_11_method_1_code 127 = .ok (.putfield 59, 3) := by decide +kernel
theorem d_94_130 : decode prog_11_method_1_code 130 = .ok (.aload_n 0, 1) := by decide +kernel
theorem d_94_131 : decode prog_11_method_1_code 131 = .ok (.bipush 16, 2) := by decide +kernel
theorem d_94_133 : decode prog_11_method_1_code 133 = .ok (.newarray .boolean, 2) := by decide +kernel
theorem d_94_135 : decode prog_11_method_1_code 135 = .ok (.putfield 62, 3) := by decide +kernel
theorem d_94_138 : decode prog_11_method_1_code 138 = .ok (.aload_n 0, 1) := by decide +kernel
theorem d_94_139 : decode prog_11_method_1_code 139 = .ok (.bipush 16, 2) := by decide +kernel
theorem d_94_141 : decode prog_11_method_1_code 141 = .ok (.newarray .boolean, 2) := by decide +kernel
theorem d_94_143 : decode prog_11_method_1_code 143 = .ok (.putfield 65, 3) := by decide +kernel
theorem d_94_146 : decode prog_11_method_1_code 146 = .ok (.aload_n 0, 1) := by decide +kernel
theorem d_94_147 : decode prog_11_method_1_code 147 = .ok (.bipush 16, 2) := by decide +kernel
theorem d_94_149 : decode prog_11_method_1_code 149 = .ok (.newarray .int, 2) := by decide +kernel
theorem d_94_151 : decode prog_11_method_1_code 151 = .ok (.putfield 68, 3) := by decide +kernel
theorem d_94_154 : decode prog_11_method_1_code 154 = .ok (.aload_n 0, 1) := by decide +kernel
theorem d_94_155 : decode prog_11_method_1_code 155 = .ok (.bipush 16, 2) := by decide +kernel
theorem d_94_157 : decode prog_11_method_1_code 157 = .ok (.newarray .int, 2) := by decide +kernel
theorem d_94_159 : decode prog_11_method_1_code 159 = .ok (.putfield 71, 3) := by decide +kernel
theorem d_94_162 : decode prog_11_method_1_code 162 = .ok (.aload_n 0, 1) := by decide +kernel
theorem d_94_163 : decode prog_11_method_1_code 163 = .ok (.bipush 96, 2) := by decide +kernel
theorem d_94_165 : decode prog_11_method_1_code 165 = .ok (.newarray .int, 2) := by decide +kernel
theorem d_94_167 : decode prog_11_method_1_code 167 = .ok (.putfield 74, 3) := by decide +kernel
theorem d_94_170 : decode prog_11_method_1_code 170 = .ok (.aload_n 0, 1) := by decide +kernel
theorem d_94_171 : decode prog_11_method_1_code 171 = .ok (.bipush 16, 2) := by decide +kernel
theorem d_94_173 : decode prog_11_method_1_code 173 = .ok (.newarray .int, 2) := by decide +kernel
theorem d_94_175 : decode prog_11_method_1_code 175 = .ok (.putfield 77, 3) := by decide +kernel
theorem d_94_178 : decode prog_11_method_1_code 178 = .ok (.aload_n 0, 1) := by decide +kernel
theorem d_94_179 : decode prog_11_method_1_code 179 = .ok (.bipush 16, 2) := by decide +kernel
theorem d_94_181 : decode prog_11_method_1_code 181 = .ok (.newarray .int, 2) := by decide +kernel
theorem d_94_183 : decode prog_11_method_1_code 183 = .ok (.putfield 80, 3) := by decide +kernel
theorem d_94_186 : decode prog_11_method_1_code 186 = .ok (.aload_n 0, 1) := by decide +kernel
theorem d_94_187 : decode prog_11_method_1_code 187 = .ok (.bipush 64, 2) := by decide +kernel
theorem d_94_189 : decode prog_11_method_1_code 189 = .ok (.newarray .long, 2) := by decide +kernel
theorem d_94_191 : decode prog_11_method_1_code 191 = .ok (.putfield 83, 3) := by decide +kernel
theorem d_94_194 : decode prog_11_method_1_code 194 = .ok (.aload_n 0, 1) := by decide +kernel
theorem d_94_195 : decode prog_11_method_1_code 195 = .ok (.iload_n 1, 1) := by decide +kernel
theorem d_94_196 : decode prog_11_method_1_code 196 = .ok (.iconst 1, 1) := by decide +kernel
theorem d_94_197 : decode prog_11_method_1_code 197 = .ok (.if_icmp .ge 7, 3) := by decide +kernel
theorem d_94_200 : decode prog_11_method_1_code 200 = .ok (.iconst 1, 1) := by decide +kernel
theorem d_94_201 : decode prog_11_method_1_code 201 = .ok (.goto 15, 3) := by decide +kernel
theorem d_94_204 : decode prog_11_method_1_code 204 = .ok (.iload_n 1, 1) := by decide +kernel
theorem d_94_205 : decode prog_11_method_1_code 205 = .ok (.bipush 100, 2) := by decide +kernel
theorem d_94_207 : decode prog_11_method_1_code 207 = .ok (.if_icmp .le 8, 3) := by decide +kernel
theorem d_94_210 : decode prog_11_method_1_code 210 = .ok (.bipush 100, 2) := by decide +kernel
theorem d_94_212 : decode prog_11_method_1_code 212 = .ok (.goto 4, 3) := by decide +kernel
theorem d_94_215 : decode prog_11_method_1_code 215 = .ok (.iload_n 1, 1) := by decide +kernel
theorem d_94_216 : decode prog_11_method_1_code 216 = .ok (.putfield 87, 3) := by decide +kernel
theorem d_94_219 : decode prog_11_method_1_code 219 = .ok (.aload_n 0, 1) := by decide +kernel
theorem d_94_220 : decode prog_11_method_1_code 220 = .ok (.iload_n 2, 1) := by decide +kernel
theorem d_94_221 : decode prog_11_method_1_code 221 = .ok (.putfield 91, 3) := by decide +kernel
theorem d_94_224 : decode prog_11_method_1_code 224 = .ok (.return_, 1) := by decide +kernel
theorem d_95_0 : decode prog_11_method_2_code 0 = .ok (.iload_n 0, 1) := by decide +kernel
theorem d_95_1 : decode prog_11_method_2_code 1 = .ok (.iload_n 1, 1) := by decide +kernel
theorem d_95_2 : decode prog_11_method_2_code 2 = .ok (.if_icmp .lt 12, 3) := by decide +kernel
theorem d_95_5 : decode prog_11_method_2_code 5 = .ok (.iload_n 0, 1) := by decide +kernel
theorem d_95_6 : decode prog_11_method_2_code 6 = .ok (.iload_n 2, 1) := by decide +kernel
theorem d_95_7 : decode prog_11_method_2_code 7 = .ok (.if_icmp .gt 7, 3) := by decide +kernel
theorem d_95_10 : decode prog_11_method_2_code 10 = .ok (.iconst 1, 1) := by decide +kernel
theorem d_95_11 : decode prog_11_method_2_code 11 = .ok (.goto 4, 3) := by decide +kernel
theorem d_95_14 : decode prog_11_method_2_code 14 = .ok (.iconst 0, 1) := by decide +kernel
theorem d_95_15 : decode prog_11_method_2_code 15 = .ok (.ireturn, 1) := by decide +kernel
theorem d_96_0 : decode prog_11_method_3_code 0 = .ok (.iload_n 1, 1) := by decide +kernel
theorem d_96_1 : decode prog_11_method_3_code 1 = .ok (.iconst 0, 1) := by decide +kernel
theorem d_96_2 : decode prog_11_method_3_code 2 = .ok (.iconst 3, 1) := by decide +kernel
theorem d_96_3 : decode prog_11_method_3_code 3 = .ok (.invokestatic 94, 3) := by decide +kernel
theorem d_96_6 : decode prog_11_method_3_code 6 = .ok (.ifCond .ne 5, 3) := by decide +kernel
theorem d_96_9 : decode prog_11_method_3_code 9 = .ok (.iconst 0, 1) := by decide +kernel
theorem d_96_10 : decode prog_11_method_3_code 10 = .ok (.ireturn, 1) := by decide +kernel
theorem d_96_11 : decode prog_11_method_3_code 11 = .ok (.aload_n 0, 1) := by decide +kernel
theorem d_96_12 : decode prog_11_method_3_code 12 = .ok (.getfield 7, 3) := by decide +kernel
theorem d_96_15 : decode prog_11_method_3_code 15 = .ok (.iload_n 1, 1) := by decide +kernel
theorem d_96_16 : decode prog_11_method_3_code 16 = .ok (.iload_n 2, 1) := by decide +kernel
theorem d_96_17 : decode prog_11_method_3_code 17 = .ok (.iastore, 1) := by decide +kernel
theorem d_96_18 : decode prog_11_method_3_code 18 = .ok (.iconst 1, 1) := by decide +kernel
theorem d_96_19 : decode prog_11_method_3_code 19 = .ok (.ireturn, 1) := by decide +kernel
theorem d_97_0 : decode prog_11_method_4_code 0 = .ok (.iload_n 1, 1) := by decide +kernel
theorem d_97_1 : decode prog_11_method_4_code 1 = .ok (.iconst 0, 1) := by decide +kernel
theorem d_97_2 : decode prog_11_method_4_code 2 = .ok (.iconst 3, 1) := by decide +kernel
theorem d_97_3 : decode prog_11_method_4_code 3 = .ok (.invokestatic 94, 3) := by decide +kernel
theorem d_97_6 : decode prog_11_method_4_code 6 = .ok (.ifCond .ne 5, 3) := by decide +kernel
theorem d_97_9 : decode prog_11_method_4_code 9 = .ok (.iconst 0, 1) := by decide +kernel
theorem d_97_10 : decode prog_11_method_4_code 10 = .ok (.ireturn, 1) := by decide +kernel
theorem d_97_11 : decode prog_11_method_4_code 11 = .ok (.aload_n 0, 1) := by decide +kernel
theorem d_97_12 : decode prog_11_method_4_code 12 = .ok (.aload_n 0, 1) := by decide +kernel
theorem d_97_13 : decode prog_11_method_4_code 13 = .ok (.getfield 91, 3) := by decide +kernel
theorem d_97_16 : decode prog_11_method_4_code 16 = .ok (.ldc 98, 2) := by decide +kernel
theorem d_97_18 : decode prog_11_method_4_code 18 = .ok (.imul, 1) := by decide +kernel
theorem d_97_19 : decode prog_11_method_4_code 19 = .ok (.iconst 1, 1) := by decide +kernel
theorem d_97_20 : decode prog_11_method_4_code 20 = .ok (.iadd, 1) := by decide +kernel
theorem d_97_21 : decode prog_11_method_4_code 21 = .ok (.putfield 91, 3) := by decide +kernel
theorem d_97_24 : decode prog_11_method_4_code 24 = .ok (.aload_n 0, 1) := by decide +kernel
theorem d_97_25 : decode prog_11_method_4_code 25 = .ok (.getfield 20, 3) := by decide +kernel
theorem d_97_28 : decode prog_11_method_4_code 28 = .ok (.iload_n 1, 1) := by decide +kernel
theorem d_97_29 : decode prog_11_method_4_code 29 = .ok (.aload_n 0, 1) := by decide +kernel
theorem d_97_30 : decode prog_11_method_4_code 30 = .ok (.getfield 91, 3) := by decide +kernel
theorem d_97_33 : decode prog_11_method_4_code 33 = .ok (.iastore, 1) := by decide +kernel
theorem d_97_34 : decode prog_11_method_4_code 34 = .ok (.aload_n 0, 1) := by decide +kernel
theorem d_97_35 : decode prog_11_method_4_code 35 = .ok (.getfield 17, 3) := by decide +kernel
theorem d_97_38 : decode prog_11_method_4_code 38 = .ok (.iload_n 1, 1) := by decide +kernel
theorem d_97_39 : decode prog_11_method_4_code 39 = .ok (.iconst 1, 1) := by decide +kernel
theorem d_97_40 : decode prog_11_method_4_code 40 = .ok (.bastore, 1) := by decide +kernel
theorem d_97_41 : decode prog_11_method_4_code 41 = .ok (.aload_n 0, 1) := by decide +kernel
theorem d_97_42 : decode prog_11_method_4_code 42 = .ok (.getfield 23, 3) := by decide +kernel
theorem d_97_45 : decode prog_11_method_4_code 45 = .ok (.iload_n 1, 1) := by decide +kernel
theorem d_97_46 : decode prog_11_method_4_code 46 = .ok (.aload_n 0, 1) := by decide +kernel
theorem d_97_47 : decode prog_11_method_4_code 47 = .ok (.getfield 99, 3) := by decide +kernel
theorem d_97_50 : decode prog_11_method_4_code 50 = .ok (.iastore, 1) := by decide +kernel
theorem d_97_51 : decode prog_11_method_4_code 51 = .ok (.aload_n 0, 1) := by decide +kernel
theorem d_97_52 : decode prog_11_method_4_code 52 = .ok (.getfield 26, 3) := by decide +kernel
theorem d_97_55 : decode prog_11_method_4_code 55 = .ok (.iload_n 1, 1) := by decide +kernel
theorem d_97_56 : decode prog_11_method_4_code 56 = .ok (.iconst 0, 1) := by decide +kernel
theorem d_97_57 : decode prog_11_method_4_code 57 = .ok (.iastore, 1) := by decide +kernel
theorem d_97_58 : decode prog_11_method_4_code 58 = .ok (.aload_n 0, 1) := by decide +kernel
theorem d_97_59 : decode prog_11_method_4_code 59 = .ok (.getfield 91, 3) := by decide +kernel
theorem d_97_62 : decode prog_11_method_4_code 62 = .ok (.ireturn, 1) := by decide +kernel
theorem d_98_0 : decode prog_11_method_5_code 0 = .ok (.iload_n 0, 1) := by decide +kernel
theorem d_98_1 : decode prog_11_method_5_code 1 = .ok (.iload_n 1, 1) := by decide +kernel
theorem d_98_2 : decode prog_11_method_5_code 2 = .ok (.ixor, 1) := by decide +kernel
theorem d_98_3 : decode prog_11_method_5_code 3 = .ok (.istore_n 3, 1) := by decide +kernel
theorem d_98_4 : decode prog_11_method_5_code 4 = .ok (.iload_n 3, 1) := by decide +kernel
theorem d_98_5 : decode prog_11_method_5_code 5 = .ok (.iload_n 3, 1) := by decide +kernel
theorem d_98_6 : decode prog_11_method_5_code 6 = .ok (.bipush 15, 2) := by decide +kernel
theorem d_98_8 : decode prog_11_method_5_code 8 = .ok (.iushr, 1) := by decide +kernel
theorem d_98_9 : decode prog_11_method_5_code 9 = .ok (.ixor, 1) := by decide +kernel
theorem d_98_10 : decode prog_11_method_5_code 10 = .ok (.ldc 102, 2) := by decide +kernel
theorem d_98_12 : decode prog_11_method_5_code 12 = .ok (.imul, 1) := by decide +kernel
theorem d_98_13 : decode prog_11_method_5_code 13 = .ok (.istore_n 3, 1) := by decide +kernel
theorem d_98_14 : decode prog_11_method_5_code 14 = .ok (.iload_n 3, 1) := by decide +kernel
theorem d_98_15 : decode prog_11_method_5_code 15 = .ok (.iload_n 2, 1) := by decide +kernel
theorem d_98_16 : decode prog_11_method_5_code 16 = .ok (.ldc 103, 2) := by decide +kernel
theorem d_98_18 : decode prog_11_method_5_code 18 = .ok (.imul, 1) := by decide +kernel
theorem d_98_19 : decode prog_11_method_5_code 19 = .ok (.iadd, 1) := by decide +kernel
theorem d_98_20 : decode prog_11_method_5_code 20 = .ok (.istore_n 3, 1) := by decide +kernel
theorem d_98_21 : decode prog_11_method_5_code 21 = .ok (.iload_n 3, 1) := by decide +kernel
theorem d_98_22 : decode prog_11_method_5_code 22 = .ok (.iload_n 3, 1) := by decide +kernel
theorem d_98_23 : decode prog_11_method_5_code 23 = .ok (.bipush 13, 2) := by decide +kernel
theorem d_98_25 : decode prog_11_method_5_code 25 = .ok (.iushr, 1) := by decide +kernel
theorem d_98_26 : decode prog_11_method_5_code 26 = .ok (.ixor, 1) := by decide +kernel
theorem d_98_27 : decode prog_11_method_5_code 27 = .ok (.ireturn, 1) := by decide +kernel
theorem d_99_0 : decode prog_11_method_6_code 0 = .ok (.iload_n 1, 1) := by decide +kernel
theorem d_99_1 : decode prog_11_method_6_code 1 = .ok (.iconst 0, 1) := by decide +kernel
theorem d_99_2 : decode prog_11_method_6_code 2 = .ok (.iconst 3, 1) := by decide +kernel
theorem d_99_3 : decode prog_11_method_6_code 3 = .ok (.invokestatic 94, 3) := by decide +kernel
theorem d_99_6 : decode prog_11_method_6_code 6 = .ok (.ifCond .eq 43, 3) := by decide +kernel
theorem d_99_9 : decode prog_11_method_6_code 9 = .ok (.aload_n 0, 1) := by decide +kernel
theorem d_99_10 : decode prog_11_method_6_code 10 = .ok (.getfield 17, 3) := by decide +kernel
theorem d_99_13 : decode prog_11_method_6_code 13 = .ok (.iload_n 1, 1) := by decide +kernel
theorem d_99_14 : decode prog_11_method_6_code 14 = .ok (.baload, 1) := by decide +kernel
theorem d_99_15 : decode prog_11_method_6_code 15 = .ok (.ifCond .eq 34, 3) := by decide +kernel
theorem d_99_18 : decode prog_11_method_6_code 18 = .ok (.aload_n 0, 1) := by decide +kernel
theorem d_99_19 : decode prog_11_method_6_code 19 = .ok (.getfield 99, 3) := by decide +kernel
theorem d_99_22 : decode prog_11_method_6_code 22 = .ok (.aload_n 0, 1) := by decide +kernel
theorem d_99_23 : decode prog_11_method_6_code 23 = .ok (.getfield 23, 3) := by decide +kernel
theorem d_99_26 : decode prog_11_method_6_code 26 = .ok (.iload_n 1, 1) := by decide +kernel
theorem d_99_27 : decode prog_11_method_6_code 27 = .ok (.iaload, 1) := by decide +kernel
theorem d_99_28 : decode prog_11_method_6_code 28 = .ok (.isub, 1) := by decide +kernel
theorem d_99_29 : decode prog_11_method_6_code 29 = .ok (.bipush 100, 2) := by decide +kernel
theorem d_99_31 : decode prog_11_method_6_code 31 = .ok (.aload_n 0, 1) := by decide +kernel
theorem d_99_32 : decode prog_11_method_6_code 32 = .ok (.getfield 87, 3) := by decide +kernel
theorem d_99_35 : decode prog_11_method_6_code 35 = .ok (.imul, 1) := by decide +kernel
theorem d_99_36 : decode prog_11_method_6_code 36 = .ok (.if_icmp .ge 13, 3) := by decide +kernel
theorem d_99_39 : decode prog_11_method_6_code 39 = .ok (.iload_n 2, 1) := by decide +kernel
theorem d_99_40 : decode prog_11_method_6_code 40 = .ok (.aload_n 0, 1) := by decide +kernel
theorem d_99_41 : decode prog_11_method_6_code 41 = .ok (.getfield 26, 3) := by decide +kernel
theorem d_99_44 : decode prog_11_method_6_code 44 = .ok (.iload_n 1, 1) := by decide +kernel
theorem d_99_45 : decode prog_11_method_6_code 45 = .ok (.iaload, 1) := by decide +kernel
theorem d_99_46 : decode prog_11_method_6_code 46 = .ok (.if_icmp .gt 5, 3) := by decide +kernel
theorem d_99_49 : decode prog_11_method_6_code 49 = .ok (.iconst 0, 1) := by decide +kernel
theorem d_99_50 : decode prog_11_method_6_code 50 = .ok (.ireturn, 1) := by decide +kernel
theorem d_99_51 : decode prog_11_method_6_code 51 = .ok (.iload_n 3, 1) := by decide +kernel
theorem d_99_52 : decode prog_11_method_6_code 52 = .ok (.aload_n 0, 1) := by decide +kernel
theorem d_99_53 : decode prog_11_method_6_code 53 = .ok (.getfield 7, 3) := by decide +kernel
theorem d_99_56 : decode prog_11_method_6_code 56 = .ok (.iload_n 1, 1) := by decide +kernel
theorem d_99_57 : decode prog_11_method_6_code 57 = .ok (.iaload, 1) := by decide +kernel
theorem d_99_58 : decode prog_11_method_6_code 58 = .ok (.aload_n 0, 1) := by decide +kernel
theorem d_99_59 : decode prog_11_method_6_code 59 = .ok (.getfield 20, 3) := by decide +kernel
theorem d_99_62 : decode prog_11_method_6_code 62 = .ok (.iload_n 1, 1) := by decide +kernel
theorem d_99_63 : decode prog_11_method_6_code 63 = .ok (.iaload, 1) := by decide +kernel
theorem d_99_64 : decode prog_11_method_6_code 64 = .ok (.iload_n 2, 1) := by decide +kernel
theorem d_99_65 : decode prog_11_method_6_code 65 = .ok (.invokestatic 104, 3) := by decide +kernel
theorem d_99_68 : decode prog_11_method_6_code 68 = .ok (.if_icmp .eq 5, 3) := by decide +kernel
theorem d_99_71 : decode prog_11_method_6_code 71 = .ok (.iconst 0, 1) := by decide +kernel
theorem d_99_72 : decode prog_11_method_6_code 72 = .ok (.ireturn, 1) := by decide +kernel
theorem d_99_73 : decode prog_11_method_6_code 73 = .ok (.aload_n 0, 1) := by decide +kernel
theorem d_99_74 : decode prog_11_method_6_code 74 = .ok (.getfield 26, 3) := by decide +kernel
theorem d_99_77 : decode prog_11_method_6_code 77 = .ok (.iload_n 1, 1) := by decide +kernel
theorem d_99_78 : decode prog_11_method_6_code 78 = .ok (.iload_n 2, 1) := by decide +kernel
theorem d_99_79 : decode prog_11_method_6_code 79 = .ok (.iastore, 1) := by decide +kernel
theorem d_99_80 : decode prog_11_method_6_code 80 = .ok (.aload_n 0, 1) := by decide +kernel
theorem d_99_81 : decode prog_11_method_6_code 81 = .ok (.getfield 13, 3) := by decide +kernel
theorem d_99_84 : decode prog_11_method_6_code 84 = .ok (.iload_n 1, 1) := by decide +kernel
theorem d_99_85 : decode prog_11_method_6_code 85 = .ok (.iconst 1, 1) := by decide +kernel
theorem d_99_86 : decode prog_11_method_6_code 86 = .ok (.bastore, 1) := by decide +kernel
theorem d_99_87 : decode prog_11_method_6_code 87 = .ok (.iconst 1, 1) := by decide +kernel
theorem d_99_88 : decode prog_11_method_6_code 88 = .ok (.ireturn, 1) := by decide +kernel
theorem d_100_0 : decode prog_11_method_7_code 0 = .ok (.aload_n 0, 1) := by decide +kernel
theorem d_100_1 : decode prog_11_method_7_code 1 = .ok (.getfield 29, 3) := by decide +kernel
theorem d_100_4 : decode prog_11_method_7_code 4 = .ok (.bipush 16, 2) := by decide +kernel
theorem d_100_6 : decode prog_11_method_7_code 6 = .ok (.iload_n 1, 1) := by decide +kernel
theorem d_100_7 : decode prog_11_method_7_code 7 = .ok (.imul, 1) := by decide +kernel
theorem d_100_8 : decode prog_11_method_7_code 8 = .ok (.iload_n 2, 1) := by decide +kernel
theorem d_100_9 : decode prog_11_method_7_code 9 = .ok (.iadd, 1) := by decide +kernel
theorem d_100_10 : decode prog_11_method_7_code 10 = .ok (.iaload, 1) := by decide +kernel
theorem d_100_11 : decode prog_11_method_7_code 11 = .ok (.aload_n 0, 1) := by decide +kernel
theorem d_100_12 : decode prog_11_method_7_code 12 = .ok (.getfield 99, 3) := by decide +kernel
theorem d_100_15 : decode prog_11_method_7_code 15 = .ok (.if_icmp .le 7, 3) := by decide +kernel
theorem d_100_18 : decode prog_11_method_7_code 18 = .ok (.iconst 1, 1) := by decide +kernel
theorem d_100_19 : decode prog_11_method_7_code 19 = .ok (.goto 4, 3) := by decide +kernel
theorem d_100_22 : decode prog_11_method_7_code 22 = .ok (.iconst 0, 1) := by decide +kernel
theorem d_100_23 : decode prog_11_method_7_code 23 = .ok (.ireturn, 1) := by decide +kernel
theorem d_101_0 : decode prog_11_method_8_code 0 = .ok (.bipush 16, 2) := by decide +kernel
theorem d_101_2 : decode prog_11_method_8_code 2 = .ok (.iload_n 1, 1) := by decide +kernel
theorem d_101_3 : decode prog_11_method_8_code 3 = .ok (.imul, 1) := by decide +kernel
theorem d_101_4 : decode prog_11_method_8_code 4 = .ok (.iload_n 2, 1) := by decide +kernel
theorem d_101_5 : decode prog_11_method_8_code 5 = .ok (.iadd, 1) := by decide +kernel
theorem d_101_6 : decode prog_11_method_8_code 6 = .ok (.istore 4, 2) := by decide +kernel
theorem d_101_8 : decode prog_11_method_8_code 8 = .ok (.aload_n 0, 1) := by decide +kernel
theorem d_101_9 : decode prog_11_method_8_code 9 = .ok (.iload_n 1, 1) := by decide +kernel
theorem d_101_10 : decode prog_11_method_8_code 10 = .ok (.iload_n 2, 1) := by decide +kernel
theorem d_101_11 : decode prog_11_method_8_code 11 = .ok (.invokevirtual 108, 3) := by decide +kernel
theorem d_101_14 : decode prog_11_method_8_code 14 = .ok (.ifCond .eq 43, 3) := by decide +kernel
theorem d_101_17 : decode prog_11_method_8_code 17 = .ok (.aload_n 0, 1) := by decide +kernel
theorem d_101_18 : decode prog_11_method_8_code 18 = .ok (.getfield 38, 3) := by decide +kernel
theorem d_101_21 : decode prog_11_method_8_code 21 = .ok (.iload 4, 2) := by decide +kernel
theorem d_101_23 : decode prog_11_method_8_code 23 = .ok (.iaload, 1) := by decide +kernel
theorem d_101_24 : decode prog_11_method_8_code 24 = .ok (.bipush 8, 2) := by decide +kernel
theorem d_101_26 : decode prog_11_method_8_code 26 = .ok (.ishr, 1) := by decide +kernel
theorem d_101_27 : decode prog_11_method_8_code 27 = .ok (.iload_n 3, 1) := by decide +kernel
theorem d_101_28 : decode prog_11_method_8_code 28 = .ok (.bipush 8, 2) := by decide +kernel
theorem d_101_30 : decode prog_11_method_8_code 30 = .ok (.ishr, 1) := by decide +kernel
theorem d_101_31 : decode prog_11_method_8_code 31 = .ok (.if_icmp .ne 26, 3) := by decide +kernel
theorem d_101_34 : decode prog_11_method_8_code 34 = .ok (.aload_n 0, 1) := by decide +kernel
theorem d_101_35 : decode prog_11_method_8_code 35 = .ok (.getfield 38, 3) := by decide +kernel
theorem d_101_38 : decode prog_11_method_8_code 38 = .ok (.iload 4, 2) := by decide +kernel
theorem d_101_40 : decode prog_11_method_8_code 40 = .ok (.iaload, 1) := by decide +kernel
theorem d_101_41 : decode prog_11_method_8_code 41 = .ok (.sipush 255, 3) := by decide +kernel
theorem d_101_44 : decode prog_11_method_8_code 44 = .ok (.iand, 1) := by decide +kernel
theorem d_101_45 : decode prog_11_method_8_code 45 = .ok (.iload_n 3, 1) := by decide +kernel
theorem d_101_46 : decode prog_11_method_8_code 46 = .ok (.sipush 255, 3) := by decide +kernel
theorem d_101_49 : decode prog_11_method_8_code 49 = .ok (.iand, 1) := by decide +kernel
theorem d_101_50 : decode prog_11_method_8_code 50 = .ok (.if_icmp .lt 7, 3) := by decide +kernel
theorem d_101_53 : decode prog_11_method_8_code 53 = .ok (.iconst 1, 1) := by decide +kernel
theorem d_101_54 : decode prog_11_method_8_code 54 = .ok (.goto 4, 3) := by decide +kernel
theorem d_101_57 : decode prog_11_method_8_code 57 = .ok (.iconst 0, 1) := by decide +kernel
theorem d_101_58 : decode prog_11_method_8_code 58 = .ok (.ireturn, 1) := by decide +kernel
