theorem d_113_0 : decode prog_11_method_20_code 0 = .ok (.iconst 4, 1) := by decide +kernel
theorem d_113_1 : decode prog_11_method_20_code 1 = .ok (.iload_n 1, 1) := by decide +kernel
theorem d_113_2 : decode prog_11_method_20_code 2 = .ok (.imul, 1) := by decide +kernel
theorem d_113_3 : decode prog_11_method_20_code 3 = .ok (.iload_n 2, 1) := by decide +kernel
theorem d_113_4 : decode prog_11_method_20_code 4 = .ok (.iadd, 1) := by decide +kernel
theorem d_113_5 : decode prog_11_method_20_code 5 = .ok (.istore 4, 2) := by decide +kernel
theorem d_113_7 : decode prog_11_method_20_code 7 = .ok (.aload_n 0, 1) := by decide +kernel
theorem d_113_8 : decode prog_11_method_20_code 8 = .ok (.getfield 56, 3) := by decide +kernel
theorem d_113_11 : decode prog_11_method_20_code 11 = .ok (.iload 4, 2) := by decide +kernel
theorem d_113_13 : decode prog_11_method_20_code 13 = .ok (.iconst 1, 1) := by decide +kernel
theorem d_113_14 : decode prog_11_method_20_code 14 = .ok (.iastore, 1) := by decide +kernel
theorem d_113_15 : decode prog_11_method_20_code 15 = .ok (.aload_n 0, 1) := by decide +kernel
theorem d_113_16 : decode prog_11_method_20_code 16 = .ok (.getfield 59, 3) := by decide +kernel
theorem d_113_19 : decode prog_11_method_20_code 19 = .ok (.iload 4, 2) := by decide +kernel
theorem d_113_21 : decode prog_11_method_20_code 21 = .ok (.iload_n 3, 1) := by decide +kernel
theorem d_113_22 : decode prog_11_method_20_code 22 = .ok (.iastore, 1) := by decide +kernel
theorem d_113_23 : decode prog_11_method_20_code 23 = .ok (.aload_n 0, 1) := by decide +kernel
theorem d_113_24 : decode prog_11_method_20_code 24 = .ok (.getfield 62, 3) := by decide +kernel
theorem d_113_27 : decode prog_11_method_20_code 27 = .ok (.iload 4, 2) := by decide +kernel
theorem d_113_29 : decode prog_11_method_20_code 29 = .ok (.iconst 0, 1) := by decide +kernel
theorem d_113_30 : decode prog_11_method_20_code 30 = .ok (.bastore, 1) := by decide +kernel
theorem d_113_31 : decode prog_11_method_20_code 31 = .ok (.aload_n 0, 1) := by decide +kernel
theorem d_113_32 : decode prog_11_method_20_code 32 = .ok (.getfield 65, 3) := by decide +kernel
theorem d_113_35 : decode prog_11_method_20_code 35 = .ok (.iload 4, 2) := by decide +kernel
theorem d_113_37 : decode prog_11_method_20_code 37 = .ok (.iconst 0, 1) := by decide +kernel
theorem d_113_38 : decode prog_11_method_20_code 38 = .ok (.bastore, 1) := by decide +kernel
theorem d_113_39 : decode prog_11_method_20_code 39 = .ok (.aload_n 0, 1) := by decide +kernel
theorem d_113_40 : decode prog_11_method_20_code 40 = .ok (.getfield 68, 3) := by decide +kernel
theorem d_113_43 : decode prog_11_method_20_code 43 = .ok (.iload 4, 2) := by decide +kernel
theorem d_113_45 : decode prog_11_method_20_code 45 = .ok (.iconst 0, 1) := by decide +kernel
theorem d_113_46 : decode prog_11_method_20_code 46 = .ok (.iastore, 1) := by decide +kernel
theorem d_113_47 : decode prog_11_method_20_code 47 = .ok (.iconst 0, 1) := by decide +kernel
theorem d_113_48 : decode prog_11_method_20_code 48 = .ok (.istore 5, 2) := by decide +kernel
theorem d_113_50 : decode prog_11_method_20_code 50 = .ok (.iload 5, 2) := by decide +kernel
theorem d_113_52 : decode prog_11_method_20_code 52 = .ok (.bipush 6, 2) := by decide +kernel
theorem d_113_54 : decode prog_11_method_20_code 54 = .ok (.if_icmp .ge 23, 3) := by decide +kernel
theorem d_113_57 : decode prog_11_method_20_code 57 = .ok (.aload_n 0, 1) := by decide +kernel
theorem d_113_58 : decode prog_11_method_20_code 58 = .ok (.getfield 74, 3) := by decide +kernel
theorem d_113_61 : decode prog_11_method_20_code 61 = .ok (.bipush 6, 2) := by decide +kernel
theorem d_113_63 : decode prog_11_method_20_code 63 = .ok (.iload 4, 2) := by decide +kernel
theorem d_113_65 : decode prog_11_method_20_code 65 = .ok (.imul, 1) := by decide +kernel
theorem d_113_66 : decode prog_11_method_20_code 66 = .ok (.iload 5, 2) := by decide +kernel
theorem d_113_68 : decode prog_11_method_20_code 68 = .ok (.iadd, 1) := by decide +kernel
theorem d_113_69 : decode prog_11_method_20_code 69 = .ok (.iconst 0, 1) := by decide +kernel
theorem d_113_70 : decode prog_11_method_20_code 70 = .ok (.iastore, 1) := by decide +kernel
theorem d_113_71 : decode prog_11_method_20_code 71 = .ok (.iinc 5 1, 3) := by decide +kernel
theorem d_113_74 : decode prog_11_method_20_code 74 = .ok (.goto (-24), 3) := by decide +kernel
theorem d_113_77 : decode prog_11_method_20_code 77 = .ok (.aload_n 0, 1) := by decide +kernel
theorem d_113_78 : decode prog_11_method_20_code 78 = .ok (.iload_n 1, 1) := by decide +kernel
theorem d_113_79 : decode prog_11_method_20_code 79 = .ok (.iload_n 2, 1) := by decide +kernel
theorem d_113_80 : decode prog_11_method_20_code 80 = .ok (.iconst 1, 1) := by decide +kernel
theorem d_113_81 : decode prog_11_method_20_code 81 = .ok (.invokevirtual 138, 3) := by decide +kernel
theorem d_113_84 : decode prog_11_method_20_code 84 = .ok (.aload_n 0, 1) := by decide +kernel
theorem d_113_85 : decode prog_11_method_20_code 85 = .ok (.getfield 74, 3) := by decide +kernel
theorem d_113_88 : decode prog_11_method_20_code 88 = .ok (.bipush 6, 2) := by decide +kernel
theorem d_113_90 : decode prog_11_method_20_code 90 = .ok (.iload 4, 2) := by decide +kernel
theorem d_113_92 : decode prog_11_method_20_code 92 = .ok (.imul, 1) := by decide +kernel
theorem d_113_93 : decode prog_11_method_20_code 93 = .ok (.aload_n 0, 1) := by decide +kernel
theorem d_113_94 : decode prog_11_method_20_code 94 = .ok (.getfield 99, 3) := by decide +kernel
theorem d_113_97 : decode prog_11_method_20_code 97 = .ok (.aload_n 0, 1) := by decide +kernel
theorem d_113_98 : decode prog_11_method_20_code 98 = .ok (.getfield 87, 3) := by decide +kernel
theorem d_113_101 : decode prog_11_method_20_code 101 = .ok (.iadd, 1) := by decide +kernel
theorem d_113_102 : decode prog_11_method_20_code 102 = .ok (.iastore, 1) := by decide +kernel
theorem d_113_103 : decode prog_11_method_20_code 103 = .ok (.aload_n 0, 1) := by decide +kernel
theorem d_113_104 : decode prog_11_method_20_code 104 = .ok (.getfield 74, 3) := by decide +kernel
theorem d_113_107 : decode prog_11_method_20_code 107 = .ok (.bipush 6, 2) := by decide +kernel
theorem d_113_109 : decode prog_11_method_20_code 109 = .ok (.iload 4, 2) := by decide +kernel
theorem d_113_111 : decode prog_11_method_20_code 111 = .ok (.imul, 1) := by decide +kernel
theorem d_113_112 : decode prog_11_method_20_code 112 = .ok (.iconst 1, 1) := by decide +kernel
theorem d_113_113 : decode prog_11_method_20_code 113 = .ok (.iadd, 1) := by decide +kernel
theorem d_113_114 : decode prog_11_method_20_code 114 = .ok (.aload_n 0, 1) := by decide +kernel
theorem d_113_115 : decode prog_11_method_20_code 115 = .ok (.getfield 99, 3) := by decide +kernel
theorem d_113_118 : decode prog_11_method_20_code 118 = .ok (.bipush 64, 2) := by decide +kernel
theorem d_113_120 : decode prog_11_method_20_code 120 = .ok (.aload_n 0, 1) := by decide +kernel
theorem d_113_121 : decode prog_11_method_20_code 121 = .ok (.getfield 87, 3) := by decide +kernel
theorem d_113_124 : decode prog_11_method_20_code 124 = .ok (.imul, 1) := by decide +kernel
theorem d_113_125 : decode prog_11_method_20_code 125 = .ok (.iadd, 1) := by decide +kernel
theorem d_113_126 : decode prog_11_method_20_code 126 = .ok (.iastore, 1) := by decide +kernel
theorem d_113_127 : decode prog_11_method_20_code 127 = .ok (.aload_n 0, 1) := by decide +kernel
theorem d_113_128 : decode prog_11_method_20_code 128 = .ok (.getfield 74, 3) := by decide +kernel
theorem d_113_131 : decode prog_11_method_20_code 131 = .ok (.bipush 6, 2) := by decide +kernel
theorem d_113_133 : decode prog_11_method_20_code 133 = .ok (.iload 4, 2) := by decide +kernel
theorem d_113_135 : decode prog_11_method_20_code 135 = .ok (.imul, 1) := by decide +kernel
theorem d_113_136 : decode prog_11_method_20_code 136 = .ok (.iconst 2, 1) := by decide +kernel
theorem d_113_137 : decode prog_11_method_20_code 137 = .ok (.iadd, 1) := by decide +kernel
theorem d_113_138 : decode prog_11_method_20_code 138 = .ok (.aload_n 0, 1) := by decide +kernel
theorem d_113_139 : decode prog_11_method_20_code 139 = .ok (.getfield 99, 3) := by decide +kernel
theorem d_113_142 : decode prog_11_method_20_code 142 = .ok (.sipush 200, 3) := by decide +kernel
theorem d_113_145 : decode prog_11_method_20_code 145 = .ok (.aload_n 0, 1) := by decide +kernel
theorem d_113_146 : decode prog_11_method_20_code 146 = .ok (.getfield 87, 3) := by decide +kernel
theorem d_113_149 : decode prog_11_method_20_code 149 = .ok (.imul, 1) := by decide +kernel
theorem d_113_150 : decode prog_11_method_20_code 150 = .ok (.iadd, 1) := by decide +kernel
theorem d_113_151 : decode prog_11_method_20_code 151 = .ok (.iastore, 1) := by decide +kernel
theorem d_113_152 : decode prog_11_method_20_code 152 = .ok (.aload_n 0, 1) := by decide +kernel
theorem d_113_153 : decode prog_11_method_20_code 153 = .ok (.getfield 77, 3) := by decide +kernel
theorem d_113_156 : decode prog_11_method_20_code 156 = .ok (.iload 4, 2) := by decide +kernel
theorem d_113_158 : decode prog_11_method_20_code 158 = .ok (.aload_n 0, 1) := by decide +kernel
theorem d_113_159 : decode prog_11_method_20_code 159 = .ok (.getfield 87, 3) := by decide +kernel
theorem d_113_162 : decode prog_11_method_20_code 162 = .ok (.iastore, 1) := by decide +kernel
theorem d_113_163 : decode prog_11_method_20_code 163 = .ok (.return_, 1) := by decide +kernel
theorem d_114_0 : decode prog_11_method_21_code 0 = .ok (.aload_n 0, 1) := by decide +kernel
theorem d_114_1 : decode prog_11_method_21_code 1 = .ok (.getfield 56, 3) := by decide +kernel
theorem d_114_4 : decode prog_11_method_21_code 4 = .ok (.iload_n 1, 1) := by decide +kernel
theorem d_114_5 : decode prog_11_method_21_code 5 = .ok (.iload_n 2, 1) := by decide +kernel
theorem d_114_6 : decode prog_11_method_21_code 6 = .ok (.iastore, 1) := by decide +kernel
theorem d_114_7 : decode prog_11_method_21_code 7 = .ok (.iconst 0, 1) := by decide +kernel
theorem d_114_8 : decode prog_11_method_21_code 8 = .ok (.istore_n 3, 1) := by decide +kernel
theorem d_114_9 : decode prog_11_method_21_code 9 = .ok (.iload_n 3, 1) := by decide +kernel
theorem d_114_10 : decode prog_11_method_21_code 10 = .ok (.bipush 6, 2) := by decide +kernel
theorem d_114_12 : decode prog_11_method_21_code 12 = .ok (.if_icmp .ge 48, 3) := by decide +kernel
theorem d_114_15 : decode prog_11_method_21_code 15 = .ok (.iload_n 3, 1) := by decide +kernel
theorem d_114_16 : decode prog_11_method_21_code 16 = .ok (.iconst 2, 1) := by decide +kernel
theorem d_114_17 : decode prog_11_method_21_code 17 = .ok (.if_icmp .lt 13, 3) := by decide +kernel
theorem d_114_20 : decode prog_11_method_21_code 20 = .ok (.iload_n 2, 1) := by decide +kernel
theorem d_114_21 : decode prog_11_method_21_code 21 = .ok (.iconst 2, 1) := by decide +kernel
theorem d_114_22 : decode prog_11_method_21_code 22 = .ok (.if_icmp .le 12, 3) := by decide +kernel
theorem d_114_25 : decode prog_11_method_21_code 25 = .ok (.iload_n 3, 1) := by decide +kernel
theorem d_114_26 : decode prog_11_method_21_code 26 = .ok (.iconst 3, 1) := by decide +kernel
theorem d_114_27 : decode prog_11_method_21_code 27 = .ok (.if_icmp .eq 7, 3) := by decide +kernel
theorem d_114_30 : decode prog_11_method_21_code 30 = .ok (.iconst 1, 1) := by decide +kernel
theorem d_114_31 : decode prog_11_method_21_code 31 = .ok (.goto 4, 3) := by decide +kernel
theorem d_114_34 : decode prog_11_method_21_code 34 = .ok (.iconst 0, 1) := by decide +kernel
theorem d_114_35 : decode prog_11_method_21_code 35 = .ok (.istore 4, 2) := by decide +kernel
theorem d_114_37 : decode prog_11_method_21_code 37 = .ok (.iload 4, 2) := by decide +kernel
theorem d_114_39 : decode prog_11_method_21_code 39 = .ok (.ifCond .eq 15, 3) := by decide +kernel
theorem d_114_42 : decode prog_11_method_21_code 42 = .ok (.aload_n 0, 1) := by decide +kernel
theorem d_114_43 : decode prog_11_method_21_code 43 = .ok (.getfield 74, 3) := by decide +kernel
theorem d_114_46 : decode prog_11_method_21_code 46 = .ok (.bipush 6, 2) := by decide +kernel
theorem d_114_48 : decode prog_11_method_21_code 48 = .ok (.iload_n 1, 1) := by decide +kernel
theorem d_114_49 : decode prog_11_method_21_code 49 = .ok (.imul, 1) := by decide +kernel
theorem d_114_50 : decode prog_11_method_21_code 50 = .ok (.iload_n 3, 1) := by decide +kernel
theorem d_114_51 : decode prog_11_method_21_code 51 = .ok (.iadd, 1) := by decide +kernel
theorem d_114_52 : decode prog_11_method_21_code 52 = .ok (.iconst 0, 1) := by decide +kernel
theorem d_114_53 : decode prog_11_method_21_code 53 = .ok (.iastore, 1) := by decide +kernel
theorem d_114_54 : decode prog_11_method_21_code 54 = .ok (.iinc 3 1, 3) := by decide +kernel
theorem d_114_57 : decode prog_11_method_21_code 57 = .ok (.goto (-48), 3) := by decide +kernel
theorem d_114_60 : decode prog_11_method_21_code 60 = .ok (.return_, 1) := by decide +kernel
theorem d_115_0 : decode prog_11_method_22_code 0 = .ok (.aload_n 0, 1) := by decide +kernel
theorem d_115_1 : decode prog_11_method_22_code 1 = .ok (.getfield 56, 3) := by decide +kernel
theorem d_115_4 : decode prog_11_method_22_code 4 = .ok (.iload_n 1, 1) := by decide +kernel
theorem d_115_5 : decode prog_11_method_22_code 5 = .ok (.iaload, 1) := by decide +kernel
theorem d_115_6 : decode prog_11_method_22_code 6 = .ok (.iconst 1, 1) := by decide +kernel
theorem d_115_7 : decode prog_11_method_22_code 7 = .ok (.if_icmp .eq 13, 3) := by decide +kernel
theorem d_115_10 : decode prog_11_method_22_code 10 = .ok (.aload_n 0, 1) := by decide +kernel
theorem d_115_11 : decode prog_11_method_22_code 11 = .ok (.getfield 56, 3) := by decide +kernel
theorem d_115_14 : decode prog_11_method_22_code 14 = .ok (.iload_n 1, 1) := by decide +kernel
theorem d_115_15 : decode prog_11_method_22_code 15 = .ok (.iaload, 1) := by decide +kernel
theorem d_115_16 : decode prog_11_method_22_code 16 = .ok (.iconst 2, 1) := by decide +kernel
theorem d_115_17 : decode prog_11_method_22_code 17 = .ok (.if_icmp .ne 7, 3) := by decide +kernel
theorem d_115_20 : decode prog_11_method_22_code 20 = .ok (.iconst 1, 1) := by decide +kernel
theorem d_115_21 : decode prog_11_method_22_code 21 = .ok (.goto 4, 3) := by decide +kernel
theorem d_115_24 : decode prog_11_method_22_code 24 = .ok (.iconst 0, 1) := by decide +kernel
theorem d_115_25 : decode prog_11_method_22_code 25 = .ok (.ireturn, 1) := by decide +kernel
theorem d_116_0 : decode prog_11_method_23_code 0 = .ok (.iconst 4, 1) := by decide +kernel
theorem d_116_1 : decode prog_11_method_23_code 1 = .ok (.iload_n 1, 1) := by decide +kernel
theorem d_116_2 : decode prog_11_method_23_code 2 = .ok (.imul, 1) := by decide +kernel
theorem d_116_3 : decode prog_11_method_23_code 3 = .ok (.iload_n 2, 1) := by decide +kernel
theorem d_116_4 : decode prog_11_method_23_code 4 = .ok (.iadd, 1) := by decide +kernel
theorem d_116_5 : decode prog_11_method_23_code 5 = .ok (.istore_n 3, 1) := by decide +kernel
theorem d_116_6 : decode prog_11_method_23_code 6 = .ok (.aload_n 0, 1) := by decide +kernel
theorem d_116_7 : decode prog_11_method_23_code 7 = .ok (.iload_n 3, 1) := by decide +kernel
theorem d_116_8 : decode prog_11_method_23_code 8 = .ok (.invokevirtual 153, 3) := by decide +kernel
theorem d_116_11 : decode prog_11_method_23_code 11 = .ok (.ifCond .ne 4, 3) := by decide +kernel
theorem d_116_14 : decode prog_11_method_23_code 14 = .ok (.return_, 1) := by decide +kernel
theorem d_116_15 : decode prog_11_method_23_code 15 = .ok (.aload_n 0, 1) := by decide +kernel
theorem d_116_16 : decode prog_11_method_23_code 16 = .ok (.getfield 62, 3) := by decide +kernel
theorem d_116_19 : decode prog_11_method_23_code 19 = .ok (.iload_n 3, 1) := by decide +kernel
theorem d_116_20 : decode prog_11_method_23_code 20 = .ok (.iconst 1, 1) := by decide +kernel
theorem d_116_21 : decode prog_11_method_23_code 21 = .ok (.bastore, 1) := by decide +kernel
theorem d_116_22 : decode prog_11_method_23_code 22 = .ok (.aload_n 0, 1) := by decide +kernel
theorem d_116_23 : decode prog_11_method_23_code 23 = .ok (.getfield 56, 3) := by decide +kernel
theorem d_116_26 : decode prog_11_method_23_code 26 = .ok (.iload_n 3, 1) := by decide +kernel
theorem d_116_27 : decode prog_11_method_23_code 27 = .ok (.iaload, 1) := by decide +kernel
theorem d_116_28 : decode prog_11_method_23_code 28 = .ok (.iconst 2, 1) := by decide +kernel
theorem d_116_29 : decode prog_11_method_23_code 29 = .ok (.if_icmp .ne 12, 3) := by decide +kernel
theorem d_116_32 : decode prog_11_method_23_code 32 = .ok (.aload_n 0, 1) := by decide +kernel
theorem d_116_33 : decode prog_11_method_23_code 33 = .ok (.getfield 65, 3) := by decide +kernel
theorem d_116_36 : decode prog_11_method_23_code 36 = .ok (.iload_n 3, 1) := by decide +kernel
theorem d_116_37 : decode prog_11_method_23_code 37 = .ok (.baload, 1) := by decide +kernel
theorem d_116_38 : decode prog_11_method_23_code 38 = .ok (.ifCond .eq 4, 3) := by decide +kernel
theorem d_116_41 : decode prog_11_method_23_code 41 = .ok (.return_, 1) := by decide +kernel
theorem d_116_42 : decode prog_11_method_23_code 42 = .ok (.aload_n 0, 1) := by decide +kernel
theorem d_116_43 : decode prog_11_method_23_code 43 = .ok (.getfield 65, 3) := by decide +kernel
theorem d_116_46 : decode prog_11_method_23_code 46 = .ok (.iload_n 3, 1) := by decide +kernel
theorem d_116_47 : decode prog_11_method_23_code 47 = .ok (.iconst 1, 1) := by decide +kernel
theorem d_116_48 : decode prog_11_method_23_code 48 = .ok (.bastore, 1) := by decide +kernel
theorem d_116_49 : decode prog_11_method_23_code 49 = .ok (.aload_n 0, 1) := by decide +kernel
theorem d_116_50 : decode prog_11_method_23_code 50 = .ok (.iload_n 1, 1) := by decide +kernel
theorem d_116_51 : decode prog_11_method_23_code 51 = .ok (.iload_n 2, 1) := by decide +kernel
theorem d_116_52 : decode prog_11_method_23_code 52 = .ok (.iconst 2, 1) := by decide +kernel
theorem d_116_53 : decode prog_11_method_23_code 53 = .ok (.invokevirtual 138, 3) := by decide +kernel
theorem d_116_56 : decode prog_11_method_23_code 56 = .ok (.aload_n 0, 1) := by decide +kernel
theorem d_116_57 : decode prog_11_method_23_code 57 = .ok (.getfield 74, 3) := by decide +kernel
theorem d_116_60 : decode prog_11_method_23_code 60 = .ok (.bipush 6, 2) := by decide +kernel
theorem d_116_62 : decode prog_11_method_23_code 62 = .ok (.iload_n 3, 1) := by decide +kernel
theorem d_116_63 : decode prog_11_method_23_code 63 = .ok (.imul, 1) := by decide +kernel
theorem d_116_64 : decode prog_11_method_23_code 64 = .ok (.iconst 2, 1) := by decide +kernel
theorem d_116_65 : decode prog_11_method_23_code 65 = .ok (.iadd, 1) := by decide +kernel
theorem d_116_66 : decode prog_11_method_23_code 66 = .ok (.iconst 0, 1) := by decide +kernel
theorem d_116_67 : decode prog_11_method_23_code 67 = .ok (.iastore, 1) := by decide +kernel
theorem d_116_68 : decode prog_11_method_23_code 68 = .ok (.aload_n 0, 1) := by decide +kernel
theorem d_116_69 : decode prog_11_method_23_code 69 = .ok (.getfield 74, 3) := by decide +kernel
theorem d_116_72 : decode prog_11_method_23_code 72 = .ok (.bipush 6, 2) := by decide +kernel
theorem d_116_74 : decode prog_11_method_23_code 74 = .ok (.iload_n 3, 1) := by decide +kernel
theorem d_116_75 : decode prog_11_method_23_code 75 = .ok (.imul, 1) := by decide +kernel
theorem d_116_76 : decode prog_11_method_23_code 76 = .ok (.iconst 4, 1) := by decide +kernel
theorem d_116_77 : decode prog_11_method_23_code 77 = .ok (.iadd, 1) := by decide +kernel
theorem d_116_78 : decode prog_11_method_23_code 78 = .ok (.aload_n 0, 1) := by decide +kernel
theorem d_116_79 : decode prog_11_method_23_code 79 = .ok (.getfield 99, 3) := by decide +kernel
theorem d_116_82 : decode prog_11_method_23_code 82 = .ok (.aload_n 0, 1) := by decide +kernel
theorem d_116_83 : decode prog_11_method_23_code 83 = .ok (.getfield 87, 3) := by decide +kernel
theorem d_116_86 : decode prog_11_method_23_code 86 = .ok (.iadd, 1) := by decide +kernel
theorem d_116_87 : decode prog_11_method_23_code 87 = .ok (.iastore, 1) := by decide +kernel
theorem d_116_88 : decode prog_11_method_23_code 88 = .ok (.aload_n 0, 1) := by decide +kernel
theorem d_116_89 : decode prog_11_method_23_code 89 = .ok (.getfield 74, 3) := by decide +kernel
theorem d_116_92 : decode prog_11_method_23_code 92 = .ok (.bipush 6, 2) := by decide +kernel
theorem d_116_94 : decode prog_11_method_23_code 94 = .ok (.iload_n 3, 1) := by decide +kernel
theorem d_116_95 : decode prog_11_method_23_code 95 = .ok (.imul, 1) := by decide +kernel
theorem d_116_96 : decode prog_11_method_23_code 96 = .ok (.iconst 5, 1) := by decide +kernel
theorem d_116_97 : decode prog_11_method_23_code 97 = .ok (.iadd, 1) := by decide +kernel
theorem d_116_98 : decode prog_11_method_23_code 98 = .ok (.aload_n 0, 1) := by decide +kernel
theorem d_116_99 : decode prog_11_method_23_code 99 = .ok (.getfield 99, 3) := by decide +kernel
theorem d_116_102 : decode prog_11_method_23_code 102 = .ok (.bipush 64, 2) := by decide +kernel
theorem d_116_104 : decode prog_11_method_23_code 104 = .ok (.aload_n 0, 1) := by decide +kernel
theorem d_116_105 : decode prog_11_method_23_code 105 = .ok (.getfield 87, 3) := by decide +kernel
theorem d_116_108 : decode prog_11_method_23_code 108 = .ok (.imul, 1) := by decide +kernel
theorem d_116_109 : decode prog_11_method_23_code 109 = .ok (.iadd, 1) := by decide +kernel
theorem d_116_110 : decode prog_11_method_23_code 110 = .ok (.iastore, 1) := by decide +kernel
theorem d_116_111 : decode prog_11_method_23_code 111 = .ok (.aload_n 0, 1) := by decide +kernel
theorem d_116_112 : decode prog_11_method_23_code 112 = .ok (.getfield 80, 3) := by decide +kernel
theorem d_116_115 : decode prog_11_method_23_code 115 = .ok (.iload_n 3, 1) := by decide +kernel
theorem d_116_116 : decode prog_11_method_23_code 116 = .ok (.aload_n 0, 1) := by decide +kernel
theorem d_116_117 : decode prog_11_method_23_code 117 = .ok (.getfield 87, 3) := by decide +kernel
theorem d_116_120 : decode prog_11_method_23_code 120 = .ok (.iastore, 1) := by decide +kernel
theorem d_116_121 : decode prog_11_method_23_code 121 = .ok (.return_, 1) := by decide +kernel
theorem d_117_0 : decode prog_11_method_24_code 0 = .ok (.iconst 0, 1) := by decide +kernel
theorem d_117_1 : decode prog_11_method_24_code 1 = .ok (.istore_n 3, 1) := by decide +kernel
theorem d_117_2 : decode prog_11_method_24_code 2 = .ok (.iload_n 3, 1) := by decide +kernel
theorem d_117_3 : decode prog_11_method_24_code 3 = .ok (.aload_n 0, 1) := by decide +kernel
theorem d_117_4 : decode prog_11_method_24_code 4 = .ok (.getfield 53, 3) := by decide +kernel
theorem d_117_7 : decode prog_11_method_24_code 7 = .ok (.iload_n 1, 1) := by decide +kernel
theorem d_117_8 : decode prog_11_method_24_code 8 = .ok (.iaload, 1) := by decide +kernel
theorem d_117_9 : decode prog_11_method_24_code 9 = .ok (.if_icmp .ge 20, 3) := by decide +kernel
theorem d_117_12 : decode prog_11_method_24_code 12 = .ok (.iload_n 3, 1) := by decide +kernel
theorem d_117_13 : decode prog_11_method_24_code 13 = .ok (.iload_n 2, 1) := by decide +kernel
theorem d_117_14 : decode prog_11_method_24_code 14 = .ok (.if_icmp .eq 9, 3) := by decide +kernel
theorem d_117_17 : decode prog_11_method_24_code 17 = .ok (.aload_n 0, 1) := by decide +kernel
theorem d_117_18 : decode prog_11_method_24_code 18 = .ok (.iload_n 1, 1) := by decide +kernel
theorem d_117_19 : decode prog_11_method_24_code 19 = .ok (.iload_n 3, 1) := by decide +kernel
theorem d_117_20 : decode prog_11_method_24_code 20 = .ok (.invokevirtual 156, 3) := by decide +kernel
theorem d_117_23 : decode prog_11_method_24_code 23 = .ok (.iinc 3 1, 3) := by decide +kernel
theorem d_117_26 : decode prog_11_method_24_code 26 = .ok (.goto (-24), 3) := by decide +kernel
theorem d_117_29 : decode prog_11_method_24_code 29 = .ok (.return_, 1) := by decide +kernel
theorem d_118_0 : decode prog_11_method_25_code 0 = .ok (.aload_n 0, 1) := by decide +kernel
theorem d_118_1 : decode prog_11_method_25_code 1 = .ok (.getfield 68, 3) := by decide +kernel
theorem d_118_4 : decode prog_11_method_25_code 4 = .ok (.iload_n 1, 1) := by decide +kernel
theorem d_118_5 : decode prog_11_method_25_code 5 = .ok (.iload_n 2, 1) := by decide +kernel
theorem d_118_6 : decode prog_11_method_25_code 6 = .ok (.iastore, 1) := by decide +kernel
theorem d_118_7 : decode prog_11_method_25_code 7 = .ok (.aload_n 0, 1) := by decide +kernel
theorem d_118_8 : decode prog_11_method_25_code 8 = .ok (.getfield 71, 3) := by decide +kernel
theorem d_118_11 : decode prog_11_method_25_code 11 = .ok (.iload_n 1, 1) := by decide +kernel
theorem d_118_12 : decode prog_11_method_25_code 12 = .ok (.aload_n 0, 1) := by decide +kernel
theorem d_118_13 : decode prog_11_method_25_code 13 = .ok (.getfield 159, 3) := by decide +kernel
theorem d_118_16 : decode prog_11_method_25_code 16 = .ok (.iastore, 1) := by decide +kernel
theorem d_118_17 : decode prog_11_method_25_code 17 = .ok (.aload_n 0, 1) := by decide +kernel
theorem d_118_18 : decode prog_11_method_25_code 18 = .ok (.dup, 1) := by decide +kernel
theorem d_118_19 : decode prog_11_method_25_code 19 = .ok (.getfield 159, 3) := by decide +kernel
theorem d_118_22 : decode prog_11_method_25_code 22 = .ok (.iconst 1, 1) := by decide +kernel
theorem d_118_23 : decode prog_11_method_25_code 23 = .ok (.iadd, 1) := by decide +kernel
theorem d_118_24 : decode prog_11_method_25_code 24 = .ok (.putfield 159, 3) := by decide +kernel
theorem d_118_27 : decode prog_11_method_25_code 27 = .ok (.return_, 1) := by decide +kernel
theorem d_119_0 : decode prog_11_method_26_code 0 = .ok (.iload_n 0, 1) := by decide +kernel
theorem d_119_1 : decode prog_11_method_26_code 1 = .ok (.sipush 600, 3) := by decide +kernel
theorem d_119_4 : decode prog_11_method_26_code 4 = .ok (.if_icmp .lt 5, 3) := by decide +kernel
theorem d_119_7 : decode prog_11_method_26_code 7 = .ok (.iconst 0, 1) := by decide +kernel
theorem d_119_8 : decode prog_11_method_26_code 8 = .ok (.ireturn, 1) := by decide +kernel
theorem d_119_9 : decode prog_11_method_26_code 9 = .ok (.iload_n 0, 1) := by decide +kernel
theorem d_119_10 : decode prog_11_method_26_code 10 = .ok (.sipush 401, 3) := by decide +kernel
theorem d_119_13 : decode prog_11_method_26_code 13 = .ok (.if_icmp .eq 31, 3) := by decide +kernel
theorem d_119_16 : decode prog_11_method_26_code 16 = .ok (.iload_n 0, 1) := by decide +kernel
theorem d_119_17 : decode prog_11_method_26_code 17 = .ok (.sipush 407, 3) := by decide +kernel
theorem d_119_20 : decode prog_11_method_26_code 20 = .ok (.if_icmp .eq 24, 3) := by decide +kernel
theorem d_119_23 : decode prog_11_method_26_code 23 = .ok (.iload_n 0, 1) := by decide +kernel
theorem d_119_24 : decode prog_11_method_26_code 24 = .ok (.sipush 415, 3) := by decide +kernel
theorem d_119_27 : decode prog_11_method_26_code 27 = .ok (.if_icmp .eq 17, 3) := by decide +kernel
theorem d_119_30 : decode prog_11_method_26_code 30 = .ok (.iload_n 0, 1) := by decide +kernel
theorem d_119_31 : decode prog_11_method_26_code 31 = .ok (.sipush 420, 3) := by decide +kernel
theorem d_119_34 : decode prog_11_method_26_code 34 = .ok (.if_icmp .eq 10, 3) := by decide +kernel
theorem d_119_37 : decode prog_11_method_26_code 37 = .ok (.iload_n 0, 1) := by decide +kernel
theorem d_119_38 : decode prog_11_method_26_code 38 = .ok (.sipush 484, 3) := by decide +kernel
theorem d_119_41 : decode prog_11_method_26_code 41 = .ok (.if_icmp .ne 7, 3) := by decide +kernel
theorem d_119_44 : decode prog_11_method_26_code 44 = .ok (.iconst 1, 1) := by decide +kernel
theorem d_119_45 : decode prog_11_method_26_code 45 = .ok (.goto 4, 3) := by decide +kernel
theorem d_119_48 : decode prog_11_method_26_code 48 = .ok (.iconst 0, 1) := by decide +kernel
theorem d_119_49 : decode prog_11_method_26_code 49 = .ok (.istore_n 2, 1) := by decide +kernel
theorem d_119_50 : decode prog_11_method_26_code 50 = .ok (.iload_n 0, 1) := by decide +kernel
theorem d_119_51 : decode prog_11_method_26_code 51 = .ok (.bipush 100, 2) := by decide +kernel
theorem d_119_53 : decode prog_11_method_26_code 53 = .ok (.idiv, 1) := by decide +kernel
theorem d_119_54 : decode prog_11_method_26_code 54 = .ok (.iload_n 1, 1) := by decide +kernel
theorem d_119_55 : decode prog_11_method_26_code 55 = .ok (.if_icmp .eq 7, 3) := by decide +kernel
theorem d_119_58 : decode prog_11_method_26_code 58 = .ok (.iconst 3, 1) := by decide +kernel
theorem d_119_59 : decode prog_11_method_26_code 59 = .ok (.goto 17, 3) := by decide +kernel
theorem d_119_62 : decode prog_11_method_26_code 62 = .ok (.iload_n 1, 1) := by decide +kernel
theorem d_119_63 : decode prog_11_method_26_code 63 = .ok (.iconst 4, 1) := by decide +kernel
theorem d_119_64 : decode prog_11_method_26_code 64 = .ok (.if_icmp .ne 11, 3) := by decide +kernel
theorem d_119_67 : decode prog_11_method_26_code 67 = .ok (.iload_n 2, 1) := by decide +kernel
theorem d_119_68 : decode prog_11_method_26_code 68 = .ok (.ifCond .eq 7, 3) := by decide +kernel
theorem d_119_71 : decode prog_11_method_26_code 71 = .ok (.iconst 1, 1) := by decide +kernel
theorem d_119_72 : decode prog_11_method_26_code 72 = .ok (.goto 4, 3) := by decide +kernel
theorem d_119_75 : decode prog_11_method_26_code 75 = .ok (.iconst 2, 1) := by decide +kernel
theorem d_119_76 : decode prog_11_method_26_code 76 = .ok (.ireturn, 1) := by decide +kernel
theorem d_120_0 : decode prog_11_method_27_code 0 = .ok (.aload_n 0, 1) := by decide +kernel
theorem d_120_1 : decode prog_11_method_27_code 1 = .ok (.getfield 41, 3) := by decide +kernel
theorem d_120_4 : decode prog_11_method_27_code 4 = .ok (.iload_n 1, 1) := by decide +kernel
theorem d_120_5 : decode prog_11_method_27_code 5 = .ok (.iaload, 1) := by decide +kernel
theorem d_120_6 : decode prog_11_method_27_code 6 = .ok (.iconst 1, 1) := by decide +kernel
theorem d_120_7 : decode prog_11_method_27_code 7 = .ok (.if_icmp .eq 4, 3) := by decide +kernel
theorem d_120_10 : decode prog_11_method_27_code 10 = .ok (.return_, 1) := by decide +kernel
theorem d_120_11 : decode prog_11_method_27_code 11 = .ok (.bipush 9, 2) := by decide +kernel
theorem d_120_13 : decode prog_11_method_27_code 13 = .ok (.istore_n 2, 1) := by decide +kernel
theorem d_120_14 : decode prog_11_method_27_code 14 = .ok (.iconst 0, 1) := by decide +kernel
theorem d_120_15 : decode prog_11_method_27_code 15 = .ok (.istore_n 3, 1) := by decide +kernel
theorem d_120_16 : decode prog_11_method_27_code 16 = .ok (.iload_n 3, 1) := by decide +kernel
theorem d_120_17 : decode prog_11_method_27_code 17 = .ok (.aload_n 0, 1) := by decide +kernel
theorem d_120_18 : decode prog_11_method_27_code 18 = .ok (.getfield 53, 3) := by decide +kernel
theorem d_120_21 : decode prog_11_method_27_code 21 = .ok (.iload_n 1, 1) := by decide +kernel
theorem d_120_22 : decode prog_11_method_27_code 22 = .ok (.iaload, 1) := by decide +kernel
theorem d_120_23 : decode prog_11_method_27_code 23 = .ok (.if_icmp .ge 46, 3) := by decide +kernel
theorem d_120_26 : decode prog_11_method_27_code 26 = .ok (.aload_n 0, 1) := by decide +kernel
theorem d_120_27 : decode prog_11_method_27_code 27 = .ok (.getfield 68, 3) := by decide +kernel
theorem d_120_30 : decode prog_11_method_27_code 30 = .ok (.iconst 4, 1) := by decide +kernel
theorem d_120_31 : decode prog_11_method_27_code 31 = .ok (.iload_n 1, 1) := by decide +kernel
theorem d_120_32 : decode prog_11_method_27_code 32 = .ok (.imul, 1) := by decide +kernel
theorem d_120_33 : decode prog_11_method_27_code 33 = .ok (.iload_n 3, 1) := by decide +kernel
theorem d_120_34 : decode prog_11_method_27_code 34 = .ok (.iadd, 1) := by decide +kernel
theorem d_120_35 : decode prog_11_method_27_code 35 = .ok (.iaload, 1) := by decide +kernel
theorem d_120_36 : decode prog_11_method_27_code 36 = .ok (.istore 4, 2) := by decide +kernel
theorem d_120_38 : decode prog_11_method_27_code 38 = .ok (.iload 4, 2) := by decide +kernel
theorem d_120_40 : decode prog_11_method_27_code 40 = .ok (.ifCond .ne 4, 3) := by decide +kernel
theorem d_120_43 : decode prog_11_method_27_code 43 = .ok (.return_, 1) := by decide +kernel
theorem d_120_44 : decode prog_11_method_27_code 44 = .ok (.iload 4, 2) := by decide +kernel
theorem d_120_46 : decode prog_11_method_27_code 46 = .ok (.bipush 100, 2) := by decide +kernel
theorem d_120_48 : decode prog_11_method_27_code 48 = .ok (.idiv, 1) := by decide +kernel
theorem d_120_49 : decode prog_11_method_27_code 49 = .ok (.iload_n 2, 1) := by decide +kernel
theorem d_120_50 : decode prog_11_method_27_code 50 = .ok (.if_icmp .ge 11, 3) := by decide +kernel
theorem d_120_53 : decode prog_11_method_27_code 53 = .ok (.iload 4, 2) := by decide +kernel
theorem d_120_55 : decode prog_11_method_27_code 55 = .ok (.bipush 100, 2) := by decide +kernel
theorem d_120_57 : decode prog_11_method_27_code 57 = .ok (.idiv, 1) := by decide +kernel
theorem d_120_58 : decode prog_11_method_27_code 58 = .ok (.goto 4, 3) := by decide +kernel
theorem d_120_61 : decode prog_11_method_27_code 61 = .ok (.iload_n 2, 1) := by decide +kernel
theorem d_120_62 : decode prog_11_method_27_code 62 = .ok (.istore_n 2, 1) := by decide +kernel
theorem d_120_63 : decode prog_11_method_27_code 63 = .ok (.iinc 3 1, 3) := by decide +kernel
theorem d_120_66 : decode prog_11_method_27_code 66 = .ok (.goto (-50), 3) := by decide +kernel
theorem d_120_69 : decode prog_11_method_27_code 69 = .ok (.iconst 4, 1) := by decide +kernel
theorem d_120_70 : decode prog_11_method_27_code 70 = .ok (.iload_n 1, 1) := by decide +kernel
theorem d_120_71 : decode prog_11_method_27_code 71 = .ok (.imul, 1) := by decide +kernel
theorem d_120_72 : decode prog_11_method_27_code 72 = .ok (.istore_n 3, 1) := by decide +kernel
theorem d_120_73 : decode prog_11_method_27_code 73 = .ok (.iconst 1, 1) := by decide +kernel
theorem d_120_74 : decode prog_11_method_27_code 74 = .ok (.istore 4, 2) := by decide +kernel
theorem d_120_76 : decode prog_11_method_27_code 76 = .ok (.iload 4, 2) := by decide +kernel
theorem d_120_78 : decode prog_11_method_27_code 78 = .ok (.aload_n 0, 1) := by decide +kernel
theorem d_120_79 : decode prog_11_method_27_code 79 = .ok (.getfield 53, 3) := by decide +kernel
theorem d_120_82 : decode prog_11_method_27_code 82 = .ok (.iload_n 1, 1) := by decide +kernel
theorem d_120_83 : decode prog_11_method_27_code 83 = .ok (.iaload, 1) := by decide +kernel
theorem d_120_84 : decode prog_11_method_27_code 84 = .ok (.if_icmp .ge 75, 3) := by decide +kernel
theorem d_120_87 : decode prog_11_method_27_code 87 = .ok (.iconst 4, 1) := by decide +kernel
theorem d_120_88 : decode prog_11_method_27_code 88 = .ok (.iload_n 1, 1) := by decide +kernel
theorem d_120_89 : decode prog_11_method_27_code 89 = .ok (.imul, 1) := by decide +kernel
theorem d_120_90 : decode prog_11_method_27_code 90 = .ok (.iload 4, 2) := by decide +kernel
theorem d_120_92 : decode prog_11_method_27_code 92 = .ok (.iadd, 1) := by decide +kernel
theorem d_120_93 : decode prog_11_method_27_code 93 = .ok (.istore 5, 2) := by decide +kernel
theorem d_120_95 : decode prog_11_method_27_code 95 = .ok (.aload_n 0, 1) := by decide +kernel
theorem d_120_96 : decode prog_11_method_27_code 96 = .ok (.getfield 68, 3) := by decide +kernel
theorem d_120_99 : decode prog_11_method_27_code 99 = .ok (.iload 5, 2) := by decide +kernel
theorem d_120_101 : decode prog_11_method_27_code 101 = .ok (.iaload, 1) := by decide +kernel
theorem d_120_102 : decode prog_11_method_27_code 102 = .ok (.iload_n 2, 1) := by decide +kernel
theorem d_120_103 : decode prog_11_method_27_code 103 = .ok (.invokestatic 162, 3) := by decide +kernel
theorem d_120_106 : decode prog_11_method_27_code 106 = .ok (.istore 6, 2) := by decide +kernel
theorem d_120_108 : decode prog_11_method_27_code 108 = .ok (.aload_n 0, 1) := by decide +kernel
theorem d_120_109 : decode prog_11_method_27_code 109 = .ok (.getfield 68, 3) := by decide +kernel
theorem d_120_112 : decode prog_11_method_27_code 112 = .ok (.iload_n 3, 1) := by decide +kernel
theorem d_120_113 : decode prog_11_method_27_code 113 = .ok (.iaload, 1) := by decide +kernel
theorem d_120_114 : decode prog_11_method_27_code 114 = .ok (.iload_n 2, 1) := by decide +kernel
theorem d_120_115 : decode prog_11_method_27_code 115 = .ok (.invokestatic 162, 3) := by decide +kernel
theorem d_120_118 : decode prog_11_method_27_code 118 = .ok (.istore 7, 2) := by decide +kernel
theorem d_120_120 : decode prog_11_method_27_code 120 = .ok (.iload 6, 2) := by decide +kernel
theorem d_120_122 : decode prog_11_method_27_code 122 = .ok (.iload 7, 2) := by decide +kernel
theorem d_120_124 : decode prog_11_method_27_code 124 = .ok (.if_icmp .lt 26, 3) := by decide +kernel
theorem d_120_127 : decode prog_11_method_27_code 127 = .ok (.iload 6, 2) := by decide +kernel
theorem d_120_129 : decode prog_11_method_27_code 129 = .ok (.iload 7, 2) := by decide +kernel
theorem d_120_131 : decode prog_11_method_27_code 131 = .ok (.if_icmp .ne 22, 3) := by decide +kernel
theorem d_120_134 : decode prog_11_method_27_code 134 = .ok (.aload_n 0, 1) := by decide +kernel
theorem d_120_135 : decode prog_11_method_27_code 135 = .ok (.getfield 71, 3) := by decide +kernel
theorem d_120_138 : decode prog_11_method_27_code 138 = .ok (.iload 5, 2) := by decide +kernel
theorem d_120_140 : decode prog_11_method_27_code 140 = .ok (.iaload, 1) := by decide +kernel
theorem d_120_141 : decode prog_11_method_27_code 141 = .ok (.aload_n 0, 1) := by decide +kernel
theorem d_120_142 : decode prog_11_method_27_code 142 = .ok (.getfield 71, 3) := by decide +kernel
theorem d_120_145 : decode prog_11_method_27_code 145 = .ok (.iload_n 3, 1) := by decide +kernel
theorem d_120_146 : decode prog_11_method_27_code 146 = .ok (.iaload, 1) := by decide +kernel
theorem d_120_147 : decode prog_11_method_27_code 147 = .ok (.if_icmp .ge 6, 3) := by decide +kernel
theorem d_120_150 : decode prog_11_method_27_code 150 = .ok (.iload 5, 2) := by decide +kernel
theorem d_120_152 : decode prog_11_method_27_code 152 = .ok (.istore_n 3, 1) := by decide +kernel
theorem d_120_153 : decode prog_11_method_27_code 153 = .ok (.iinc 4 1, 3) := by decide +kernel
theorem d_120_156 : decode prog_11_method_27_code 156 = .ok (.goto (-80), 3) := by decide +kernel
theorem d_120_159 : decode prog_11_method_27_code 159 = .ok (.aload_n 0, 1) := by decide +kernel
theorem d_120_160 : decode prog_11_method_27_code 160 = .ok (.iload_n 1, 1) := by decide +kernel
theorem d_120_161 : decode prog_11_method_27_code 161 = .ok (.aload_n 0, 1) := by decide +kernel
theorem d_120_162 : decode prog_11_method_27_code 162 = .ok (.getfield 68, 3) := by decide +kernel
theorem d_120_165 : decode prog_11_method_27_code 165 = .ok (.iload_n 3, 1) := by decide +kernel
theorem d_120_166 : decode prog_11_method_27_code 166 = .ok (.iaload, 1) := by decide +kernel
theorem d_120_167 : decode prog_11_method_27_code 167 = .ok (.sipush 503, 3) := by decide +kernel
theorem d_120_170 : decode prog_11_method_27_code 170 = .ok (.if_icmp .ne 9, 3) := by decide +kernel
theorem d_120_173 : decode prog_11_method_27_code 173 = .ok (.sipush 500, 3) := by decide +kernel
theorem d_120_176 : decode prog_11_method_27_code 176 = .ok (.goto 9, 3) := by decide +kernel
theorem d_120_179 : decode prog_11_method_27_code 179 = .ok (.aload_n 0, 1) := by decide +kernel
theorem d_120_180 : decode prog_11_method_27_code 180 = .ok (.getfield 68, 3) := by decide +kernel
theorem d_120_183 : decode prog_11_method_27_code 183 = .ok (.iload_n 3, 1) := by decide +kernel
theorem d_120_184 : decode prog_11_method_27_code 184 = .ok (.iaload, 1) := by decide +kernel
theorem d_120_185 : decode prog_11_method_27_code 185 = .ok (.invokevirtual 165, 3) := by decide +kernel
theorem d_120_188 : decode prog_11_method_27_code 188 = .ok (.return_, 1) := by decide +kernel
theorem d_121_0 : decode prog_11_method_28_code 0 = .ok (.iconst 4, 1) := by decide +kernel
theorem d_121_1 : decode prog_11_method_28_code 1 = .ok (.iload_n 1, 1) := by decide +kernel
theorem d_121_2 : decode prog_11_method_28_code 2 = .ok (.imul, 1) := by decide +kernel
theorem d_121_3 : decode prog_11_method_28_code 3 = .ok (.iload_n 2, 1) := by decide +kernel
theorem d_121_4 : decode prog_11_method_28_code 4 = .ok (.iadd, 1) := by decide +kernel
theorem d_121_5 : decode prog_11_method_28_code 5 = .ok (.istore_n 3, 1) := by decide +kernel
theorem d_121_6 : decode prog_11_method_28_code 6 = .ok (.aload_n 0, 1) := by decide +kernel
theorem d_121_7 : decode prog_11_method_28_code 7 = .ok (.iload_n 3, 1) := by decide +kernel
theorem d_121_8 : decode prog_11_method_28_code 8 = .ok (.iconst 4, 1) := by decide +kernel
theorem d_121_9 : decode prog_11_method_28_code 9 = .ok (.invokevirtual 168, 3) := by decide +kernel
theorem d_121_12 : decode prog_11_method_28_code 12 = .ok (.aload_n 0, 1) := by decide +kernel
theorem d_121_13 : decode prog_11_method_28_code 13 = .ok (.iload_n 3, 1) := by decide +kernel
theorem d_121_14 : decode prog_11_method_28_code 14 = .ok (.sipush 408, 3) := by decide +kernel
theorem d_121_17 : decode prog_11_method_28_code 17 = .ok (.invokevirtual 171, 3) := by decide +kernel
theorem d_121_20 : decode prog_11_method_28_code 20 = .ok (.aload_n 0, 1) := by decide +kernel
theorem d_121_21 : decode prog_11_method_28_code 21 = .ok (.iload_n 1, 1) := by decide +kernel
theorem d_121_22 : decode prog_11_method_28_code 22 = .ok (.invokevirtual 174, 3) := by decide +kernel
theorem d_121_25 : decode prog_11_method_28_code 25 = .ok (.return_, 1) := by decide +kernel
