theorem d_122_0 : decode prog_11_method_29_code 0 = .ok (.iconst 4, 1) := by decide +kernel
theorem d_122_1 : decode prog_11_method_29_code 1 = .ok (.iload_n 1, 1) := by decide +kernel
theorem d_122_2 : decode prog_11_method_29_code 2 = .ok (.imul, 1) := by decide +kernel
theorem d_122_3 : decode prog_11_method_29_code 3 = .ok (.iload_n 2, 1) := by decide +kernel
theorem d_122_4 : decode prog_11_method_29_code 4 = .ok (.iadd, 1) := by decide +kernel
theorem d_122_5 : decode prog_11_method_29_code 5 = .ok (.istore 4, 2) := by decide +kernel
theorem d_122_7 : decode prog_11_method_29_code 7 = .ok (.iload_n 3, 1) := by decide +kernel
theorem d_122_8 : decode prog_11_method_29_code 8 = .ok (.sipush 200, 3) := by decide +kernel
theorem d_122_11 : decode prog_11_method_29_code 11 = .ok (.if_icmp .ge 22, 3) := by decide +kernel
theorem d_122_14 : decode prog_11_method_29_code 14 = .ok (.aload_n 0, 1) := by decide +kernel
theorem d_122_15 : decode prog_11_method_29_code 15 = .ok (.iload 4, 2) := by decide +kernel
theorem d_122_17 : decode prog_11_method_29_code 17 = .ok (.invokevirtual 153, 3) := by decide +kernel
theorem d_122_20 : decode prog_11_method_29_code 20 = .ok (.ifCond .eq 189, 3) := by decide +kernel
theorem d_122_23 : decode prog_11_method_29_code 23 = .ok (.aload_n 0, 1) := by decide +kernel
theorem d_122_24 : decode prog_11_method_29_code 24 = .ok (.iload_n 1, 1) := by decide +kernel
theorem d_122_25 : decode prog_11_method_29_code 25 = .ok (.iload_n 2, 1) := by decide +kernel
theorem d_122_26 : decode prog_11_method_29_code 26 = .ok (.iload_n 3, 1) := by decide +kernel
theorem d_122_27 : decode prog_11_method_29_code 27 = .ok (.invokevirtual 178, 3) := by decide +kernel
theorem d_122_30 : decode prog_11_method_29_code 30 = .ok (.goto 179, 3) := by decide +kernel
theorem d_122_33 : decode prog_11_method_29_code 33 = .ok (.iload_n 3, 1) := by decide +kernel
theorem d_122_34 : decode prog_11_method_29_code 34 = .ok (.sipush 300, 3) := by decide +kernel
theorem d_122_37 : decode prog_11_method_29_code 37 = .ok (.if_icmp .ge 79, 3) := by decide +kernel
theorem d_122_40 : decode prog_11_method_29_code 40 = .ok (.aload_n 0, 1) := by decide +kernel
theorem d_122_41 : decode prog_11_method_29_code 41 = .ok (.iload 4, 2) := by decide +kernel
theorem d_122_43 : decode prog_11_method_29_code 43 = .ok (.invokevirtual 153, 3) := by decide +kernel
theorem d_122_46 : decode prog_11_method_29_code 46 = .ok (.ifCond .eq 17, 3) := by decide +kernel
theorem d_122_49 : decode prog_11_method_29_code 49 = .ok (.aload_n 0, 1) := by decide +kernel
theorem d_122_50 : decode prog_11_method_29_code 50 = .ok (.iload 4, 2) := by decide +kernel
theorem d_122_52 : decode prog_11_method_29_code 52 = .ok (.iconst 4, 1) := by decide +kernel
theorem d_122_53 : decode prog_11_method_29_code 53 = .ok (.invokevirtual 168, 3) := by decide +kernel
theorem d_122_56 : decode prog_11_method_29_code 56 = .ok (.aload_n 0, 1) := by decide +kernel
theorem d_122_57 : decode prog_11_method_29_code 57 = .ok (.iload 4, 2) := by decide +kernel
theorem d_122_59 : decode prog_11_method_29_code 59 = .ok (.iload_n 3, 1) := by decide +kernel
theorem d_122_60 : decode prog_11_method_29_code 60 = .ok (.invokevirtual 171, 3) := by decide +kernel
theorem d_122_63 : decode prog_11_method_29_code 63 = .ok (.aload_n 0, 1) := by decide +kernel
theorem d_122_64 : decode prog_11_method_29_code 64 = .ok (.iload_n 1, 1) := by decide +kernel
theorem d_122_65 : decode prog_11_method_29_code 65 = .ok (.iload_n 3, 1) := by decide +kernel
theorem d_122_66 : decode prog_11_method_29_code 66 = .ok (.invokevirtual 146, 3) := by decide +kernel
theorem d_122_69 : decode prog_11_method_29_code 69 = .ok (.aload_n 0, 1) := by decide +kernel
theorem d_122_70 : decode prog_11_method_29_code 70 = .ok (.getfield 41, 3) := by decide +kernel
theorem d_122_73 : decode prog_11_method_29_code 73 = .ok (.iload_n 1, 1) := by decide +kernel
theorem d_122_74 : decode prog_11_method_29_code 74 = .ok (.iaload, 1) := by decide +kernel
theorem d_122_75 : decode prog_11_method_29_code 75 = .ok (.iconst 1, 1) := by decide +kernel
theorem d_122_76 : decode prog_11_method_29_code 76 = .ok (.if_icmp .ne 133, 3) := by decide +kernel
theorem d_122_79 : decode prog_11_method_29_code 79 = .ok (.aload_n 0, 1) := by decide +kernel
theorem d_122_80 : decode prog_11_method_29_code 80 = .ok (.iload_n 1, 1) := by decide +kernel
theorem d_122_81 : decode prog_11_method_29_code 81 = .ok (.iconst 4, 1) := by decide +kernel
theorem d_122_82 : decode prog_11_method_29_code 82 = .ok (.invokevirtual 150, 3) := by decide +kernel
theorem d_122_85 : decode prog_11_method_29_code 85 = .ok (.aload_n 0, 1) := by decide +kernel
theorem d_122_86 : decode prog_11_method_29_code 86 = .ok (.getfield 47, 3) := by decide +kernel
theorem d_122_89 : decode prog_11_method_29_code 89 = .ok (.iconst 4, 1) := by decide +kernel
theorem d_122_90 : decode prog_11_method_29_code 90 = .ok (.iload_n 1, 1) := by decide +kernel
theorem d_122_91 : decode prog_11_method_29_code 91 = .ok (.imul, 1) := by decide +kernel
theorem d_122_92 : decode prog_11_method_29_code 92 = .ok (.iconst 3, 1) := by decide +kernel
theorem d_122_93 : decode prog_11_method_29_code 93 = .ok (.iadd, 1) := by decide +kernel
theorem d_122_94 : decode prog_11_method_29_code 94 = .ok (.aload_n 0, 1) := by decide +kernel
theorem d_122_95 : decode prog_11_method_29_code 95 = .ok (.getfield 99, 3) := by decide +kernel
theorem d_122_98 : decode prog_11_method_29_code 98 = .ok (.bipush 64, 2) := by decide +kernel
theorem d_122_100 : decode prog_11_method_29_code 100 = .ok (.aload_n 0, 1) := by decide +kernel
theorem d_122_101 : decode prog_11_method_29_code 101 = .ok (.getfield 87, 3) := by decide +kernel
theorem d_122_104 : decode prog_11_method_29_code 104 = .ok (.imul, 1) := by decide +kernel
theorem d_122_105 : decode prog_11_method_29_code 105 = .ok (.iadd, 1) := by decide +kernel
theorem d_122_106 : decode prog_11_method_29_code 106 = .ok (.iastore, 1) := by decide +kernel
theorem d_122_107 : decode prog_11_method_29_code 107 = .ok (.aload_n 0, 1) := by decide +kernel
theorem d_122_108 : decode prog_11_method_29_code 108 = .ok (.iload_n 1, 1) := by decide +kernel
theorem d_122_109 : decode prog_11_method_29_code 109 = .ok (.iload_n 2, 1) := by decide +kernel
theorem d_122_110 : decode prog_11_method_29_code 110 = .ok (.invokevirtual 181, 3) := by decide +kernel
theorem d_122_113 : decode prog_11_method_29_code 113 = .ok (.goto 96, 3) := by decide +kernel
theorem d_122_116 : decode prog_11_method_29_code 116 = .ok (.aload_n 0, 1) := by decide +kernel
theorem d_122_117 : decode prog_11_method_29_code 117 = .ok (.iload 4, 2) := by decide +kernel
theorem d_122_119 : decode prog_11_method_29_code 119 = .ok (.invokevirtual 153, 3) := by decide +kernel
theorem d_122_122 : decode prog_11_method_29_code 122 = .ok (.ifCond .eq 69, 3) := by decide +kernel
theorem d_122_125 : decode prog_11_method_29_code 125 = .ok (.aload_n 0, 1) := by decide +kernel
theorem d_122_126 : decode prog_11_method_29_code 126 = .ok (.iload 4, 2) := by decide +kernel
theorem d_122_128 : decode prog_11_method_29_code 128 = .ok (.iconst 3, 1) := by decide +kernel
theorem d_122_129 : decode prog_11_method_29_code 129 = .ok (.invokevirtual 168, 3) := by decide +kernel
theorem d_122_132 : decode prog_11_method_29_code 132 = .ok (.aload_n 0, 1) := by decide +kernel
theorem d_122_133 : decode prog_11_method_29_code 133 = .ok (.iload 4, 2) := by decide +kernel
theorem d_122_135 : decode prog_11_method_29_code 135 = .ok (.iload_n 3, 1) := by decide +kernel
theorem d_122_136 : decode prog_11_method_29_code 136 = .ok (.invokevirtual 171, 3) := by decide +kernel
theorem d_122_139 : decode prog_11_method_29_code 139 = .ok (.aload_n 0, 1) := by decide +kernel
theorem d_122_140 : decode prog_11_method_29_code 140 = .ok (.iload_n 1, 1) := by decide +kernel
theorem d_122_141 : decode prog_11_method_29_code 141 = .ok (.iload_n 2, 1) := by decide +kernel
theorem d_122_142 : decode prog_11_method_29_code 142 = .ok (.iconst 3, 1) := by decide +kernel
theorem d_122_143 : decode prog_11_method_29_code 143 = .ok (.invokevirtual 138, 3) := by decide +kernel
theorem d_122_146 : decode prog_11_method_29_code 146 = .ok (.aload_n 0, 1) := by decide +kernel
theorem d_122_147 : decode prog_11_method_29_code 147 = .ok (.getfield 74, 3) := by decide +kernel
theorem d_122_150 : decode prog_11_method_29_code 150 = .ok (.bipush 6, 2) := by decide +kernel
theorem d_122_152 : decode prog_11_method_29_code 152 = .ok (.iload 4, 2) := by decide +kernel
theorem d_122_154 : decode prog_11_method_29_code 154 = .ok (.imul, 1) := by decide +kernel
theorem d_122_155 : decode prog_11_method_29_code 155 = .ok (.iconst 3, 1) := by decide +kernel
theorem d_122_156 : decode prog_11_method_29_code 156 = .ok (.iadd, 1) := by decide +kernel
theorem d_122_157 : decode prog_11_method_29_code 157 = .ok (.aload_n 0, 1) := by decide +kernel
theorem d_122_158 : decode prog_11_method_29_code 158 = .ok (.getfield 99, 3) := by decide +kernel
theorem d_122_161 : decode prog_11_method_29_code 161 = .ok (.bipush 64, 2) := by decide +kernel
theorem d_122_163 : decode prog_11_method_29_code 163 = .ok (.aload_n 0, 1) := by decide +kernel
theorem d_122_164 : decode prog_11_method_29_code 164 = .ok (.getfield 87, 3) := by decide +kernel
theorem d_122_167 : decode prog_11_method_29_code 167 = .ok (.imul, 1) := by decide +kernel
theorem d_122_168 : decode prog_11_method_29_code 168 = .ok (.iadd, 1) := by decide +kernel
theorem d_122_169 : decode prog_11_method_29_code 169 = .ok (.iastore, 1) := by decide +kernel
theorem d_122_170 : decode prog_11_method_29_code 170 = .ok (.iload_n 3, 1) := by decide +kernel
theorem d_122_171 : decode prog_11_method_29_code 171 = .ok (.sipush 600, 3) := by decide +kernel
theorem d_122_174 : decode prog_11_method_29_code 174 = .ok (.if_icmp .lt 9, 3) := by decide +kernel
theorem d_122_177 : decode prog_11_method_29_code 177 = .ok (.aload_n 0, 1) := by decide +kernel
theorem d_122_178 : decode prog_11_method_29_code 178 = .ok (.iload_n 1, 1) := by decide +kernel
theorem d_122_179 : decode prog_11_method_29_code 179 = .ok (.iload_n 2, 1) := by decide +kernel
theorem d_122_180 : decode prog_11_method_29_code 180 = .ok (.invokevirtual 181, 3) := by decide +kernel
theorem d_122_183 : decode prog_11_method_29_code 183 = .ok (.aload_n 0, 1) := by decide +kernel
theorem d_122_184 : decode prog_11_method_29_code 184 = .ok (.iload_n 1, 1) := by decide +kernel
theorem d_122_185 : decode prog_11_method_29_code 185 = .ok (.invokevirtual 174, 3) := by decide +kernel
theorem d_122_188 : decode prog_11_method_29_code 188 = .ok (.goto 21, 3) := by decide +kernel
theorem d_122_191 : decode prog_11_method_29_code 191 = .ok (.aload_n 0, 1) := by decide +kernel
theorem d_122_192 : decode prog_11_method_29_code 192 = .ok (.getfield 56, 3) := by decide +kernel
theorem d_122_195 : decode prog_11_method_29_code 195 = .ok (.iload 4, 2) := by decide +kernel
theorem d_122_197 : decode prog_11_method_29_code 197 = .ok (.iaload, 1) := by decide +kernel
theorem d_122_198 : decode prog_11_method_29_code 198 = .ok (.iconst 3, 1) := by decide +kernel
theorem d_122_199 : decode prog_11_method_29_code 199 = .ok (.if_icmp .ne 10, 3) := by decide +kernel
theorem d_122_202 : decode prog_11_method_29_code 202 = .ok (.aload_n 0, 1) := by decide +kernel
theorem d_122_203 : decode prog_11_method_29_code 203 = .ok (.iload_n 1, 1) := by decide +kernel
theorem d_122_204 : decode prog_11_method_29_code 204 = .ok (.iload_n 2, 1) := by decide +kernel
theorem d_122_205 : decode prog_11_method_29_code 205 = .ok (.iconst 3, 1) := by decide +kernel
theorem d_122_206 : decode prog_11_method_29_code 206 = .ok (.invokevirtual 138, 3) := by decide +kernel
theorem d_122_209 : decode prog_11_method_29_code 209 = .ok (.return_, 1) := by decide +kernel
theorem d_123_0 : decode prog_11_method_30_code 0 = .ok (.iconst 4, 1) := by decide +kernel
theorem d_123_1 : decode prog_11_method_30_code 1 = .ok (.iload_n 1, 1) := by decide +kernel
theorem d_123_2 : decode prog_11_method_30_code 2 = .ok (.imul, 1) := by decide +kernel
theorem d_123_3 : decode prog_11_method_30_code 3 = .ok (.iload_n 2, 1) := by decide +kernel
theorem d_123_4 : decode prog_11_method_30_code 4 = .ok (.iadd, 1) := by decide +kernel
theorem d_123_5 : decode prog_11_method_30_code 5 = .ok (.istore 4, 2) := by decide +kernel
theorem d_123_7 : decode prog_11_method_30_code 7 = .ok (.aload_n 0, 1) := by decide +kernel
theorem d_123_8 : decode prog_11_method_30_code 8 = .ok (.iload 4, 2) := by decide +kernel
theorem d_123_10 : decode prog_11_method_30_code 10 = .ok (.iconst 2, 1) := by decide +kernel
theorem d_123_11 : decode prog_11_method_30_code 11 = .ok (.invokevirtual 168, 3) := by decide +kernel
theorem d_123_14 : decode prog_11_method_30_code 14 = .ok (.iload_n 3, 1) := by decide +kernel
theorem d_123_15 : decode prog_11_method_30_code 15 = .ok (.bipush 100, 2) := by decide +kernel
theorem d_123_17 : decode prog_11_method_30_code 17 = .ok (.if_icmp .eq 54, 3) := by decide +kernel
theorem d_123_20 : decode prog_11_method_30_code 20 = .ok (.aload_n 0, 1) := by decide +kernel
theorem d_123_21 : decode prog_11_method_30_code 21 = .ok (.getfield 65, 3) := by decide +kernel
theorem d_123_24 : decode prog_11_method_30_code 24 = .ok (.iload 4, 2) := by decide +kernel
theorem d_123_26 : decode prog_11_method_30_code 26 = .ok (.baload, 1) := by decide +kernel
theorem d_123_27 : decode prog_11_method_30_code 27 = .ok (.ifCond .ne 28, 3) := by decide +kernel
theorem d_123_30 : decode prog_11_method_30_code 30 = .ok (.aload_n 0, 1) := by decide +kernel
theorem d_123_31 : decode prog_11_method_30_code 31 = .ok (.getfield 74, 3) := by decide +kernel
theorem d_123_34 : decode prog_11_method_30_code 34 = .ok (.bipush 6, 2) := by decide +kernel
theorem d_123_36 : decode prog_11_method_30_code 36 = .ok (.iload 4, 2) := by decide +kernel
theorem d_123_38 : decode prog_11_method_30_code 38 = .ok (.imul, 1) := by decide +kernel
theorem d_123_39 : decode prog_11_method_30_code 39 = .ok (.iconst 2, 1) := by decide +kernel
theorem d_123_40 : decode prog_11_method_30_code 40 = .ok (.iadd, 1) := by decide +kernel
theorem d_123_41 : decode prog_11_method_30_code 41 = .ok (.aload_n 0, 1) := by decide +kernel
theorem d_123_42 : decode prog_11_method_30_code 42 = .ok (.getfield 99, 3) := by decide +kernel
theorem d_123_45 : decode prog_11_method_30_code 45 = .ok (.sipush 200, 3) := by decide +kernel
theorem d_123_48 : decode prog_11_method_30_code 48 = .ok (.aload_n 0, 1) := by decide +kernel
theorem d_123_49 : decode prog_11_method_30_code 49 = .ok (.getfield 87, 3) := by decide +kernel
theorem d_123_52 : decode prog_11_method_30_code 52 = .ok (.imul, 1) := by decide +kernel
theorem d_123_53 : decode prog_11_method_30_code 53 = .ok (.iadd, 1) := by decide +kernel
theorem d_123_54 : decode prog_11_method_30_code 54 = .ok (.iastore, 1) := by decide +kernel
theorem d_123_55 : decode prog_11_method_30_code 55 = .ok (.aload_n 0, 1) := by decide +kernel
theorem d_123_56 : decode prog_11_method_30_code 56 = .ok (.getfield 41, 3) := by decide +kernel
theorem d_123_59 : decode prog_11_method_30_code 59 = .ok (.iload_n 1, 1) := by decide +kernel
theorem d_123_60 : decode prog_11_method_30_code 60 = .ok (.iaload, 1) := by decide +kernel
theorem d_123_61 : decode prog_11_method_30_code 61 = .ok (.iconst 1, 1) := by decide +kernel
theorem d_123_62 : decode prog_11_method_30_code 62 = .ok (.if_icmp .ne 9, 3) := by decide +kernel
theorem d_123_65 : decode prog_11_method_30_code 65 = .ok (.aload_n 0, 1) := by decide +kernel
theorem d_123_66 : decode prog_11_method_30_code 66 = .ok (.iload_n 1, 1) := by decide +kernel
theorem d_123_67 : decode prog_11_method_30_code 67 = .ok (.iload_n 3, 1) := by decide +kernel
theorem d_123_68 : decode prog_11_method_30_code 68 = .ok (.invokevirtual 146, 3) := by decide +kernel
theorem d_123_71 : decode prog_11_method_30_code 71 = .ok (.aload_n 0, 1) := by decide +kernel
theorem d_123_72 : decode prog_11_method_30_code 72 = .ok (.getfield 62, 3) := by decide +kernel
theorem d_123_75 : decode prog_11_method_30_code 75 = .ok (.iload 4, 2) := by decide +kernel
theorem d_123_77 : decode prog_11_method_30_code 77 = .ok (.baload, 1) := by decide +kernel
theorem d_123_78 : decode prog_11_method_30_code 78 = .ok (.ifCond .eq 9, 3) := by decide +kernel
theorem d_123_81 : decode prog_11_method_30_code 81 = .ok (.aload_n 0, 1) := by decide +kernel
theorem d_123_82 : decode prog_11_method_30_code 82 = .ok (.iload_n 1, 1) := by decide +kernel
theorem d_123_83 : decode prog_11_method_30_code 83 = .ok (.iload_n 2, 1) := by decide +kernel
theorem d_123_84 : decode prog_11_method_30_code 84 = .ok (.invokevirtual 156, 3) := by decide +kernel
theorem d_123_87 : decode prog_11_method_30_code 87 = .ok (.return_, 1) := by decide +kernel
theorem d_124_0 : decode prog_11_method_31_code 0 = .ok (.iload_n 1, 1) := by decide +kernel
theorem d_124_1 : decode prog_11_method_31_code 1 = .ok (.iconst 0, 1) := by decide +kernel
theorem d_124_2 : decode prog_11_method_31_code 2 = .ok (.iconst 3, 1) := by decide +kernel
theorem d_124_3 : decode prog_11_method_31_code 3 = .ok (.invokestatic 94, 3) := by decide +kernel
theorem d_124_6 : decode prog_11_method_31_code 6 = .ok (.ifCond .ne 5, 3) := by decide +kernel
theorem d_124_9 : decode prog_11_method_31_code 9 = .ok (.iconst (-1), 1) := by decide +kernel
theorem d_124_10 : decode prog_11_method_31_code 10 = .ok (.ireturn, 1) := by decide +kernel
theorem d_124_11 : decode prog_11_method_31_code 11 = .ok (.aload_n 0, 1) := by decide +kernel
theorem d_124_12 : decode prog_11_method_31_code 12 = .ok (.getfield 133, 3) := by decide +kernel
theorem d_124_15 : decode prog_11_method_31_code 15 = .ok (.istore 5, 2) := by decide +kernel
theorem d_124_17 : decode prog_11_method_31_code 17 = .ok (.aload_n 0, 1) := by decide +kernel
theorem d_124_18 : decode prog_11_method_31_code 18 = .ok (.iload_n 1, 1) := by decide +kernel
theorem d_124_19 : decode prog_11_method_31_code 19 = .ok (.invokevirtual 142, 3) := by decide +kernel
theorem d_124_22 : decode prog_11_method_31_code 22 = .ok (.ifCond .eq 42, 3) := by decide +kernel
theorem d_124_25 : decode prog_11_method_31_code 25 = .ok (.aload_n 0, 1) := by decide +kernel
theorem d_124_26 : decode prog_11_method_31_code 26 = .ok (.getfield 41, 3) := by decide +kernel
theorem d_124_29 : decode prog_11_method_31_code 29 = .ok (.iload_n 1, 1) := by decide +kernel
theorem d_124_30 : decode prog_11_method_31_code 30 = .ok (.iaload, 1) := by decide +kernel
theorem d_124_31 : decode prog_11_method_31_code 31 = .ok (.iconst 1, 1) := by decide +kernel
theorem d_124_32 : decode prog_11_method_31_code 32 = .ok (.if_icmp .eq 13, 3) := by decide +kernel
theorem d_124_35 : decode prog_11_method_31_code 35 = .ok (.aload_n 0, 1) := by decide +kernel
theorem d_124_36 : decode prog_11_method_31_code 36 = .ok (.getfield 41, 3) := by decide +kernel
theorem d_124_39 : decode prog_11_method_31_code 39 = .ok (.iload_n 1, 1) := by decide +kernel
theorem d_124_40 : decode prog_11_method_31_code 40 = .ok (.iaload, 1) := by decide +kernel
theorem d_124_41 : decode prog_11_method_31_code 41 = .ok (.iconst 2, 1) := by decide +kernel
theorem d_124_42 : decode prog_11_method_31_code 42 = .ok (.if_icmp .ne 14, 3) := by decide +kernel
theorem d_124_45 : decode prog_11_method_31_code 45 = .ok (.aload_n 0, 1) := by decide +kernel
theorem d_124_46 : decode prog_11_method_31_code 46 = .ok (.iload_n 1, 1) := by decide +kernel
theorem d_124_47 : decode prog_11_method_31_code 47 = .ok (.aload_n 0, 1) := by decide +kernel
theorem d_124_48 : decode prog_11_method_31_code 48 = .ok (.getfield 44, 3) := by decide +kernel
theorem d_124_51 : decode prog_11_method_31_code 51 = .ok (.iload_n 1, 1) := by decide +kernel
theorem d_124_52 : decode prog_11_method_31_code 52 = .ok (.iaload, 1) := by decide +kernel
theorem d_124_53 : decode prog_11_method_31_code 53 = .ok (.invokevirtual 146, 3) := by decide +kernel
theorem d_124_56 : decode prog_11_method_31_code 56 = .ok (.aload_n 0, 1) := by decide +kernel
theorem d_124_57 : decode prog_11_method_31_code 57 = .ok (.getfield 133, 3) := by decide +kernel
theorem d_124_60 : decode prog_11_method_31_code 60 = .ok (.iload 5, 2) := by decide +kernel
theorem d_124_62 : decode prog_11_method_31_code 62 = .ok (.isub, 1) := by decide +kernel
theorem d_124_63 : decode prog_11_method_31_code 63 = .ok (.ireturn, 1) := by decide +kernel
theorem d_124_64 : decode prog_11_method_31_code 64 = .ok (.iload_n 2, 1) := by decide +kernel
theorem d_124_65 : decode prog_11_method_31_code 65 = .ok (.iconst 0, 1) := by decide +kernel
theorem d_124_66 : decode prog_11_method_31_code 66 = .ok (.iconst 3, 1) := by decide +kernel
theorem d_124_67 : decode prog_11_method_31_code 67 = .ok (.invokestatic 94, 3) := by decide +kernel
theorem d_124_70 : decode prog_11_method_31_code 70 = .ok (.istore 6, 2) := by decide +kernel
theorem d_124_72 : decode prog_11_method_31_code 72 = .ok (.aload_n 0, 1) := by decide +kernel
theorem d_124_73 : decode prog_11_method_31_code 73 = .ok (.iload_n 2, 1) := by decide +kernel
theorem d_124_74 : decode prog_11_method_31_code 74 = .ok (.invokevirtual 115, 3) := by decide +kernel
theorem d_124_77 : decode prog_11_method_31_code 77 = .ok (.istore 7, 2) := by decide +kernel
theorem d_124_79 : decode prog_11_method_31_code 79 = .ok (.iload_n 3, 1) := by decide +kernel
theorem d_124_80 : decode prog_11_method_31_code 80 = .ok (.iconst 1, 1) := by decide +kernel
theorem d_124_81 : decode prog_11_method_31_code 81 = .ok (.if_icmp .ge 9, 3) := by decide +kernel
theorem d_124_84 : decode prog_11_method_31_code 84 = .ok (.sipush 483, 3) := by decide +kernel
theorem d_124_87 : decode prog_11_method_31_code 87 = .ok (.goto 42, 3) := by decide +kernel
theorem d_124_90 : decode prog_11_method_31_code 90 = .ok (.iload 6, 2) := by decide +kernel
theorem d_124_92 : decode prog_11_method_31_code 92 = .ok (.ifCond .ne 9, 3) := by decide +kernel
theorem d_124_95 : decode prog_11_method_31_code 95 = .ok (.sipush 404, 3) := by decide +kernel
theorem d_124_98 : decode prog_11_method_31_code 98 = .ok (.goto 31, 3) := by decide +kernel
theorem d_124_101 : decode prog_11_method_31_code 101 = .ok (.iload 4, 2) := by decide +kernel
theorem d_124_103 : decode prog_11_method_31_code 103 = .ok (.iload_n 2, 1) := by decide +kernel
theorem d_124_104 : decode prog_11_method_31_code 104 = .ok (.ishr, 1) := by decide +kernel
theorem d_124_105 : decode prog_11_method_31_code 105 = .ok (.iconst 1, 1) := by decide +kernel
theorem d_124_106 : decode prog_11_method_31_code 106 = .ok (.iand, 1) := by decide +kernel
theorem d_124_107 : decode prog_11_method_31_code 107 = .ok (.iconst 1, 1) := by decide +kernel
theorem d_124_108 : decode prog_11_method_31_code 108 = .ok (.if_icmp .ne 9, 3) := by decide +kernel
theorem d_124_111 : decode prog_11_method_31_code 111 = .ok (.sipush 482, 3) := by decide +kernel
theorem d_124_114 : decode prog_11_method_31_code 114 = .ok (.goto 15, 3) := by decide +kernel
theorem d_124_117 : decode prog_11_method_31_code 117 = .ok (.iload 7, 2) := by decide +kernel
theorem d_124_119 : decode prog_11_method_31_code 119 = .ok (.ifCond .ne 9, 3) := by decide +kernel
theorem d_124_122 : decode prog_11_method_31_code 122 = .ok (.sipush 480, 3) := by decide +kernel
theorem d_124_125 : decode prog_11_method_31_code 125 = .ok (.goto 4, 3) := by decide +kernel
theorem d_124_128 : decode prog_11_method_31_code 128 = .ok (.iconst 0, 1) := by decide +kernel
theorem d_124_129 : decode prog_11_method_31_code 129 = .ok (.istore 8, 2) := by decide +kernel
theorem d_124_131 : decode prog_11_method_31_code 131 = .ok (.iload 8, 2) := by decide +kernel
theorem d_124_133 : decode prog_11_method_31_code 133 = .ok (.ifCond .le 7, 3) := by decide +kernel
theorem d_124_136 : decode prog_11_method_31_code 136 = .ok (.iconst 1, 1) := by decide +kernel
theorem d_124_137 : decode prog_11_method_31_code 137 = .ok (.goto 7, 3) := by decide +kernel
theorem d_124_140 : decode prog_11_method_31_code 140 = .ok (.iconst 1, 1) := by decide +kernel
theorem d_124_141 : decode prog_11_method_31_code 141 = .ok (.iload 7, 2) := by decide +kernel
theorem d_124_143 : decode prog_11_method_31_code 143 = .ok (.iadd, 1) := by decide +kernel
theorem d_124_144 : decode prog_11_method_31_code 144 = .ok (.istore 9, 2) := by decide +kernel
theorem d_124_146 : decode prog_11_method_31_code 146 = .ok (.aload_n 0, 1) := by decide +kernel
theorem d_124_147 : decode prog_11_method_31_code 147 = .ok (.invokevirtual 184, 3) := by decide +kernel
theorem d_124_150 : decode prog_11_method_31_code 150 = .ok (.iload 9, 2) := by decide +kernel
theorem d_124_152 : decode prog_11_method_31_code 152 = .ok (.iadd, 1) := by decide +kernel
theorem d_124_153 : decode prog_11_method_31_code 153 = .ok (.bipush 12, 2) := by decide +kernel
theorem d_124_155 : decode prog_11_method_31_code 155 = .ok (.if_icmp .le 15, 3) := by decide +kernel
theorem d_124_158 : decode prog_11_method_31_code 158 = .ok (.aload_n 0, 1) := by decide +kernel
theorem d_124_159 : decode prog_11_method_31_code 159 = .ok (.iload_n 1, 1) := by decide +kernel
theorem d_124_160 : decode prog_11_method_31_code 160 = .ok (.bipush 7, 2) := by decide +kernel
theorem d_124_162 : decode prog_11_method_31_code 162 = .ok (.sipush 503, 3) := by decide +kernel
theorem d_124_165 : decode prog_11_method_31_code 165 = .ok (.invokevirtual 138, 3) := by decide +kernel
theorem d_124_168 : decode prog_11_method_31_code 168 = .ok (.iconst 1, 1) := by decide +kernel
theorem d_124_169 : decode prog_11_method_31_code 169 = .ok (.ireturn, 1) := by decide +kernel
theorem d_124_170 : decode prog_11_method_31_code 170 = .ok (.iconst 0, 1) := by decide +kernel
theorem d_124_171 : decode prog_11_method_31_code 171 = .ok (.istore 10, 2) := by decide +kernel
theorem d_124_173 : decode prog_11_method_31_code 173 = .ok (.iload 10, 2) := by decide +kernel
theorem d_124_175 : decode prog_11_method_31_code 175 = .ok (.iconst 4, 1) := by decide +kernel
theorem d_124_176 : decode prog_11_method_31_code 176 = .ok (.if_icmp .ge 21, 3) := by decide +kernel
theorem d_124_179 : decode prog_11_method_31_code 179 = .ok (.aload_n 0, 1) := by decide +kernel
theorem d_124_180 : decode prog_11_method_31_code 180 = .ok (.getfield 47, 3) := by decide +kernel
theorem d_124_183 : decode prog_11_method_31_code 183 = .ok (.iconst 4, 1) := by decide +kernel
theorem d_124_184 : decode prog_11_method_31_code 184 = .ok (.iload_n 1, 1) := by decide +kernel
theorem d_124_185 : decode prog_11_method_31_code 185 = .ok (.imul, 1) := by decide +kernel
theorem d_124_186 : decode prog_11_method_31_code 186 = .ok (.iload 10, 2) := by decide +kernel
theorem d_124_188 : decode prog_11_method_31_code 188 = .ok (.iadd, 1) := by decide +kernel
theorem d_124_189 : decode prog_11_method_31_code 189 = .ok (.iconst 0, 1) := by decide +kernel
theorem d_124_190 : decode prog_11_method_31_code 190 = .ok (.iastore, 1) := by decide +kernel
theorem d_124_191 : decode prog_11_method_31_code 191 = .ok (.iinc 10 1, 3) := by decide +kernel
theorem d_124_194 : decode prog_11_method_31_code 194 = .ok (.goto (-21), 3) := by decide +kernel
theorem d_124_197 : decode prog_11_method_31_code 197 = .ok (.aload_n 0, 1) := by decide +kernel
theorem d_124_198 : decode prog_11_method_31_code 198 = .ok (.getfield 53, 3) := by decide +kernel
theorem d_124_201 : decode prog_11_method_31_code 201 = .ok (.iload_n 1, 1) := by decide +kernel
theorem d_124_202 : decode prog_11_method_31_code 202 = .ok (.iconst 0, 1) := by decide +kernel
theorem d_124_203 : decode prog_11_method_31_code 203 = .ok (.iastore, 1) := by decide +kernel
theorem d_124_204 : decode prog_11_method_31_code 204 = .ok (.iload 8, 2) := by decide +kernel
theorem d_124_206 : decode prog_11_method_31_code 206 = .ok (.ifCond .le 12, 3) := by decide +kernel
theorem d_124_209 : decode prog_11_method_31_code 209 = .ok (.aload_n 0, 1) := by decide +kernel
theorem d_124_210 : decode prog_11_method_31_code 210 = .ok (.iload_n 1, 1) := by decide +kernel
theorem d_124_211 : decode prog_11_method_31_code 211 = .ok (.iload 8, 2) := by decide +kernel
theorem d_124_213 : decode prog_11_method_31_code 213 = .ok (.invokevirtual 165, 3) := by decide +kernel
theorem d_124_216 : decode prog_11_method_31_code 216 = .ok (.iconst 1, 1) := by decide +kernel
theorem d_124_217 : decode prog_11_method_31_code 217 = .ok (.ireturn, 1) := by decide +kernel
theorem d_124_218 : decode prog_11_method_31_code 218 = .ok (.aload_n 0, 1) := by decide +kernel
theorem d_124_219 : decode prog_11_method_31_code 219 = .ok (.iload_n 1, 1) := by decide +kernel
theorem d_124_220 : decode prog_11_method_31_code 220 = .ok (.iconst 1, 1) := by decide +kernel
theorem d_124_221 : decode prog_11_method_31_code 221 = .ok (.invokevirtual 150, 3) := by decide +kernel
theorem d_124_224 : decode prog_11_method_31_code 224 = .ok (.aload_n 0, 1) := by decide +kernel
theorem d_124_225 : decode prog_11_method_31_code 225 = .ok (.iload_n 1, 1) := by decide +kernel
theorem d_124_226 : decode prog_11_method_31_code 226 = .ok (.bipush 100, 2) := by decide +kernel
theorem d_124_228 : decode prog_11_method_31_code 228 = .ok (.invokevirtual 146, 3) := by decide +kernel
theorem d_124_231 : decode prog_11_method_31_code 231 = .ok (.aload_n 0, 1) := by decide +kernel
theorem d_124_232 : decode prog_11_method_31_code 232 = .ok (.getfield 53, 3) := by decide +kernel
theorem d_124_235 : decode prog_11_method_31_code 235 = .ok (.iload_n 1, 1) := by decide +kernel
theorem d_124_236 : decode prog_11_method_31_code 236 = .ok (.iload 7, 2) := by decide +kernel
theorem d_124_238 : decode prog_11_method_31_code 238 = .ok (.iastore, 1) := by decide +kernel
theorem d_124_239 : decode prog_11_method_31_code 239 = .ok (.iconst 0, 1) := by decide +kernel
theorem d_124_240 : decode prog_11_method_31_code 240 = .ok (.istore 10, 2) := by decide +kernel
theorem d_124_242 : decode prog_11_method_31_code 242 = .ok (.iload 10, 2) := by decide +kernel
theorem d_124_244 : decode prog_11_method_31_code 244 = .ok (.iload 7, 2) := by decide +kernel
theorem d_124_246 : decode prog_11_method_31_code 246 = .ok (.if_icmp .ge 27, 3) := by decide +kernel
theorem d_124_249 : decode prog_11_method_31_code 249 = .ok (.aload_n 0, 1) := by decide +kernel
theorem d_124_250 : decode prog_11_method_31_code 250 = .ok (.iload_n 2, 1) := by decide +kernel
theorem d_124_251 : decode prog_11_method_31_code 251 = .ok (.iload 10, 2) := by decide +kernel
theorem d_124_253 : decode prog_11_method_31_code 253 = .ok (.invokevirtual 126, 3) := by decide +kernel
theorem d_124_256 : decode prog_11_method_31_code 256 = .ok (.istore 11, 2) := by decide +kernel
theorem d_124_258 : decode prog_11_method_31_code 258 = .ok (.aload_n 0, 1) := by decide +kernel
theorem d_124_259 : decode prog_11_method_31_code 259 = .ok (.iload_n 1, 1) := by decide +kernel
theorem d_124_260 : decode prog_11_method_31_code 260 = .ok (.iload 10, 2) := by decide +kernel
theorem d_124_262 : decode prog_11_method_31_code 262 = .ok (.iload 11, 2) := by decide +kernel
theorem d_124_264 : decode prog_11_method_31_code 264 = .ok (.invokevirtual 188, 3) := by decide +kernel
theorem d_124_267 : decode prog_11_method_31_code 267 = .ok (.iinc 10 1, 3) := by decide +kernel
theorem d_124_270 : decode prog_11_method_31_code 270 = .ok (.goto (-28), 3) := by decide +kernel
theorem d_124_273 : decode prog_11_method_31_code 273 = .ok (.aload_n 0, 1) := by decide +kernel
theorem d_124_274 : decode prog_11_method_31_code 274 = .ok (.getfield 133, 3) := by decide +kernel
theorem d_124_277 : decode prog_11_method_31_code 277 = .ok (.iload 5, 2) := by decide +kernel
theorem d_124_279 : decode prog_11_method_31_code 279 = .ok (.isub, 1) := by decide +kernel
theorem d_124_280 : decode prog_11_method_31_code 280 = .ok (.ireturn, 1) := by decide +kernel
theorem d_125_0 : decode prog_11_method_32_code 0 = .ok (.aload_n 0, 1) := by decide +kernel
theorem d_125_1 : decode prog_11_method_32_code 1 = .ok (.iload_n 1, 1) := by decide +kernel
theorem d_125_2 : decode prog_11_method_32_code 2 = .ok (.iload_n 2, 1) := by decide +kernel
theorem d_125_3 : decode prog_11_method_32_code 3 = .ok (.invokevirtual 191, 3) := by decide +kernel
theorem d_125_6 : decode prog_11_method_32_code 6 = .ok (.ifCond .eq 15, 3) := by decide +kernel
theorem d_125_9 : decode prog_11_method_32_code 9 = .ok (.iload_n 3, 1) := by decide +kernel
theorem d_125_10 : decode prog_11_method_32_code 10 = .ok (.bipush 100, 2) := by decide +kernel
theorem d_125_12 : decode prog_11_method_32_code 12 = .ok (.sipush 699, 3) := by decide +kernel
theorem d_125_15 : decode prog_11_method_32_code 15 = .ok (.invokestatic 94, 3) := by decide +kernel
theorem d_125_18 : decode prog_11_method_32_code 18 = .ok (.ifCond .ne 5, 3) := by decide +kernel
theorem d_125_21 : decode prog_11_method_32_code 21 = .ok (.iconst (-1), 1) := by decide +kernel
theorem d_125_22 : decode prog_11_method_32_code 22 = .ok (.ireturn, 1) := by decide +kernel
theorem d_125_23 : decode prog_11_method_32_code 23 = .ok (.aload_n 0, 1) := by decide +kernel
theorem d_125_24 : decode prog_11_method_32_code 24 = .ok (.getfield 133, 3) := by decide +kernel
theorem d_125_27 : decode prog_11_method_32_code 27 = .ok (.istore 4, 2) := by decide +kernel
theorem d_125_29 : decode prog_11_method_32_code 29 = .ok (.aload_n 0, 1) := by decide +kernel
theorem d_125_30 : decode prog_11_method_32_code 30 = .ok (.iload_n 1, 1) := by decide +kernel
theorem d_125_31 : decode prog_11_method_32_code 31 = .ok (.iload_n 2, 1) := by decide +kernel
theorem d_125_32 : decode prog_11_method_32_code 32 = .ok (.iload_n 3, 1) := by decide +kernel
theorem d_125_33 : decode prog_11_method_32_code 33 = .ok (.invokevirtual 194, 3) := by decide +kernel
theorem d_125_36 : decode prog_11_method_32_code 36 = .ok (.aload_n 0, 1) := by decide +kernel
theorem d_125_37 : decode prog_11_method_32_code 37 = .ok (.getfield 133, 3) := by decide +kernel
theorem d_125_40 : decode prog_11_method_32_code 40 = .ok (.iload 4, 2) := by decide +kernel
theorem d_125_42 : decode prog_11_method_32_code 42 = .ok (.isub, 1) := by decide +kernel
theorem d_125_43 : decode prog_11_method_32_code 43 = .ok (.ireturn, 1) := by decide +kernel
theorem d_126_0 : decode prog_11_method_33_code 0 = .ok (.aload_n 0, 1) := by decide +kernel
theorem d_126_1 : decode prog_11_method_33_code 1 = .ok (.iload_n 1, 1) := by decide +kernel
theorem d_126_2 : decode prog_11_method_33_code 2 = .ok (.iload_n 2, 1) := by decide +kernel
theorem d_126_3 : decode prog_11_method_33_code 3 = .ok (.invokevirtual 191, 3) := by decide +kernel
theorem d_126_6 : decode prog_11_method_33_code 6 = .ok (.ifCond .ne 5, 3) := by decide +kernel
theorem d_126_9 : decode prog_11_method_33_code 9 = .ok (.iconst 0, 1) := by decide +kernel
theorem d_126_10 : decode prog_11_method_33_code 10 = .ok (.ireturn, 1) := by decide +kernel
theorem d_126_11 : decode prog_11_method_33_code 11 = .ok (.bipush 6, 2) := by decide +kernel
theorem d_126_13 : decode prog_11_method_33_code 13 = .ok (.iconst 4, 1) := by decide +kernel
theorem d_126_14 : decode prog_11_method_33_code 14 = .ok (.iload_n 1, 1) := by decide +kernel
theorem d_126_15 : decode prog_11_method_33_code 15 = .ok (.imul, 1) := by decide +kernel
theorem d_126_16 : decode prog_11_method_33_code 16 = .ok (.iload_n 2, 1) := by decide +kernel
theorem d_126_17 : decode prog_11_method_33_code 17 = .ok (.iadd, 1) := by decide +kernel
theorem d_126_18 : decode prog_11_method_33_code 18 = .ok (.imul, 1) := by decide +kernel
theorem d_126_19 : decode prog_11_method_33_code 19 = .ok (.iconst 4, 1) := by decide +kernel
theorem d_126_20 : decode prog_11_method_33_code 20 = .ok (.iadd, 1) := by decide +kernel
theorem d_126_21 : decode prog_11_method_33_code 21 = .ok (.istore_n 3, 1) := by decide +kernel
theorem d_126_22 : decode prog_11_method_33_code 22 = .ok (.aload_n 0, 1) := by decide +kernel
theorem d_126_23 : decode prog_11_method_33_code 23 = .ok (.getfield 74, 3) := by decide +kernel
theorem d_126_26 : decode prog_11_method_33_code 26 = .ok (.iload_n 3, 1) := by decide +kernel
theorem d_126_27 : decode prog_11_method_33_code 27 = .ok (.iaload, 1) := by decide +kernel
theorem d_126_28 : decode prog_11_method_33_code 28 = .ok (.ifCond .eq 7, 3) := by decide +kernel
theorem d_126_31 : decode prog_11_method_33_code 31 = .ok (.iconst 1, 1) := by decide +kernel
theorem d_126_32 : decode prog_11_method_33_code 32 = .ok (.goto 4, 3) := by decide +kernel
theorem d_126_35 : decode prog_11_method_33_code 35 = .ok (.iconst 0, 1) := by decide +kernel
theorem d_126_36 : decode prog_11_method_33_code 36 = .ok (.istore 4, 2) := by decide +kernel
theorem d_126_38 : decode prog_11_method_33_code 38 = .ok (.aload_n 0, 1) := by decide +kernel
theorem d_126_39 : decode prog_11_method_33_code 39 = .ok (.getfield 74, 3) := by decide +kernel
theorem d_126_42 : decode prog_11_method_33_code 42 = .ok (.iload_n 3, 1) := by decide +kernel
theorem d_126_43 : decode prog_11_method_33_code 43 = .ok (.iconst 0, 1) := by decide +kernel
theorem d_126_44 : decode prog_11_method_33_code 44 = .ok (.iastore, 1) := by decide +kernel
theorem d_126_45 : decode prog_11_method_33_code 45 = .ok (.iload 4, 2) := by decide +kernel
theorem d_126_47 : decode prog_11_method_33_code 47 = .ok (.ireturn, 1) := by decide +kernel
theorem d_127_0 : decode prog_11_method_34_code 0 = .ok (.aload_n 0, 1) := by decide +kernel
theorem d_127_1 : decode prog_11_method_34_code 1 = .ok (.iload_n 1, 1) := by decide +kernel
theorem d_127_2 : decode prog_11_method_34_code 2 = .ok (.invokevirtual 142, 3) := by decide +kernel
theorem d_127_5 : decode prog_11_method_34_code 5 = .ok (.ifCond .ne 5, 3) := by decide +kernel
theorem d_127_8 : decode prog_11_method_34_code 8 = .ok (.iconst (-1), 1) := by decide +kernel
theorem d_127_9 : decode prog_11_method_34_code 9 = .ok (.ireturn, 1) := by decide +kernel
theorem d_127_10 : decode prog_11_method_34_code 10 = .ok (.aload_n 0, 1) := by decide +kernel
theorem d_127_11 : decode prog_11_method_34_code 11 = .ok (.getfield 133, 3) := by decide +kernel
theorem d_127_14 : decode prog_11_method_34_code 14 = .ok (.istore_n 2, 1) := by decide +kernel
theorem d_127_15 : decode prog_11_method_34_code 15 = .ok (.aload_n 0, 1) := by decide +kernel
theorem d_127_16 : decode prog_11_method_34_code 16 = .ok (.getfield 41, 3) := by decide +kernel
theorem d_127_19 : decode prog_11_method_34_code 19 = .ok (.iload_n 1, 1) := by decide +kernel
theorem d_127_20 : decode prog_11_method_34_code 20 = .ok (.iaload, 1) := by decide +kernel
theorem d_127_21 : decode prog_11_method_34_code 21 = .ok (.iconst 1, 1) := by decide +kernel
theorem d_127_22 : decode prog_11_method_34_code 22 = .ok (.if_icmp .ne 9, 3) := by decide +kernel
theorem d_127_25 : decode prog_11_method_34_code 25 = .ok (.aload_n 0, 1) := by decide +kernel
theorem d_127_26 : decode prog_11_method_34_code 26 = .ok (.iload_n 1, 1) := by decide +kernel
theorem d_127_27 : decode prog_11_method_34_code 27 = .ok (.iconst (-1), 1) := by decide +kernel
theorem d_127_28 : decode prog_11_method_34_code 28 = .ok (.invokevirtual 181, 3) := by decide +kernel
theorem d_127_31 : decode prog_11_method_34_code 31 = .ok (.aload_n 0, 1) := by decide +kernel
theorem d_127_32 : decode prog_11_method_34_code 32 = .ok (.getfield 133, 3) := by decide +kernel
theorem d_127_35 : decode prog_11_method_34_code 35 = .ok (.iload_n 2, 1) := by decide +kernel
theorem d_127_36 : decode prog_11_method_34_code 36 = .ok (.isub, 1) := by decide +kernel
theorem d_127_37 : decode prog_11_method_34_code 37 = .ok (.ireturn, 1) := by decide +kernel
theorem d_128_0 : decode prog_11_method_35_code 0 = .ok (.aload_n 0, 1) := by decide +kernel
theorem d_128_1 : decode prog_11_method_35_code 1 = .ok (.iload_n 1, 1) := by decide +kernel
theorem d_128_2 : decode prog_11_method_35_code 2 = .ok (.invokevirtual 142, 3) := by decide +kernel
theorem d_128_5 : decode prog_11_method_35_code 5 = .ok (.ifCond .eq 13, 3) := by decide +kernel
theorem d_128_8 : decode prog_11_method_35_code 8 = .ok (.aload_n 0, 1) := by decide +kernel
theorem d_128_9 : decode prog_11_method_35_code 9 = .ok (.getfield 41, 3) := by decide +kernel
theorem d_128_12 : decode prog_11_method_35_code 12 = .ok (.iload_n 1, 1) := by decide +kernel
theorem d_128_13 : decode prog_11_method_35_code 13 = .ok (.iaload, 1) := by decide +kernel
theorem d_128_14 : decode prog_11_method_35_code 14 = .ok (.iconst 2, 1) := by decide +kernel
theorem d_128_15 : decode prog_11_method_35_code 15 = .ok (.if_icmp .eq 5, 3) := by decide +kernel
theorem d_128_18 : decode prog_11_method_35_code 18 = .ok (.iconst 0, 1) := by decide +kernel
theorem d_128_19 : decode prog_11_method_35_code 19 = .ok (.ireturn, 1) := by decide +kernel
theorem d_128_20 : decode prog_11_method_35_code 20 = .ok (.aload_n 0, 1) := by decide +kernel
theorem d_128_21 : decode prog_11_method_35_code 21 = .ok (.iload_n 1, 1) := by decide +kernel
theorem d_128_22 : decode prog_11_method_35_code 22 = .ok (.iconst 3, 1) := by decide +kernel
theorem d_128_23 : decode prog_11_method_35_code 23 = .ok (.invokevirtual 150, 3) := by decide +kernel
theorem d_128_26 : decode prog_11_method_35_code 26 = .ok (.aload_n 0, 1) := by decide +kernel
theorem d_128_27 : decode prog_11_method_35_code 27 = .ok (.getfield 47, 3) := by decide +kernel
theorem d_128_30 : decode prog_11_method_35_code 30 = .ok (.iconst 4, 1) := by decide +kernel
theorem d_128_31 : decode prog_11_method_35_code 31 = .ok (.iload_n 1, 1) := by decide +kernel
theorem d_128_32 : decode prog_11_method_35_code 32 = .ok (.imul, 1) := by decide +kernel
theorem d_128_33 : decode prog_11_method_35_code 33 = .ok (.iconst 2, 1) := by decide +kernel
theorem d_128_34 : decode prog_11_method_35_code 34 = .ok (.iadd, 1) := by decide +kernel
theorem d_128_35 : decode prog_11_method_35_code 35 = .ok (.aload_n 0, 1) := by decide +kernel
theorem d_128_36 : decode prog_11_method_35_code 36 = .ok (.getfield 99, 3) := by decide +kernel
theorem d_128_39 : decode prog_11_method_35_code 39 = .ok (.bipush 8, 2) := by decide +kernel
theorem d_128_41 : decode prog_11_method_35_code 41 = .ok (.aload_n 0, 1) := by decide +kernel
theorem d_128_42 : decode prog_11_method_35_code 42 = .ok (.getfield 87, 3) := by decide +kernel
theorem d_128_45 : decode prog_11_method_35_code 45 = .ok (.imul, 1) := by decide +kernel
theorem d_128_46 : decode prog_11_method_35_code 46 = .ok (.iadd, 1) := by decide +kernel
theorem d_128_47 : decode prog_11_method_35_code 47 = .ok (.iastore, 1) := by decide +kernel
theorem d_128_48 : decode prog_11_method_35_code 48 = .ok (.iconst 1, 1) := by decide +kernel
theorem d_128_49 : decode prog_11_method_35_code 49 = .ok (.ireturn, 1) := by decide +kernel
theorem d_129_0 : decode prog_11_method_36_code 0 = .ok (.iconst 2, 1) := by decide +kernel
theorem d_129_1 : decode prog_11_method_36_code 1 = .ok (.iload_n 1, 1) := by decide +kernel
theorem d_129_2 : decode prog_11_method_36_code 2 = .ok (.imul, 1) := by decide +kernel
theorem d_129_3 : decode prog_11_method_36_code 3 = .ok (.bipush 8, 2) := by decide +kernel
theorem d_129_5 : decode prog_11_method_36_code 5 = .ok (.aload_n 0, 1) := by decide +kernel
theorem d_129_6 : decode prog_11_method_36_code 6 = .ok (.getfield 87, 3) := by decide +kernel
theorem d_129_9 : decode prog_11_method_36_code 9 = .ok (.imul, 1) := by decide +kernel
theorem d_129_10 : decode prog_11_method_36_code 10 = .ok (.if_icmp .ge 9, 3) := by decide +kernel
theorem d_129_13 : decode prog_11_method_36_code 13 = .ok (.iconst 2, 1) := by decide +kernel
theorem d_129_14 : decode prog_11_method_36_code 14 = .ok (.iload_n 1, 1) := by decide +kernel
theorem d_129_15 : decode prog_11_method_36_code 15 = .ok (.imul, 1) := by decide +kernel
theorem d_129_16 : decode prog_11_method_36_code 16 = .ok (.goto 10, 3) := by decide +kernel
theorem d_129_19 : decode prog_11_method_36_code 19 = .ok (.bipush 8, 2) := by decide +kernel
theorem d_129_21 : decode prog_11_method_36_code 21 = .ok (.aload_n 0, 1) := by decide +kernel
theorem d_129_22 : decode prog_11_method_36_code 22 = .ok (.getfield 87, 3) := by decide +kernel
theorem d_129_25 : decode prog_11_method_36_code 25 = .ok (.imul, 1) := by decide +kernel
theorem d_129_26 : decode prog_11_method_36_code 26 = .ok (.ireturn, 1) := by decide +kernel
