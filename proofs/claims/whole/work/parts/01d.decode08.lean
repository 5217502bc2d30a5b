theorem d_130_0 : decode prog_11_method_37_code 0 = .ok (.iconst 4, 1) := by decide +kernel
theorem d_130_1 : decode prog_11_method_37_code 1 = .ok (.iload_n 1, 1) := by decide +kernel
theorem d_130_2 : decode prog_11_method_37_code 2 = .ok (.imul, 1) := by decide +kernel
theorem d_130_3 : decode prog_11_method_37_code 3 = .ok (.istore_n 2, 1) := by decide +kernel
theorem d_130_4 : decode prog_11_method_37_code 4 = .ok (.aload_n 0, 1) := by decide +kernel
theorem d_130_5 : decode prog_11_method_37_code 5 = .ok (.getfield 47, 3) := by decide +kernel
theorem d_130_8 : decode prog_11_method_37_code 8 = .ok (.iload_n 2, 1) := by decide +kernel
theorem d_130_9 : decode prog_11_method_37_code 9 = .ok (.iaload, 1) := by decide +kernel
theorem d_130_10 : decode prog_11_method_37_code 10 = .ok (.aload_n 0, 1) := by decide +kernel
theorem d_130_11 : decode prog_11_method_37_code 11 = .ok (.getfield 99, 3) := by decide +kernel
theorem d_130_14 : decode prog_11_method_37_code 14 = .ok (.if_icmp .ne 47, 3) := by decide +kernel
theorem d_130_17 : decode prog_11_method_37_code 17 = .ok (.aload_n 0, 1) := by decide +kernel
theorem d_130_18 : decode prog_11_method_37_code 18 = .ok (.iload_n 1, 1) := by decide +kernel
theorem d_130_19 : decode prog_11_method_37_code 19 = .ok (.aload_n 0, 1) := by decide +kernel
theorem d_130_20 : decode prog_11_method_37_code 20 = .ok (.getfield 44, 3) := by decide +kernel
theorem d_130_23 : decode prog_11_method_37_code 23 = .ok (.iload_n 1, 1) := by decide +kernel
theorem d_130_24 : decode prog_11_method_37_code 24 = .ok (.iaload, 1) := by decide +kernel
theorem d_130_25 : decode prog_11_method_37_code 25 = .ok (.invokevirtual 146, 3) := by decide +kernel
theorem d_130_28 : decode prog_11_method_37_code 28 = .ok (.aload_n 0, 1) := by decide +kernel
theorem d_130_29 : decode prog_11_method_37_code 29 = .ok (.getfield 50, 3) := by decide +kernel
theorem d_130_32 : decode prog_11_method_37_code 32 = .ok (.iload_n 1, 1) := by decide +kernel
theorem d_130_33 : decode prog_11_method_37_code 33 = .ok (.aload_n 0, 1) := by decide +kernel
theorem d_130_34 : decode prog_11_method_37_code 34 = .ok (.aload_n 0, 1) := by decide +kernel
theorem d_130_35 : decode prog_11_method_37_code 35 = .ok (.getfield 50, 3) := by decide +kernel
theorem d_130_38 : decode prog_11_method_37_code 38 = .ok (.iload_n 1, 1) := by decide +kernel
theorem d_130_39 : decode prog_11_method_37_code 39 = .ok (.iaload, 1) := by decide +kernel
theorem d_130_40 : decode prog_11_method_37_code 40 = .ok (.invokevirtual 197, 3) := by decide +kernel
theorem d_130_43 : decode prog_11_method_37_code 43 = .ok (.iastore, 1) := by decide +kernel
theorem d_130_44 : decode prog_11_method_37_code 44 = .ok (.aload_n 0, 1) := by decide +kernel
theorem d_130_45 : decode prog_11_method_37_code 45 = .ok (.getfield 47, 3) := by decide +kernel
theorem d_130_48 : decode prog_11_method_37_code 48 = .ok (.iload_n 2, 1) := by decide +kernel
theorem d_130_49 : decode prog_11_method_37_code 49 = .ok (.aload_n 0, 1) := by decide +kernel
theorem d_130_50 : decode prog_11_method_37_code 50 = .ok (.getfield 99, 3) := by decide +kernel
theorem d_130_53 : decode prog_11_method_37_code 53 = .ok (.aload_n 0, 1) := by decide +kernel
theorem d_130_54 : decode prog_11_method_37_code 54 = .ok (.getfield 50, 3) := by decide +kernel
theorem d_130_57 : decode prog_11_method_37_code 57 = .ok (.iload_n 1, 1) := by decide +kernel
theorem d_130_58 : decode prog_11_method_37_code 58 = .ok (.iaload, 1) := by decide +kernel
theorem d_130_59 : decode prog_11_method_37_code 59 = .ok (.iadd, 1) := by decide +kernel
theorem d_130_60 : decode prog_11_method_37_code 60 = .ok (.iastore, 1) := by decide +kernel
theorem d_130_61 : decode prog_11_method_37_code 61 = .ok (.aload_n 0, 1) := by decide +kernel
theorem d_130_62 : decode prog_11_method_37_code 62 = .ok (.getfield 47, 3) := by decide +kernel
theorem d_130_65 : decode prog_11_method_37_code 65 = .ok (.iload_n 2, 1) := by decide +kernel
theorem d_130_66 : decode prog_11_method_37_code 66 = .ok (.iconst 1, 1) := by decide +kernel
theorem d_130_67 : decode prog_11_method_37_code 67 = .ok (.iadd, 1) := by decide +kernel
theorem d_130_68 : decode prog_11_method_37_code 68 = .ok (.iaload, 1) := by decide +kernel
theorem d_130_69 : decode prog_11_method_37_code 69 = .ok (.aload_n 0, 1) := by decide +kernel
theorem d_130_70 : decode prog_11_method_37_code 70 = .ok (.getfield 99, 3) := by decide +kernel
theorem d_130_73 : decode prog_11_method_37_code 73 = .ok (.if_icmp .eq 33, 3) := by decide +kernel
theorem d_130_76 : decode prog_11_method_37_code 76 = .ok (.aload_n 0, 1) := by decide +kernel
theorem d_130_77 : decode prog_11_method_37_code 77 = .ok (.getfield 47, 3) := by decide +kernel
theorem d_130_80 : decode prog_11_method_37_code 80 = .ok (.iload_n 2, 1) := by decide +kernel
theorem d_130_81 : decode prog_11_method_37_code 81 = .ok (.iconst 2, 1) := by decide +kernel
theorem d_130_82 : decode prog_11_method_37_code 82 = .ok (.iadd, 1) := by decide +kernel
theorem d_130_83 : decode prog_11_method_37_code 83 = .ok (.iaload, 1) := by decide +kernel
theorem d_130_84 : decode prog_11_method_37_code 84 = .ok (.aload_n 0, 1) := by decide +kernel
theorem d_130_85 : decode prog_11_method_37_code 85 = .ok (.getfield 99, 3) := by decide +kernel
theorem d_130_88 : decode prog_11_method_37_code 88 = .ok (.if_icmp .eq 18, 3) := by decide +kernel
theorem d_130_91 : decode prog_11_method_37_code 91 = .ok (.aload_n 0, 1) := by decide +kernel
theorem d_130_92 : decode prog_11_method_37_code 92 = .ok (.getfield 47, 3) := by decide +kernel
theorem d_130_95 : decode prog_11_method_37_code 95 = .ok (.iload_n 2, 1) := by decide +kernel
theorem d_130_96 : decode prog_11_method_37_code 96 = .ok (.iconst 3, 1) := by decide +kernel
theorem d_130_97 : decode prog_11_method_37_code 97 = .ok (.iadd, 1) := by decide +kernel
theorem d_130_98 : decode prog_11_method_37_code 98 = .ok (.iaload, 1) := by decide +kernel
theorem d_130_99 : decode prog_11_method_37_code 99 = .ok (.aload_n 0, 1) := by decide +kernel
theorem d_130_100 : decode prog_11_method_37_code 100 = .ok (.getfield 99, 3) := by decide +kernel
theorem d_130_103 : decode prog_11_method_37_code 103 = .ok (.if_icmp .ne 7, 3) := by decide +kernel
theorem d_130_106 : decode prog_11_method_37_code 106 = .ok (.iconst 1, 1) := by decide +kernel
theorem d_130_107 : decode prog_11_method_37_code 107 = .ok (.goto 4, 3) := by decide +kernel
theorem d_130_110 : decode prog_11_method_37_code 110 = .ok (.iconst 0, 1) := by decide +kernel
theorem d_130_111 : decode prog_11_method_37_code 111 = .ok (.istore_n 3, 1) := by decide +kernel
theorem d_130_112 : decode prog_11_method_37_code 112 = .ok (.iload_n 3, 1) := by decide +kernel
theorem d_130_113 : decode prog_11_method_37_code 113 = .ok (.ifCond .eq 9, 3) := by decide +kernel
theorem d_130_116 : decode prog_11_method_37_code 116 = .ok (.aload_n 0, 1) := by decide +kernel
theorem d_130_117 : decode prog_11_method_37_code 117 = .ok (.iload_n 1, 1) := by decide +kernel
theorem d_130_118 : decode prog_11_method_37_code 118 = .ok (.iconst 5, 1) := by decide +kernel
theorem d_130_119 : decode prog_11_method_37_code 119 = .ok (.invokevirtual 150, 3) := by decide +kernel
theorem d_130_122 : decode prog_11_method_37_code 122 = .ok (.return_, 1) := by decide +kernel
theorem d_131_0 : decode prog_11_method_38_code 0 = .ok (.iconst 4, 1) := by decide +kernel
theorem d_131_1 : decode prog_11_method_38_code 1 = .ok (.iload_n 1, 1) := by decide +kernel
theorem d_131_2 : decode prog_11_method_38_code 2 = .ok (.imul, 1) := by decide +kernel
theorem d_131_3 : decode prog_11_method_38_code 3 = .ok (.iload_n 2, 1) := by decide +kernel
theorem d_131_4 : decode prog_11_method_38_code 4 = .ok (.iadd, 1) := by decide +kernel
theorem d_131_5 : decode prog_11_method_38_code 5 = .ok (.istore_n 3, 1) := by decide +kernel
theorem d_131_6 : decode prog_11_method_38_code 6 = .ok (.bipush 6, 2) := by decide +kernel
theorem d_131_8 : decode prog_11_method_38_code 8 = .ok (.iload_n 3, 1) := by decide +kernel
theorem d_131_9 : decode prog_11_method_38_code 9 = .ok (.imul, 1) := by decide +kernel
theorem d_131_10 : decode prog_11_method_38_code 10 = .ok (.istore 4, 2) := by decide +kernel
theorem d_131_12 : decode prog_11_method_38_code 12 = .ok (.aload_n 0, 1) := by decide +kernel
theorem d_131_13 : decode prog_11_method_38_code 13 = .ok (.getfield 74, 3) := by decide +kernel
theorem d_131_16 : decode prog_11_method_38_code 16 = .ok (.iload 4, 2) := by decide +kernel
theorem d_131_18 : decode prog_11_method_38_code 18 = .ok (.iaload, 1) := by decide +kernel
theorem d_131_19 : decode prog_11_method_38_code 19 = .ok (.aload_n 0, 1) := by decide +kernel
theorem d_131_20 : decode prog_11_method_38_code 20 = .ok (.getfield 99, 3) := by decide +kernel
theorem d_131_23 : decode prog_11_method_38_code 23 = .ok (.if_icmp .ne 42, 3) := by decide +kernel
theorem d_131_26 : decode prog_11_method_38_code 26 = .ok (.aload_n 0, 1) := by decide +kernel
theorem d_131_27 : decode prog_11_method_38_code 27 = .ok (.iload_n 1, 1) := by decide +kernel
theorem d_131_28 : decode prog_11_method_38_code 28 = .ok (.iload_n 2, 1) := by decide +kernel
theorem d_131_29 : decode prog_11_method_38_code 29 = .ok (.iconst 1, 1) := by decide +kernel
theorem d_131_30 : decode prog_11_method_38_code 30 = .ok (.invokevirtual 138, 3) := by decide +kernel
theorem d_131_33 : decode prog_11_method_38_code 33 = .ok (.aload_n 0, 1) := by decide +kernel
theorem d_131_34 : decode prog_11_method_38_code 34 = .ok (.getfield 77, 3) := by decide +kernel
theorem d_131_37 : decode prog_11_method_38_code 37 = .ok (.iload_n 3, 1) := by decide +kernel
theorem d_131_38 : decode prog_11_method_38_code 38 = .ok (.iconst 2, 1) := by decide +kernel
theorem d_131_39 : decode prog_11_method_38_code 39 = .ok (.aload_n 0, 1) := by decide +kernel
theorem d_131_40 : decode prog_11_method_38_code 40 = .ok (.getfield 77, 3) := by decide +kernel
theorem d_131_43 : decode prog_11_method_38_code 43 = .ok (.iload_n 3, 1) := by decide +kernel
theorem d_131_44 : decode prog_11_method_38_code 44 = .ok (.iaload, 1) := by decide +kernel
theorem d_131_45 : decode prog_11_method_38_code 45 = .ok (.imul, 1) := by decide +kernel
theorem d_131_46 : decode prog_11_method_38_code 46 = .ok (.iastore, 1) := by decide +kernel
theorem d_131_47 : decode prog_11_method_38_code 47 = .ok (.aload_n 0, 1) := by decide +kernel
theorem d_131_48 : decode prog_11_method_38_code 48 = .ok (.getfield 74, 3) := by decide +kernel
theorem d_131_51 : decode prog_11_method_38_code 51 = .ok (.iload 4, 2) := by decide +kernel
theorem d_131_53 : decode prog_11_method_38_code 53 = .ok (.aload_n 0, 1) := by decide +kernel
theorem d_131_54 : decode prog_11_method_38_code 54 = .ok (.getfield 99, 3) := by decide +kernel
theorem d_131_57 : decode prog_11_method_38_code 57 = .ok (.aload_n 0, 1) := by decide +kernel
theorem d_131_58 : decode prog_11_method_38_code 58 = .ok (.getfield 77, 3) := by decide +kernel
theorem d_131_61 : decode prog_11_method_38_code 61 = .ok (.iload_n 3, 1) := by decide +kernel
theorem d_131_62 : decode prog_11_method_38_code 62 = .ok (.iaload, 1) := by decide +kernel
theorem d_131_63 : decode prog_11_method_38_code 63 = .ok (.iadd, 1) := by decide +kernel
theorem d_131_64 : decode prog_11_method_38_code 64 = .ok (.iastore, 1) := by decide +kernel
theorem d_131_65 : decode prog_11_method_38_code 65 = .ok (.aload_n 0, 1) := by decide +kernel
theorem d_131_66 : decode prog_11_method_38_code 66 = .ok (.getfield 74, 3) := by decide +kernel
theorem d_131_69 : decode prog_11_method_38_code 69 = .ok (.iload 4, 2) := by decide +kernel
theorem d_131_71 : decode prog_11_method_38_code 71 = .ok (.iconst 1, 1) := by decide +kernel
theorem d_131_72 : decode prog_11_method_38_code 72 = .ok (.iadd, 1) := by decide +kernel
theorem d_131_73 : decode prog_11_method_38_code 73 = .ok (.iaload, 1) := by decide +kernel
theorem d_131_74 : decode prog_11_method_38_code 74 = .ok (.aload_n 0, 1) := by decide +kernel
theorem d_131_75 : decode prog_11_method_38_code 75 = .ok (.getfield 99, 3) := by decide +kernel
theorem d_131_78 : decode prog_11_method_38_code 78 = .ok (.if_icmp .ne 9, 3) := by decide +kernel
theorem d_131_81 : decode prog_11_method_38_code 81 = .ok (.aload_n 0, 1) := by decide +kernel
theorem d_131_82 : decode prog_11_method_38_code 82 = .ok (.iload_n 1, 1) := by decide +kernel
theorem d_131_83 : decode prog_11_method_38_code 83 = .ok (.iload_n 2, 1) := by decide +kernel
theorem d_131_84 : decode prog_11_method_38_code 84 = .ok (.invokevirtual 200, 3) := by decide +kernel
theorem d_131_87 : decode prog_11_method_38_code 87 = .ok (.aload_n 0, 1) := by decide +kernel
theorem d_131_88 : decode prog_11_method_38_code 88 = .ok (.getfield 74, 3) := by decide +kernel
theorem d_131_91 : decode prog_11_method_38_code 91 = .ok (.iload 4, 2) := by decide +kernel
theorem d_131_93 : decode prog_11_method_38_code 93 = .ok (.iconst 2, 1) := by decide +kernel
theorem d_131_94 : decode prog_11_method_38_code 94 = .ok (.iadd, 1) := by decide +kernel
theorem d_131_95 : decode prog_11_method_38_code 95 = .ok (.iaload, 1) := by decide +kernel
theorem d_131_96 : decode prog_11_method_38_code 96 = .ok (.aload_n 0, 1) := by decide +kernel
theorem d_131_97 : decode prog_11_method_38_code 97 = .ok (.getfield 99, 3) := by decide +kernel
theorem d_131_100 : decode prog_11_method_38_code 100 = .ok (.if_icmp .ne 9, 3) := by decide +kernel
theorem d_131_103 : decode prog_11_method_38_code 103 = .ok (.aload_n 0, 1) := by decide +kernel
theorem d_131_104 : decode prog_11_method_38_code 104 = .ok (.iload_n 1, 1) := by decide +kernel
theorem d_131_105 : decode prog_11_method_38_code 105 = .ok (.iload_n 2, 1) := by decide +kernel
theorem d_131_106 : decode prog_11_method_38_code 106 = .ok (.invokevirtual 156, 3) := by decide +kernel
theorem d_131_109 : decode prog_11_method_38_code 109 = .ok (.aload_n 0, 1) := by decide +kernel
theorem d_131_110 : decode prog_11_method_38_code 110 = .ok (.getfield 74, 3) := by decide +kernel
theorem d_131_113 : decode prog_11_method_38_code 113 = .ok (.iload 4, 2) := by decide +kernel
theorem d_131_115 : decode prog_11_method_38_code 115 = .ok (.iconst 3, 1) := by decide +kernel
theorem d_131_116 : decode prog_11_method_38_code 116 = .ok (.iadd, 1) := by decide +kernel
theorem d_131_117 : decode prog_11_method_38_code 117 = .ok (.iaload, 1) := by decide +kernel
theorem d_131_118 : decode prog_11_method_38_code 118 = .ok (.aload_n 0, 1) := by decide +kernel
theorem d_131_119 : decode prog_11_method_38_code 119 = .ok (.getfield 99, 3) := by decide +kernel
theorem d_131_122 : decode prog_11_method_38_code 122 = .ok (.if_icmp .ne 9, 3) := by decide +kernel
theorem d_131_125 : decode prog_11_method_38_code 125 = .ok (.aload_n 0, 1) := by decide +kernel
theorem d_131_126 : decode prog_11_method_38_code 126 = .ok (.iload_n 3, 1) := by decide +kernel
theorem d_131_127 : decode prog_11_method_38_code 127 = .ok (.iconst 4, 1) := by decide +kernel
theorem d_131_128 : decode prog_11_method_38_code 128 = .ok (.invokevirtual 168, 3) := by decide +kernel
theorem d_131_131 : decode prog_11_method_38_code 131 = .ok (.aload_n 0, 1) := by decide +kernel
theorem d_131_132 : decode prog_11_method_38_code 132 = .ok (.getfield 74, 3) := by decide +kernel
theorem d_131_135 : decode prog_11_method_38_code 135 = .ok (.iload 4, 2) := by decide +kernel
theorem d_131_137 : decode prog_11_method_38_code 137 = .ok (.iconst 4, 1) := by decide +kernel
theorem d_131_138 : decode prog_11_method_38_code 138 = .ok (.iadd, 1) := by decide +kernel
theorem d_131_139 : decode prog_11_method_38_code 139 = .ok (.iaload, 1) := by decide +kernel
theorem d_131_140 : decode prog_11_method_38_code 140 = .ok (.aload_n 0, 1) := by decide +kernel
theorem d_131_141 : decode prog_11_method_38_code 141 = .ok (.getfield 99, 3) := by decide +kernel
theorem d_131_144 : decode prog_11_method_38_code 144 = .ok (.if_icmp .ne 46, 3) := by decide +kernel
theorem d_131_147 : decode prog_11_method_38_code 147 = .ok (.aload_n 0, 1) := by decide +kernel
theorem d_131_148 : decode prog_11_method_38_code 148 = .ok (.iload_n 1, 1) := by decide +kernel
theorem d_131_149 : decode prog_11_method_38_code 149 = .ok (.iload_n 2, 1) := by decide +kernel
theorem d_131_150 : decode prog_11_method_38_code 150 = .ok (.iconst 2, 1) := by decide +kernel
theorem d_131_151 : decode prog_11_method_38_code 151 = .ok (.invokevirtual 138, 3) := by decide +kernel
theorem d_131_154 : decode prog_11_method_38_code 154 = .ok (.aload_n 0, 1) := by decide +kernel
theorem d_131_155 : decode prog_11_method_38_code 155 = .ok (.getfield 80, 3) := by decide +kernel
theorem d_131_158 : decode prog_11_method_38_code 158 = .ok (.iload_n 3, 1) := by decide +kernel
theorem d_131_159 : decode prog_11_method_38_code 159 = .ok (.aload_n 0, 1) := by decide +kernel
theorem d_131_160 : decode prog_11_method_38_code 160 = .ok (.aload_n 0, 1) := by decide +kernel
theorem d_131_161 : decode prog_11_method_38_code 161 = .ok (.getfield 80, 3) := by decide +kernel
theorem d_131_164 : decode prog_11_method_38_code 164 = .ok (.iload_n 3, 1) := by decide +kernel
theorem d_131_165 : decode prog_11_method_38_code 165 = .ok (.iaload, 1) := by decide +kernel
theorem d_131_166 : decode prog_11_method_38_code 166 = .ok (.invokevirtual 197, 3) := by decide +kernel
theorem d_131_169 : decode prog_11_method_38_code 169 = .ok (.iastore, 1) := by decide +kernel
theorem d_131_170 : decode prog_11_method_38_code 170 = .ok (.aload_n 0, 1) := by decide +kernel
theorem d_131_171 : decode prog_11_method_38_code 171 = .ok (.getfield 74, 3) := by decide +kernel
theorem d_131_174 : decode prog_11_method_38_code 174 = .ok (.iload 4, 2) := by decide +kernel
theorem d_131_176 : decode prog_11_method_38_code 176 = .ok (.iconst 4, 1) := by decide +kernel
theorem d_131_177 : decode prog_11_method_38_code 177 = .ok (.iadd, 1) := by decide +kernel
theorem d_131_178 : decode prog_11_method_38_code 178 = .ok (.aload_n 0, 1) := by decide +kernel
theorem d_131_179 : decode prog_11_method_38_code 179 = .ok (.getfield 99, 3) := by decide +kernel
theorem d_131_182 : decode prog_11_method_38_code 182 = .ok (.aload_n 0, 1) := by decide +kernel
theorem d_131_183 : decode prog_11_method_38_code 183 = .ok (.getfield 80, 3) := by decide +kernel
theorem d_131_186 : decode prog_11_method_38_code 186 = .ok (.iload_n 3, 1) := by decide +kernel
theorem d_131_187 : decode prog_11_method_38_code 187 = .ok (.iaload, 1) := by decide +kernel
theorem d_131_188 : decode prog_11_method_38_code 188 = .ok (.iadd, 1) := by decide +kernel
theorem d_131_189 : decode prog_11_method_38_code 189 = .ok (.iastore, 1) := by decide +kernel
theorem d_131_190 : decode prog_11_method_38_code 190 = .ok (.aload_n 0, 1) := by decide +kernel
theorem d_131_191 : decode prog_11_method_38_code 191 = .ok (.getfield 74, 3) := by decide +kernel
theorem d_131_194 : decode prog_11_method_38_code 194 = .ok (.iload 4, 2) := by decide +kernel
theorem d_131_196 : decode prog_11_method_38_code 196 = .ok (.iconst 5, 1) := by decide +kernel
theorem d_131_197 : decode prog_11_method_38_code 197 = .ok (.iadd, 1) := by decide +kernel
theorem d_131_198 : decode prog_11_method_38_code 198 = .ok (.iaload, 1) := by decide +kernel
theorem d_131_199 : decode prog_11_method_38_code 199 = .ok (.aload_n 0, 1) := by decide +kernel
theorem d_131_200 : decode prog_11_method_38_code 200 = .ok (.getfield 99, 3) := by decide +kernel
theorem d_131_203 : decode prog_11_method_38_code 203 = .ok (.if_icmp .ne 9, 3) := by decide +kernel
theorem d_131_206 : decode prog_11_method_38_code 206 = .ok (.aload_n 0, 1) := by decide +kernel
theorem d_131_207 : decode prog_11_method_38_code 207 = .ok (.iload_n 1, 1) := by decide +kernel
theorem d_131_208 : decode prog_11_method_38_code 208 = .ok (.iload_n 2, 1) := by decide +kernel
theorem d_131_209 : decode prog_11_method_38_code 209 = .ok (.invokevirtual 200, 3) := by decide +kernel
theorem d_131_212 : decode prog_11_method_38_code 212 = .ok (.return_, 1) := by decide +kernel
theorem d_132_0 : decode prog_11_method_39_code 0 = .ok (.iload_n 1, 1) := by decide +kernel
theorem d_132_1 : decode prog_11_method_39_code 1 = .ok (.iconst 0, 1) := by decide +kernel
theorem d_132_2 : decode prog_11_method_39_code 2 = .ok (.sipush 2000, 3) := by decide +kernel
theorem d_132_5 : decode prog_11_method_39_code 5 = .ok (.invokestatic 94, 3) := by decide +kernel
theorem d_132_8 : decode prog_11_method_39_code 8 = .ok (.ifCond .ne 5, 3) := by decide +kernel
theorem d_132_11 : decode prog_11_method_39_code 11 = .ok (.iconst (-1), 1) := by decide +kernel
theorem d_132_12 : decode prog_11_method_39_code 12 = .ok (.ireturn, 1) := by decide +kernel
theorem d_132_13 : decode prog_11_method_39_code 13 = .ok (.aload_n 0, 1) := by decide +kernel
theorem d_132_14 : decode prog_11_method_39_code 14 = .ok (.getfield 133, 3) := by decide +kernel
theorem d_132_17 : decode prog_11_method_39_code 17 = .ok (.istore_n 2, 1) := by decide +kernel
theorem d_132_18 : decode prog_11_method_39_code 18 = .ok (.iconst 0, 1) := by decide +kernel
theorem d_132_19 : decode prog_11_method_39_code 19 = .ok (.istore_n 3, 1) := by decide +kernel
theorem d_132_20 : decode prog_11_method_39_code 20 = .ok (.iload_n 3, 1) := by decide +kernel
theorem d_132_21 : decode prog_11_method_39_code 21 = .ok (.iload_n 1, 1) := by decide +kernel
theorem d_132_22 : decode prog_11_method_39_code 22 = .ok (.if_icmp .ge 87, 3) := by decide +kernel
theorem d_132_25 : decode prog_11_method_39_code 25 = .ok (.aload_n 0, 1) := by decide +kernel
theorem d_132_26 : decode prog_11_method_39_code 26 = .ok (.dup, 1) := by decide +kernel
theorem d_132_27 : decode prog_11_method_39_code 27 = .ok (.getfield 99, 3) := by decide +kernel
theorem d_132_30 : decode prog_11_method_39_code 30 = .ok (.iconst 1, 1) := by decide +kernel
theorem d_132_31 : decode prog_11_method_39_code 31 = .ok (.iadd, 1) := by decide +kernel
theorem d_132_32 : decode prog_11_method_39_code 32 = .ok (.putfield 99, 3) := by decide +kernel
theorem d_132_35 : decode prog_11_method_39_code 35 = .ok (.iconst 0, 1) := by decide +kernel
theorem d_132_36 : decode prog_11_method_39_code 36 = .ok (.istore 4, 2) := by decide +kernel
theorem d_132_38 : decode prog_11_method_39_code 38 = .ok (.iload 4, 2) := by decide +kernel
theorem d_132_40 : decode prog_11_method_39_code 40 = .ok (.iconst 4, 1) := by decide +kernel
theorem d_132_41 : decode prog_11_method_39_code 41 = .ok (.if_icmp .ge 62, 3) := by decide +kernel
theorem d_132_44 : decode prog_11_method_39_code 44 = .ok (.aload_n 0, 1) := by decide +kernel
theorem d_132_45 : decode prog_11_method_39_code 45 = .ok (.iload 4, 2) := by decide +kernel
theorem d_132_47 : decode prog_11_method_39_code 47 = .ok (.invokevirtual 142, 3) := by decide +kernel
theorem d_132_50 : decode prog_11_method_39_code 50 = .ok (.ifCond .eq 9, 3) := by decide +kernel
theorem d_132_53 : decode prog_11_method_39_code 53 = .ok (.aload_n 0, 1) := by decide +kernel
theorem d_132_54 : decode prog_11_method_39_code 54 = .ok (.iload 4, 2) := by decide +kernel
theorem d_132_56 : decode prog_11_method_39_code 56 = .ok (.invokevirtual 203, 3) := by decide +kernel
theorem d_132_59 : decode prog_11_method_39_code 59 = .ok (.iconst 0, 1) := by decide +kernel
theorem d_132_60 : decode prog_11_method_39_code 60 = .ok (.istore 5, 2) := by decide +kernel
theorem d_132_62 : decode prog_11_method_39_code 62 = .ok (.iload 5, 2) := by decide +kernel
theorem d_132_64 : decode prog_11_method_39_code 64 = .ok (.aload_n 0, 1) := by decide +kernel
theorem d_132_65 : decode prog_11_method_39_code 65 = .ok (.getfield 53, 3) := by decide +kernel
theorem d_132_68 : decode prog_11_method_39_code 68 = .ok (.iload 4, 2) := by decide +kernel
theorem d_132_70 : decode prog_11_method_39_code 70 = .ok (.iaload, 1) := by decide +kernel
theorem d_132_71 : decode prog_11_method_39_code 71 = .ok (.if_icmp .ge 26, 3) := by decide +kernel
theorem d_132_74 : decode prog_11_method_39_code 74 = .ok (.aload_n 0, 1) := by decide +kernel
theorem d_132_75 : decode prog_11_method_39_code 75 = .ok (.iload 4, 2) := by decide +kernel
theorem d_132_77 : decode prog_11_method_39_code 77 = .ok (.invokevirtual 142, 3) := by decide +kernel
theorem d_132_80 : decode prog_11_method_39_code 80 = .ok (.ifCond .eq 11, 3) := by decide +kernel
theorem d_132_83 : decode prog_11_method_39_code 83 = .ok (.aload_n 0, 1) := by decide +kernel
theorem d_132_84 : decode prog_11_method_39_code 84 = .ok (.iload 4, 2) := by decide +kernel
theorem d_132_86 : decode prog_11_method_39_code 86 = .ok (.iload 5, 2) := by decide +kernel
theorem d_132_88 : decode prog_11_method_39_code 88 = .ok (.invokevirtual 206, 3) := by decide +kernel
theorem d_132_91 : decode prog_11_method_39_code 91 = .ok (.iinc 5 1, 3) := by decide +kernel
theorem d_132_94 : decode prog_11_method_39_code 94 = .ok (.goto (-32), 3) := by decide +kernel
theorem d_132_97 : decode prog_11_method_39_code 97 = .ok (.iinc 4 1, 3) := by decide +kernel
theorem d_132_100 : decode prog_11_method_39_code 100 = .ok (.goto (-62), 3) := by decide +kernel
theorem d_132_103 : decode prog_11_method_39_code 103 = .ok (.iinc 3 1, 3) := by decide +kernel
theorem d_132_106 : decode prog_11_method_39_code 106 = .ok (.goto (-86), 3) := by decide +kernel
theorem d_132_109 : decode prog_11_method_39_code 109 = .ok (.aload_n 0, 1) := by decide +kernel
theorem d_132_110 : decode prog_11_method_39_code 110 = .ok (.getfield 133, 3) := by decide +kernel
theorem d_132_113 : decode prog_11_method_39_code 113 = .ok (.iload_n 2, 1) := by decide +kernel
theorem d_132_114 : decode prog_11_method_39_code 114 = .ok (.isub, 1) := by decide +kernel
theorem d_132_115 : decode prog_11_method_39_code 115 = .ok (.ireturn, 1) := by decide +kernel
theorem d_133_0 : decode prog_11_method_40_code 0 = .ok (.aload_n 0, 1) := by decide +kernel
theorem d_133_1 : decode prog_11_method_40_code 1 = .ok (.getfield 99, 3) := by decide +kernel
theorem d_133_4 : decode prog_11_method_40_code 4 = .ok (.ireturn, 1) := by decide +kernel
theorem d_134_0 : decode prog_11_method_41_code 0 = .ok (.aload_n 0, 1) := by decide +kernel
theorem d_134_1 : decode prog_11_method_41_code 1 = .ok (.iload_n 1, 1) := by decide +kernel
theorem d_134_2 : decode prog_11_method_41_code 2 = .ok (.invokevirtual 142, 3) := by decide +kernel
theorem d_134_5 : decode prog_11_method_41_code 5 = .ok (.ifCond .eq 22, 3) := by decide +kernel
theorem d_134_8 : decode prog_11_method_41_code 8 = .ok (.aload_n 0, 1) := by decide +kernel
theorem d_134_9 : decode prog_11_method_41_code 9 = .ok (.getfield 41, 3) := by decide +kernel
theorem d_134_12 : decode prog_11_method_41_code 12 = .ok (.iload_n 1, 1) := by decide +kernel
theorem d_134_13 : decode prog_11_method_41_code 13 = .ok (.iaload, 1) := by decide +kernel
theorem d_134_14 : decode prog_11_method_41_code 14 = .ok (.bipush 8, 2) := by decide +kernel
theorem d_134_16 : decode prog_11_method_41_code 16 = .ok (.aload_n 0, 1) := by decide +kernel
theorem d_134_17 : decode prog_11_method_41_code 17 = .ok (.getfield 44, 3) := by decide +kernel
theorem d_134_20 : decode prog_11_method_41_code 20 = .ok (.iload_n 1, 1) := by decide +kernel
theorem d_134_21 : decode prog_11_method_41_code 21 = .ok (.iaload, 1) := by decide +kernel
theorem d_134_22 : decode prog_11_method_41_code 22 = .ok (.imul, 1) := by decide +kernel
theorem d_134_23 : decode prog_11_method_41_code 23 = .ok (.iadd, 1) := by decide +kernel
theorem d_134_24 : decode prog_11_method_41_code 24 = .ok (.goto 4, 3) := by decide +kernel
theorem d_134_27 : decode prog_11_method_41_code 27 = .ok (.iconst 0, 1) := by decide +kernel
theorem d_134_28 : decode prog_11_method_41_code 28 = .ok (.ireturn, 1) := by decide +kernel
theorem d_135_0 : decode prog_11_method_42_code 0 = .ok (.aload_n 0, 1) := by decide +kernel
theorem d_135_1 : decode prog_11_method_42_code 1 = .ok (.iload_n 1, 1) := by decide +kernel
theorem d_135_2 : decode prog_11_method_42_code 2 = .ok (.iload_n 2, 1) := by decide +kernel
theorem d_135_3 : decode prog_11_method_42_code 3 = .ok (.invokevirtual 191, 3) := by decide +kernel
theorem d_135_6 : decode prog_11_method_42_code 6 = .ok (.ifCond .ne 5, 3) := by decide +kernel
theorem d_135_9 : decode prog_11_method_42_code 9 = .ok (.iconst 0, 1) := by decide +kernel
theorem d_135_10 : decode prog_11_method_42_code 10 = .ok (.ireturn, 1) := by decide +kernel
theorem d_135_11 : decode prog_11_method_42_code 11 = .ok (.iconst 4, 1) := by decide +kernel
theorem d_135_12 : decode prog_11_method_42_code 12 = .ok (.iload_n 1, 1) := by decide +kernel
theorem d_135_13 : decode prog_11_method_42_code 13 = .ok (.imul, 1) := by decide +kernel
theorem d_135_14 : decode prog_11_method_42_code 14 = .ok (.iload_n 2, 1) := by decide +kernel
theorem d_135_15 : decode prog_11_method_42_code 15 = .ok (.iadd, 1) := by decide +kernel
theorem d_135_16 : decode prog_11_method_42_code 16 = .ok (.istore_n 3, 1) := by decide +kernel
theorem d_135_17 : decode prog_11_method_42_code 17 = .ok (.aload_n 0, 1) := by decide +kernel
theorem d_135_18 : decode prog_11_method_42_code 18 = .ok (.getfield 56, 3) := by decide +kernel
theorem d_135_21 : decode prog_11_method_42_code 21 = .ok (.iload_n 3, 1) := by decide +kernel
theorem d_135_22 : decode prog_11_method_42_code 22 = .ok (.iaload, 1) := by decide +kernel
theorem d_135_23 : decode prog_11_method_42_code 23 = .ok (.aload_n 0, 1) := by decide +kernel
theorem d_135_24 : decode prog_11_method_42_code 24 = .ok (.getfield 62, 3) := by decide +kernel
theorem d_135_27 : decode prog_11_method_42_code 27 = .ok (.iload_n 3, 1) := by decide +kernel
theorem d_135_28 : decode prog_11_method_42_code 28 = .ok (.baload, 1) := by decide +kernel
theorem d_135_29 : decode prog_11_method_42_code 29 = .ok (.ifCond .eq 8, 3) := by decide +kernel
theorem d_135_32 : decode prog_11_method_42_code 32 = .ok (.bipush 8, 2) := by decide +kernel
theorem d_135_34 : decode prog_11_method_42_code 34 = .ok (.goto 4, 3) := by decide +kernel
theorem d_135_37 : decode prog_11_method_42_code 37 = .ok (.iconst 0, 1) := by decide +kernel
theorem d_135_38 : decode prog_11_method_42_code 38 = .ok (.iadd, 1) := by decide +kernel
theorem d_135_39 : decode prog_11_method_42_code 39 = .ok (.bipush 16, 2) := by decide +kernel
theorem d_135_41 : decode prog_11_method_42_code 41 = .ok (.aload_n 0, 1) := by decide +kernel
theorem d_135_42 : decode prog_11_method_42_code 42 = .ok (.getfield 59, 3) := by decide +kernel
theorem d_135_45 : decode prog_11_method_42_code 45 = .ok (.iload_n 3, 1) := by decide +kernel
theorem d_135_46 : decode prog_11_method_42_code 46 = .ok (.iaload, 1) := by decide +kernel
theorem d_135_47 : decode prog_11_method_42_code 47 = .ok (.imul, 1) := by decide +kernel
theorem d_135_48 : decode prog_11_method_42_code 48 = .ok (.iadd, 1) := by decide +kernel
theorem d_135_49 : decode prog_11_method_42_code 49 = .ok (.ireturn, 1) := by decide +kernel
theorem d_136_0 : decode prog_11_method_43_code 0 = .ok (.aload_n 0, 1) := by decide +kernel
theorem d_136_1 : decode prog_11_method_43_code 1 = .ok (.iload_n 1, 1) := by decide +kernel
theorem d_136_2 : decode prog_11_method_43_code 2 = .ok (.iload_n 2, 1) := by decide +kernel
theorem d_136_3 : decode prog_11_method_43_code 3 = .ok (.invokevirtual 191, 3) := by decide +kernel
theorem d_136_6 : decode prog_11_method_43_code 6 = .ok (.ifCond .eq 16, 3) := by decide +kernel
theorem d_136_9 : decode prog_11_method_43_code 9 = .ok (.aload_n 0, 1) := by decide +kernel
theorem d_136_10 : decode prog_11_method_43_code 10 = .ok (.getfield 68, 3) := by decide +kernel
theorem d_136_13 : decode prog_11_method_43_code 13 = .ok (.iconst 4, 1) := by decide +kernel
theorem d_136_14 : decode prog_11_method_43_code 14 = .ok (.iload_n 1, 1) := by decide +kernel
theorem d_136_15 : decode prog_11_method_43_code 15 = .ok (.imul, 1) := by decide +kernel
theorem d_136_16 : decode prog_11_method_43_code 16 = .ok (.iload_n 2, 1) := by decide +kernel
theorem d_136_17 : decode prog_11_method_43_code 17 = .ok (.iadd, 1) := by decide +kernel
theorem d_136_18 : decode prog_11_method_43_code 18 = .ok (.iaload, 1) := by decide +kernel
theorem d_136_19 : decode prog_11_method_43_code 19 = .ok (.goto 4, 3) := by decide +kernel
theorem d_136_22 : decode prog_11_method_43_code 22 = .ok (.iconst 0, 1) := by decide +kernel
theorem d_136_23 : decode prog_11_method_43_code 23 = .ok (.ireturn, 1) := by decide +kernel
theorem d_137_0 : decode prog_11_method_44_code 0 = .ok (.iconst 0, 1) := by decide +kernel
theorem d_137_1 : decode prog_11_method_44_code 1 = .ok (.istore_n 1, 1) := by decide +kernel
theorem d_137_2 : decode prog_11_method_44_code 2 = .ok (.iconst 0, 1) := by decide +kernel
theorem d_137_3 : decode prog_11_method_44_code 3 = .ok (.istore_n 2, 1) := by decide +kernel
theorem d_137_4 : decode prog_11_method_44_code 4 = .ok (.iload_n 2, 1) := by decide +kernel
theorem d_137_5 : decode prog_11_method_44_code 5 = .ok (.iconst 4, 1) := by decide +kernel
theorem d_137_6 : decode prog_11_method_44_code 6 = .ok (.if_icmp .ge 79, 3) := by decide +kernel
theorem d_137_9 : decode prog_11_method_44_code 9 = .ok (.aload_n 0, 1) := by decide +kernel
theorem d_137_10 : decode prog_11_method_44_code 10 = .ok (.iload_n 2, 1) := by decide +kernel
theorem d_137_11 : decode prog_11_method_44_code 11 = .ok (.invokevirtual 142, 3) := by decide +kernel
theorem d_137_14 : decode prog_11_method_44_code 14 = .ok (.istore_n 3, 1) := by decide +kernel
theorem d_137_15 : decode prog_11_method_44_code 15 = .ok (.iload_n 3, 1) := by decide +kernel
theorem d_137_16 : decode prog_11_method_44_code 16 = .ok (.ifCond .eq 16, 3) := by decide +kernel
theorem d_137_19 : decode prog_11_method_44_code 19 = .ok (.aload_n 0, 1) := by decide +kernel
theorem d_137_20 : decode prog_11_method_44_code 20 = .ok (.getfield 41, 3) := by decide +kernel
theorem d_137_23 : decode prog_11_method_44_code 23 = .ok (.iload_n 2, 1) := by decide +kernel
theorem d_137_24 : decode prog_11_method_44_code 24 = .ok (.iaload, 1) := by decide +kernel
theorem d_137_25 : decode prog_11_method_44_code 25 = .ok (.iconst 5, 1) := by decide +kernel
theorem d_137_26 : decode prog_11_method_44_code 26 = .ok (.if_icmp .eq 6, 3) := by decide +kernel
theorem d_137_29 : decode prog_11_method_44_code 29 = .ok (.iinc 1 1, 3) := by decide +kernel
theorem d_137_32 : decode prog_11_method_44_code 32 = .ok (.iconst 0, 1) := by decide +kernel
theorem d_137_33 : decode prog_11_method_44_code 33 = .ok (.istore 4, 2) := by decide +kernel
theorem d_137_35 : decode prog_11_method_44_code 35 = .ok (.iload 4, 2) := by decide +kernel
theorem d_137_37 : decode prog_11_method_44_code 37 = .ok (.aload_n 0, 1) := by decide +kernel
theorem d_137_38 : decode prog_11_method_44_code 38 = .ok (.getfield 53, 3) := by decide +kernel
theorem d_137_41 : decode prog_11_method_44_code 41 = .ok (.iload_n 2, 1) := by decide +kernel
theorem d_137_42 : decode prog_11_method_44_code 42 = .ok (.iaload, 1) := by decide +kernel
theorem d_137_43 : decode prog_11_method_44_code 43 = .ok (.if_icmp .ge 36, 3) := by decide +kernel
theorem d_137_46 : decode prog_11_method_44_code 46 = .ok (.iload_n 3, 1) := by decide +kernel
theorem d_137_47 : decode prog_11_method_44_code 47 = .ok (.ifCond .eq 24, 3) := by decide +kernel
theorem d_137_50 : decode prog_11_method_44_code 50 = .ok (.aload_n 0, 1) := by decide +kernel
theorem d_137_51 : decode prog_11_method_44_code 51 = .ok (.getfield 56, 3) := by decide +kernel
theorem d_137_54 : decode prog_11_method_44_code 54 = .ok (.iconst 4, 1) := by decide +kernel
theorem d_137_55 : decode prog_11_method_44_code 55 = .ok (.iload_n 2, 1) := by decide +kernel
theorem d_137_56 : decode prog_11_method_44_code 56 = .ok (.imul, 1) := by decide +kernel
theorem d_137_57 : decode prog_11_method_44_code 57 = .ok (.iload 4, 2) := by decide +kernel
theorem d_137_59 : decode prog_11_method_44_code 59 = .ok (.iadd, 1) := by decide +kernel
theorem d_137_60 : decode prog_11_method_44_code 60 = .ok (.iaload, 1) := by decide +kernel
theorem d_137_61 : decode prog_11_method_44_code 61 = .ok (.iconst 4, 1) := by decide +kernel
theorem d_137_62 : decode prog_11_method_44_code 62 = .ok (.if_icmp .eq 9, 3) := by decide +kernel
theorem d_137_65 : decode prog_11_method_44_code 65 = .ok (.iload_n 1, 1) := by decide +kernel
theorem d_137_66 : decode prog_11_method_44_code 66 = .ok (.iconst 1, 1) := by decide +kernel
theorem d_137_67 : decode prog_11_method_44_code 67 = .ok (.iadd, 1) := by decide +kernel
theorem d_137_68 : decode prog_11_method_44_code 68 = .ok (.goto 4, 3) := by decide +kernel
theorem d_137_71 : decode prog_11_method_44_code 71 = .ok (.iload_n 1, 1) := by decide +kernel
theorem d_137_72 : decode prog_11_method_44_code 72 = .ok (.istore_n 1, 1) := by decide +kernel
theorem d_137_73 : decode prog_11_method_44_code 73 = .ok (.iinc 4 1, 3) := by decide +kernel
theorem d_137_76 : decode prog_11_method_44_code 76 = .ok (.goto (-41), 3) := by decide +kernel
theorem d_137_79 : decode prog_11_method_44_code 79 = .ok (.iinc 2 1, 3) := by decide +kernel
theorem d_137_82 : decode prog_11_method_44_code 82 = .ok (.goto (-78), 3) := by decide +kernel
theorem d_137_85 : decode prog_11_method_44_code 85 = .ok (.iload_n 1, 1) := by decide +kernel
theorem d_137_86 : decode prog_11_method_44_code 86 = .ok (.ireturn, 1) := by decide +kernel
theorem d_138_0 : decode prog_11_method_45_code 0 = .ok (.aload_n 0, 1) := by decide +kernel
theorem d_138_1 : decode prog_11_method_45_code 1 = .ok (.getfield 133, 3) := by decide +kernel
theorem d_138_4 : decode prog_11_method_45_code 4 = .ok (.ireturn, 1) := by decide +kernel
theorem d_139_0 : decode prog_11_method_46_code 0 = .ok (.iload_n 1, 1) := by decide +kernel
theorem d_139_1 : decode prog_11_method_46_code 1 = .ok (.iconst 0, 1) := by decide +kernel
theorem d_139_2 : decode prog_11_method_46_code 2 = .ok (.bipush 63, 2) := by decide +kernel
theorem d_139_4 : decode prog_11_method_46_code 4 = .ok (.invokestatic 94, 3) := by decide +kernel
theorem d_139_7 : decode prog_11_method_46_code 7 = .ok (.ifCond .eq 11, 3) := by decide +kernel
theorem d_139_10 : decode prog_11_method_46_code 10 = .ok (.iload_n 1, 1) := by decide +kernel
theorem d_139_11 : decode prog_11_method_46_code 11 = .ok (.aload_n 0, 1) := by decide +kernel
theorem d_139_12 : decode prog_11_method_46_code 12 = .ok (.getfield 133, 3) := by decide +kernel
theorem d_139_15 : decode prog_11_method_46_code 15 = .ok (.if_icmp .lt 9, 3) := by decide +kernel
theorem d_139_18 : decode prog_11_method_46_code 18 = .ok (.ldc2_w 209, 3) := by decide +kernel
theorem d_139_21 : decode prog_11_method_46_code 21 = .ok (.goto 19, 3) := by decide +kernel
theorem d_139_24 : decode prog_11_method_46_code 24 = .ok (.aload_n 0, 1) := by decide +kernel
theorem d_139_25 : decode prog_11_method_46_code 25 = .ok (.getfield 83, 3) := by decide +kernel
theorem d_139_28 : decode prog_11_method_46_code 28 = .ok (.aload_n 0, 1) := by decide +kernel
theorem d_139_29 : decode prog_11_method_46_code 29 = .ok (.getfield 133, 3) := by decide +kernel
theorem d_139_32 : decode prog_11_method_46_code 32 = .ok (.iconst 1, 1) := by decide +kernel
theorem d_139_33 : decode prog_11_method_46_code 33 = .ok (.isub, 1) := by decide +kernel
theorem d_139_34 : decode prog_11_method_46_code 34 = .ok (.iload_n 1, 1) := by decide +kernel
theorem d_139_35 : decode prog_11_method_46_code 35 = .ok (.isub, 1) := by decide +kernel
theorem d_139_36 : decode prog_11_method_46_code 36 = .ok (.bipush 63, 2) := by decide +kernel
theorem d_139_38 : decode prog_11_method_46_code 38 = .ok (.iand, 1) := by decide +kernel
theorem d_139_39 : decode prog_11_method_46_code 39 = .ok (.laload, 1) := by decide +kernel
theorem d_139_40 : decode prog_11_method_46_code 40 = .ok (.lreturn, 1) := by decide +kernel
theorem d_140_0 : decode method_2_code 0 = .ok (.iload_n 1, 1) := by decide +kernel
theorem d_140_1 : decode method_2_code 1 = .ok (.aload_n 0, 1) := by decide +kernel
theorem d_140_2 : decode method_2_code 2 = .ok (.arraylength, 1) := by decide +kernel
theorem d_140_3 : decode method_2_code 3 = .ok (.if_icmp .ge 9, 3) := by decide +kernel
theorem d_140_6 : decode method_2_code 6 = .ok (.aload_n 0, 1) := by decide +kernel
theorem d_140_7 : decode method_2_code 7 = .ok (.iload_n 1, 1) := by decide +kernel
theorem d_140_8 : decode method_2_code 8 = .ok (.iaload, 1) := by decide +kernel
theorem d_140_9 : decode method_2_code 9 = .ok (.goto 4, 3) := by decide +kernel
theorem d_140_12 : decode method_2_code 12 = .ok (.iconst 0, 1) := by decide +kernel
theorem d_140_13 : decode method_2_code 13 = .ok (.ireturn, 1) := by decide +kernel
