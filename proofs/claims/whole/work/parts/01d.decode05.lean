theorem d_102_0 : decode prog_11_method_9_code 0 = .ok (.iload_n 1, 1) := by decide +kernel
theorem d_102_1 : decode prog_11_method_9_code 1 = .ok (.iconst 0, 1) := by decide +kernel
theorem d_102_2 : decode prog_11_method_9_code 2 = .ok (.iconst 3, 1) := by decide +kernel
theorem d_102_3 : decode prog_11_method_9_code 3 = .ok (.invokestatic 94, 3) := by decide +kernel
theorem d_102_6 : decode prog_11_method_9_code 6 = .ok (.ifCond .eq 45, 3) := by decide +kernel
theorem d_102_9 : decode prog_11_method_9_code 9 = .ok (.iload_n 2, 1) := by decide +kernel
theorem d_102_10 : decode prog_11_method_9_code 10 = .ok (.iconst (-1), 1) := by decide +kernel
theorem d_102_11 : decode prog_11_method_9_code 11 = .ok (.bipush 15, 2) := by decide +kernel
theorem d_102_13 : decode prog_11_method_9_code 13 = .ok (.invokestatic 94, 3) := by decide +kernel
theorem d_102_16 : decode prog_11_method_9_code 16 = .ok (.ifCond .eq 35, 3) := by decide +kernel
theorem d_102_19 : decode prog_11_method_9_code 19 = .ok (.iload_n 3, 1) := by decide +kernel
theorem d_102_20 : decode prog_11_method_9_code 20 = .ok (.iconst 0, 1) := by decide +kernel
theorem d_102_21 : decode prog_11_method_9_code 21 = .ok (.bipush 10, 2) := by decide +kernel
theorem d_102_23 : decode prog_11_method_9_code 23 = .ok (.invokestatic 94, 3) := by decide +kernel
theorem d_102_26 : decode prog_11_method_9_code 26 = .ok (.ifCond .eq 25, 3) := by decide +kernel
theorem d_102_29 : decode prog_11_method_9_code 29 = .ok (.iload 4, 2) := by decide +kernel
theorem d_102_31 : decode prog_11_method_9_code 31 = .ok (.iconst 0, 1) := by decide +kernel
theorem d_102_32 : decode prog_11_method_9_code 32 = .ok (.sipush 5000, 3) := by decide +kernel
theorem d_102_35 : decode prog_11_method_9_code 35 = .ok (.invokestatic 94, 3) := by decide +kernel
theorem d_102_38 : decode prog_11_method_9_code 38 = .ok (.ifCond .eq 13, 3) := by decide +kernel
theorem d_102_41 : decode prog_11_method_9_code 41 = .ok (.iload_n 2, 1) := by decide +kernel
theorem d_102_42 : decode prog_11_method_9_code 42 = .ok (.iconst (-1), 1) := by decide +kernel
theorem d_102_43 : decode prog_11_method_9_code 43 = .ok (.if_icmp .ne 12, 3) := by decide +kernel
theorem d_102_46 : decode prog_11_method_9_code 46 = .ok (.iload 4, 2) := by decide +kernel
theorem d_102_48 : decode prog_11_method_9_code 48 = .ok (.ifCond .eq 7, 3) := by decide +kernel
theorem d_102_51 : decode prog_11_method_9_code 51 = .ok (.sipush 400, 3) := by decide +kernel
theorem d_102_54 : decode prog_11_method_9_code 54 = .ok (.ireturn, 1) := by decide +kernel
theorem d_102_55 : decode prog_11_method_9_code 55 = .ok (.aload_n 0, 1) := by decide +kernel
theorem d_102_56 : decode prog_11_method_9_code 56 = .ok (.getfield 13, 3) := by decide +kernel
theorem d_102_59 : decode prog_11_method_9_code 59 = .ok (.iload_n 1, 1) := by decide +kernel
theorem d_102_60 : decode prog_11_method_9_code 60 = .ok (.baload, 1) := by decide +kernel
theorem d_102_61 : decode prog_11_method_9_code 61 = .ok (.ifCond .ne 7, 3) := by decide +kernel
theorem d_102_64 : decode prog_11_method_9_code 64 = .ok (.sipush 401, 3) := by decide +kernel
theorem d_102_67 : decode prog_11_method_9_code 67 = .ok (.ireturn, 1) := by decide +kernel
theorem d_102_68 : decode prog_11_method_9_code 68 = .ok (.aload_n 0, 1) := by decide +kernel
theorem d_102_69 : decode prog_11_method_9_code 69 = .ok (.getfield 13, 3) := by decide +kernel
theorem d_102_72 : decode prog_11_method_9_code 72 = .ok (.iload_n 1, 1) := by decide +kernel
theorem d_102_73 : decode prog_11_method_9_code 73 = .ok (.iconst 0, 1) := by decide +kernel
theorem d_102_74 : decode prog_11_method_9_code 74 = .ok (.bastore, 1) := by decide +kernel
theorem d_102_75 : decode prog_11_method_9_code 75 = .ok (.iconst 0, 1) := by decide +kernel
theorem d_102_76 : decode prog_11_method_9_code 76 = .ok (.istore 6, 2) := by decide +kernel
theorem d_102_78 : decode prog_11_method_9_code 78 = .ok (.iload 6, 2) := by decide +kernel
theorem d_102_80 : decode prog_11_method_9_code 80 = .ok (.bipush 16, 2) := by decide +kernel
theorem d_102_82 : decode prog_11_method_9_code 82 = .ok (.if_icmp .ge 36, 3) := by decide +kernel
theorem d_102_85 : decode prog_11_method_9_code 85 = .ok (.iload_n 2, 1) := by decide +kernel
theorem d_102_86 : decode prog_11_method_9_code 86 = .ok (.iload 6, 2) := by decide +kernel
theorem d_102_88 : decode prog_11_method_9_code 88 = .ok (.if_icmp .eq 8, 3) := by decide +kernel
theorem d_102_91 : decode prog_11_method_9_code 91 = .ok (.iload_n 2, 1) := by decide +kernel
theorem d_102_92 : decode prog_11_method_9_code 92 = .ok (.iconst (-1), 1) := by decide +kernel
theorem d_102_93 : decode prog_11_method_9_code 93 = .ok (.if_icmp .ne 19, 3) := by decide +kernel
theorem d_102_96 : decode prog_11_method_9_code 96 = .ok (.aload_n 0, 1) := by decide +kernel
theorem d_102_97 : decode prog_11_method_9_code 97 = .ok (.iload_n 1, 1) := by decide +kernel
theorem d_102_98 : decode prog_11_method_9_code 98 = .ok (.iload 6, 2) := by decide +kernel
theorem d_102_100 : decode prog_11_method_9_code 100 = .ok (.iload 5, 2) := by decide +kernel
theorem d_102_102 : decode prog_11_method_9_code 102 = .ok (.invokevirtual 112, 3) := by decide +kernel
theorem d_102_105 : decode prog_11_method_9_code 105 = .ok (.ifCond .eq 7, 3) := by decide +kernel
theorem d_102_108 : decode prog_11_method_9_code 108 = .ok (.sipush 500, 3) := by decide +kernel
theorem d_102_111 : decode prog_11_method_9_code 111 = .ok (.ireturn, 1) := by decide +kernel
theorem d_102_112 : decode prog_11_method_9_code 112 = .ok (.iinc 6 1, 3) := by decide +kernel
theorem d_102_115 : decode prog_11_method_9_code 115 = .ok (.goto (-37), 3) := by decide +kernel
theorem d_102_118 : decode prog_11_method_9_code 118 = .ok (.iload_n 2, 1) := by decide +kernel
theorem d_102_119 : decode prog_11_method_9_code 119 = .ok (.iconst (-1), 1) := by decide +kernel
theorem d_102_120 : decode prog_11_method_9_code 120 = .ok (.if_icmp .ne 36, 3) := by decide +kernel
theorem d_102_123 : decode prog_11_method_9_code 123 = .ok (.iconst 0, 1) := by decide +kernel
theorem d_102_124 : decode prog_11_method_9_code 124 = .ok (.istore 6, 2) := by decide +kernel
theorem d_102_126 : decode prog_11_method_9_code 126 = .ok (.iload 6, 2) := by decide +kernel
theorem d_102_128 : decode prog_11_method_9_code 128 = .ok (.bipush 16, 2) := by decide +kernel
theorem d_102_130 : decode prog_11_method_9_code 130 = .ok (.if_icmp .ge 22, 3) := by decide +kernel
theorem d_102_133 : decode prog_11_method_9_code 133 = .ok (.aload_n 0, 1) := by decide +kernel
theorem d_102_134 : decode prog_11_method_9_code 134 = .ok (.getfield 29, 3) := by decide +kernel
theorem d_102_137 : decode prog_11_method_9_code 137 = .ok (.bipush 16, 2) := by decide +kernel
theorem d_102_139 : decode prog_11_method_9_code 139 = .ok (.iload_n 1, 1) := by decide +kernel
theorem d_102_140 : decode prog_11_method_9_code 140 = .ok (.imul, 1) := by decide +kernel
theorem d_102_141 : decode prog_11_method_9_code 141 = .ok (.iload 6, 2) := by decide +kernel
theorem d_102_143 : decode prog_11_method_9_code 143 = .ok (.iadd, 1) := by decide +kernel
theorem d_102_144 : decode prog_11_method_9_code 144 = .ok (.iconst 0, 1) := by decide +kernel
theorem d_102_145 : decode prog_11_method_9_code 145 = .ok (.iastore, 1) := by decide +kernel
theorem d_102_146 : decode prog_11_method_9_code 146 = .ok (.iinc 6 1, 3) := by decide +kernel
theorem d_102_149 : decode prog_11_method_9_code 149 = .ok (.goto (-23), 3) := by decide +kernel
theorem d_102_152 : decode prog_11_method_9_code 152 = .ok (.sipush 200, 3) := by decide +kernel
theorem d_102_155 : decode prog_11_method_9_code 155 = .ok (.ireturn, 1) := by decide +kernel
theorem d_102_156 : decode prog_11_method_9_code 156 = .ok (.aload_n 0, 1) := by decide +kernel
theorem d_102_157 : decode prog_11_method_9_code 157 = .ok (.iload_n 1, 1) := by decide +kernel
theorem d_102_158 : decode prog_11_method_9_code 158 = .ok (.iload_n 2, 1) := by decide +kernel
theorem d_102_159 : decode prog_11_method_9_code 159 = .ok (.invokevirtual 108, 3) := by decide +kernel
theorem d_102_162 : decode prog_11_method_9_code 162 = .ok (.istore 6, 2) := by decide +kernel
theorem d_102_164 : decode prog_11_method_9_code 164 = .ok (.aload_n 0, 1) := by decide +kernel
theorem d_102_165 : decode prog_11_method_9_code 165 = .ok (.iload_n 1, 1) := by decide +kernel
theorem d_102_166 : decode prog_11_method_9_code 166 = .ok (.invokevirtual 115, 3) := by decide +kernel
theorem d_102_169 : decode prog_11_method_9_code 169 = .ok (.istore 7, 2) := by decide +kernel
theorem d_102_171 : decode prog_11_method_9_code 171 = .ok (.iload 4, 2) := by decide +kernel
theorem d_102_173 : decode prog_11_method_9_code 173 = .ok (.ifCond .eq 18, 3) := by decide +kernel
theorem d_102_176 : decode prog_11_method_9_code 176 = .ok (.iload 6, 2) := by decide +kernel
theorem d_102_178 : decode prog_11_method_9_code 178 = .ok (.ifCond .ne 13, 3) := by decide +kernel
theorem d_102_181 : decode prog_11_method_9_code 181 = .ok (.iload 7, 2) := by decide +kernel
theorem d_102_183 : decode prog_11_method_9_code 183 = .ok (.iconst 4, 1) := by decide +kernel
theorem d_102_184 : decode prog_11_method_9_code 184 = .ok (.if_icmp .ne 7, 3) := by decide +kernel
theorem d_102_187 : decode prog_11_method_9_code 187 = .ok (.sipush 503, 3) := by decide +kernel
theorem d_102_190 : decode prog_11_method_9_code 190 = .ok (.ireturn, 1) := by decide +kernel
theorem d_102_191 : decode prog_11_method_9_code 191 = .ok (.bipush 16, 2) := by decide +kernel
theorem d_102_193 : decode prog_11_method_9_code 193 = .ok (.iload_n 1, 1) := by decide +kernel
theorem d_102_194 : decode prog_11_method_9_code 194 = .ok (.imul, 1) := by decide +kernel
theorem d_102_195 : decode prog_11_method_9_code 195 = .ok (.iload_n 2, 1) := by decide +kernel
theorem d_102_196 : decode prog_11_method_9_code 196 = .ok (.iadd, 1) := by decide +kernel
theorem d_102_197 : decode prog_11_method_9_code 197 = .ok (.istore 8, 2) := by decide +kernel
theorem d_102_199 : decode prog_11_method_9_code 199 = .ok (.aload_n 0, 1) := by decide +kernel
theorem d_102_200 : decode prog_11_method_9_code 200 = .ok (.getfield 29, 3) := by decide +kernel
theorem d_102_203 : decode prog_11_method_9_code 203 = .ok (.iload 8, 2) := by decide +kernel
theorem d_102_205 : decode prog_11_method_9_code 205 = .ok (.iload 4, 2) := by decide +kernel
theorem d_102_207 : decode prog_11_method_9_code 207 = .ok (.ifCond .ne 7, 3) := by decide +kernel
theorem d_102_210 : decode prog_11_method_9_code 210 = .ok (.iconst 0, 1) := by decide +kernel
theorem d_102_211 : decode prog_11_method_9_code 211 = .ok (.goto 10, 3) := by decide +kernel
theorem d_102_214 : decode prog_11_method_9_code 214 = .ok (.aload_n 0, 1) := by decide +kernel
theorem d_102_215 : decode prog_11_method_9_code 215 = .ok (.getfield 99, 3) := by decide +kernel
theorem d_102_218 : decode prog_11_method_9_code 218 = .ok (.iload 4, 2) := by decide +kernel
theorem d_102_220 : decode prog_11_method_9_code 220 = .ok (.iadd, 1) := by decide +kernel
theorem d_102_221 : decode prog_11_method_9_code 221 = .ok (.iastore, 1) := by decide +kernel
theorem d_102_222 : decode prog_11_method_9_code 222 = .ok (.iload 4, 2) := by decide +kernel
theorem d_102_224 : decode prog_11_method_9_code 224 = .ok (.ifCond .ne 7, 3) := by decide +kernel
theorem d_102_227 : decode prog_11_method_9_code 227 = .ok (.sipush 200, 3) := by decide +kernel
theorem d_102_230 : decode prog_11_method_9_code 230 = .ok (.ireturn, 1) := by decide +kernel
theorem d_102_231 : decode prog_11_method_9_code 231 = .ok (.aload_n 0, 1) := by decide +kernel
theorem d_102_232 : decode prog_11_method_9_code 232 = .ok (.getfield 32, 3) := by decide +kernel
theorem d_102_235 : decode prog_11_method_9_code 235 = .ok (.iload 8, 2) := by decide +kernel
theorem d_102_237 : decode prog_11_method_9_code 237 = .ok (.iload_n 3, 1) := by decide +kernel
theorem d_102_238 : decode prog_11_method_9_code 238 = .ok (.iastore, 1) := by decide +kernel
theorem d_102_239 : decode prog_11_method_9_code 239 = .ok (.aload_n 0, 1) := by decide +kernel
theorem d_102_240 : decode prog_11_method_9_code 240 = .ok (.getfield 38, 3) := by decide +kernel
theorem d_102_243 : decode prog_11_method_9_code 243 = .ok (.iload 8, 2) := by decide +kernel
theorem d_102_245 : decode prog_11_method_9_code 245 = .ok (.iload 5, 2) := by decide +kernel
theorem d_102_247 : decode prog_11_method_9_code 247 = .ok (.iastore, 1) := by decide +kernel
theorem d_102_248 : decode prog_11_method_9_code 248 = .ok (.iload 6, 2) := by decide +kernel
theorem d_102_250 : decode prog_11_method_9_code 250 = .ok (.ifCond .ne 24, 3) := by decide +kernel
theorem d_102_253 : decode prog_11_method_9_code 253 = .ok (.aload_n 0, 1) := by decide +kernel
theorem d_102_254 : decode prog_11_method_9_code 254 = .ok (.getfield 35, 3) := by decide +kernel
theorem d_102_257 : decode prog_11_method_9_code 257 = .ok (.iload 8, 2) := by decide +kernel
theorem d_102_259 : decode prog_11_method_9_code 259 = .ok (.aload_n 0, 1) := by decide +kernel
theorem d_102_260 : decode prog_11_method_9_code 260 = .ok (.getfield 119, 3) := by decide +kernel
theorem d_102_263 : decode prog_11_method_9_code 263 = .ok (.iastore, 1) := by decide +kernel
theorem d_102_264 : decode prog_11_method_9_code 264 = .ok (.aload_n 0, 1) := by decide +kernel
theorem d_102_265 : decode prog_11_method_9_code 265 = .ok (.dup, 1) := by decide +kernel
theorem d_102_266 : decode prog_11_method_9_code 266 = .ok (.getfield 119, 3) := by decide +kernel
theorem d_102_269 : decode prog_11_method_9_code 269 = .ok (.iconst 1, 1) := by decide +kernel
theorem d_102_270 : decode prog_11_method_9_code 270 = .ok (.iadd, 1) := by decide +kernel
theorem d_102_271 : decode prog_11_method_9_code 271 = .ok (.putfield 119, 3) := by decide +kernel
theorem d_102_274 : decode prog_11_method_9_code 274 = .ok (.sipush 200, 3) := by decide +kernel
theorem d_102_277 : decode prog_11_method_9_code 277 = .ok (.ireturn, 1) := by decide +kernel
theorem d_103_0 : decode prog_11_method_10_code 0 = .ok (.iconst 0, 1) := by decide +kernel
theorem d_103_1 : decode prog_11_method_10_code 1 = .ok (.istore_n 2, 1) := by decide +kernel
theorem d_103_2 : decode prog_11_method_10_code 2 = .ok (.iconst 0, 1) := by decide +kernel
theorem d_103_3 : decode prog_11_method_10_code 3 = .ok (.istore_n 3, 1) := by decide +kernel
theorem d_103_4 : decode prog_11_method_10_code 4 = .ok (.iload_n 3, 1) := by decide +kernel
theorem d_103_5 : decode prog_11_method_10_code 5 = .ok (.bipush 16, 2) := by decide +kernel
theorem d_103_7 : decode prog_11_method_10_code 7 = .ok (.if_icmp .ge 35, 3) := by decide +kernel
theorem d_103_10 : decode prog_11_method_10_code 10 = .ok (.iload_n 1, 1) := by decide +kernel
theorem d_103_11 : decode prog_11_method_10_code 11 = .ok (.iconst 0, 1) := by decide +kernel
theorem d_103_12 : decode prog_11_method_10_code 12 = .ok (.iconst 3, 1) := by decide +kernel
theorem d_103_13 : decode prog_11_method_10_code 13 = .ok (.invokestatic 94, 3) := by decide +kernel
theorem d_103_16 : decode prog_11_method_10_code 16 = .ok (.ifCond .eq 26, 3) := by decide +kernel
theorem d_103_19 : decode prog_11_method_10_code 19 = .ok (.aload_n 0, 1) := by decide +kernel
theorem d_103_20 : decode prog_11_method_10_code 20 = .ok (.iload_n 1, 1) := by decide +kernel
theorem d_103_21 : decode prog_11_method_10_code 21 = .ok (.iload_n 3, 1) := by decide +kernel
theorem d_103_22 : decode prog_11_method_10_code 22 = .ok (.invokevirtual 108, 3) := by decide +kernel
theorem d_103_25 : decode prog_11_method_10_code 25 = .ok (.ifCond .eq 9, 3) := by decide +kernel
theorem d_103_28 : decode prog_11_method_10_code 28 = .ok (.iload_n 2, 1) := by decide +kernel
theorem d_103_29 : decode prog_11_method_10_code 29 = .ok (.iconst 1, 1) := by decide +kernel
theorem d_103_30 : decode prog_11_method_10_code 30 = .ok (.iadd, 1) := by decide +kernel
theorem d_103_31 : decode prog_11_method_10_code 31 = .ok (.goto 4, 3) := by decide +kernel
theorem d_103_34 : decode prog_11_method_10_code 34 = .ok (.iload_n 2, 1) := by decide +kernel
theorem d_103_35 : decode prog_11_method_10_code 35 = .ok (.istore_n 2, 1) := by decide +kernel
theorem d_103_36 : decode prog_11_method_10_code 36 = .ok (.iinc 3 1, 3) := by decide +kernel
theorem d_103_39 : decode prog_11_method_10_code 39 = .ok (.goto (-35), 3) := by decide +kernel
theorem d_103_42 : decode prog_11_method_10_code 42 = .ok (.iload_n 2, 1) := by decide +kernel
theorem d_103_43 : decode prog_11_method_10_code 43 = .ok (.ireturn, 1) := by decide +kernel
theorem d_104_0 : decode prog_11_method_11_code 0 = .ok (.bipush 16, 2) := by decide +kernel
theorem d_104_2 : decode prog_11_method_11_code 2 = .ok (.iload_n 1, 1) := by decide +kernel
theorem d_104_3 : decode prog_11_method_11_code 3 = .ok (.imul, 1) := by decide +kernel
theorem d_104_4 : decode prog_11_method_11_code 4 = .ok (.iload_n 2, 1) := by decide +kernel
theorem d_104_5 : decode prog_11_method_11_code 5 = .ok (.iadd, 1) := by decide +kernel
theorem d_104_6 : decode prog_11_method_11_code 6 = .ok (.istore_n 3, 1) := by decide +kernel
theorem d_104_7 : decode prog_11_method_11_code 7 = .ok (.iconst 0, 1) := by decide +kernel
theorem d_104_8 : decode prog_11_method_11_code 8 = .ok (.istore 4, 2) := by decide +kernel
theorem d_104_10 : decode prog_11_method_11_code 10 = .ok (.iconst 0, 1) := by decide +kernel
theorem d_104_11 : decode prog_11_method_11_code 11 = .ok (.istore 5, 2) := by decide +kernel
theorem d_104_13 : decode prog_11_method_11_code 13 = .ok (.iload 5, 2) := by decide +kernel
theorem d_104_15 : decode prog_11_method_11_code 15 = .ok (.bipush 16, 2) := by decide +kernel
theorem d_104_17 : decode prog_11_method_11_code 17 = .ok (.if_icmp .ge 99, 3) := by decide +kernel
theorem d_104_20 : decode prog_11_method_11_code 20 = .ok (.bipush 16, 2) := by decide +kernel
theorem d_104_22 : decode prog_11_method_11_code 22 = .ok (.iload_n 1, 1) := by decide +kernel
theorem d_104_23 : decode prog_11_method_11_code 23 = .ok (.imul, 1) := by decide +kernel
theorem d_104_24 : decode prog_11_method_11_code 24 = .ok (.iload 5, 2) := by decide +kernel
theorem d_104_26 : decode prog_11_method_11_code 26 = .ok (.iadd, 1) := by decide +kernel
theorem d_104_27 : decode prog_11_method_11_code 27 = .ok (.istore 6, 2) := by decide +kernel
theorem d_104_29 : decode prog_11_method_11_code 29 = .ok (.aload_n 0, 1) := by decide +kernel
theorem d_104_30 : decode prog_11_method_11_code 30 = .ok (.getfield 32, 3) := by decide +kernel
theorem d_104_33 : decode prog_11_method_11_code 33 = .ok (.iload 6, 2) := by decide +kernel
theorem d_104_35 : decode prog_11_method_11_code 35 = .ok (.iaload, 1) := by decide +kernel
theorem d_104_36 : decode prog_11_method_11_code 36 = .ok (.aload_n 0, 1) := by decide +kernel
theorem d_104_37 : decode prog_11_method_11_code 37 = .ok (.getfield 32, 3) := by decide +kernel
theorem d_104_40 : decode prog_11_method_11_code 40 = .ok (.iload_n 3, 1) := by decide +kernel
theorem d_104_41 : decode prog_11_method_11_code 41 = .ok (.iaload, 1) := by decide +kernel
theorem d_104_42 : decode prog_11_method_11_code 42 = .ok (.if_icmp .gt 35, 3) := by decide +kernel
theorem d_104_45 : decode prog_11_method_11_code 45 = .ok (.aload_n 0, 1) := by decide +kernel
theorem d_104_46 : decode prog_11_method_11_code 46 = .ok (.getfield 32, 3) := by decide +kernel
theorem d_104_49 : decode prog_11_method_11_code 49 = .ok (.iload 6, 2) := by decide +kernel
theorem d_104_51 : decode prog_11_method_11_code 51 = .ok (.iaload, 1) := by decide +kernel
theorem d_104_52 : decode prog_11_method_11_code 52 = .ok (.aload_n 0, 1) := by decide +kernel
theorem d_104_53 : decode prog_11_method_11_code 53 = .ok (.getfield 32, 3) := by decide +kernel
theorem d_104_56 : decode prog_11_method_11_code 56 = .ok (.iload_n 3, 1) := by decide +kernel
theorem d_104_57 : decode prog_11_method_11_code 57 = .ok (.iaload, 1) := by decide +kernel
theorem d_104_58 : decode prog_11_method_11_code 58 = .ok (.if_icmp .ne 23, 3) := by decide +kernel
theorem d_104_61 : decode prog_11_method_11_code 61 = .ok (.aload_n 0, 1) := by decide +kernel
theorem d_104_62 : decode prog_11_method_11_code 62 = .ok (.getfield 35, 3) := by decide +kernel
theorem d_104_65 : decode prog_11_method_11_code 65 = .ok (.iload 6, 2) := by decide +kernel
theorem d_104_67 : decode prog_11_method_11_code 67 = .ok (.iaload, 1) := by decide +kernel
theorem d_104_68 : decode prog_11_method_11_code 68 = .ok (.aload_n 0, 1) := by decide +kernel
theorem d_104_69 : decode prog_11_method_11_code 69 = .ok (.getfield 35, 3) := by decide +kernel
theorem d_104_72 : decode prog_11_method_11_code 72 = .ok (.iload_n 3, 1) := by decide +kernel
theorem d_104_73 : decode prog_11_method_11_code 73 = .ok (.iaload, 1) := by decide +kernel
theorem d_104_74 : decode prog_11_method_11_code 74 = .ok (.if_icmp .ge 7, 3) := by decide +kernel
theorem d_104_77 : decode prog_11_method_11_code 77 = .ok (.iconst 1, 1) := by decide +kernel
theorem d_104_78 : decode prog_11_method_11_code 78 = .ok (.goto 4, 3) := by decide +kernel
theorem d_104_81 : decode prog_11_method_11_code 81 = .ok (.iconst 0, 1) := by decide +kernel
theorem d_104_82 : decode prog_11_method_11_code 82 = .ok (.istore 7, 2) := by decide +kernel
theorem d_104_84 : decode prog_11_method_11_code 84 = .ok (.aload_n 0, 1) := by decide +kernel
theorem d_104_85 : decode prog_11_method_11_code 85 = .ok (.iload_n 1, 1) := by decide +kernel
theorem d_104_86 : decode prog_11_method_11_code 86 = .ok (.iload 5, 2) := by decide +kernel
theorem d_104_88 : decode prog_11_method_11_code 88 = .ok (.invokevirtual 108, 3) := by decide +kernel
theorem d_104_91 : decode prog_11_method_11_code 91 = .ok (.ifCond .eq 15, 3) := by decide +kernel
theorem d_104_94 : decode prog_11_method_11_code 94 = .ok (.iload 7, 2) := by decide +kernel
theorem d_104_96 : decode prog_11_method_11_code 96 = .ok (.ifCond .eq 10, 3) := by decide +kernel
theorem d_104_99 : decode prog_11_method_11_code 99 = .ok (.iload 4, 2) := by decide +kernel
theorem d_104_101 : decode prog_11_method_11_code 101 = .ok (.iconst 1, 1) := by decide +kernel
theorem d_104_102 : decode prog_11_method_11_code 102 = .ok (.iadd, 1) := by decide +kernel
theorem d_104_103 : decode prog_11_method_11_code 103 = .ok (.goto 5, 3) := by decide +kernel
theorem d_104_106 : decode prog_11_method_11_code 106 = .ok (.iload 4, 2) := by decide +kernel
theorem d_104_108 : decode prog_11_method_11_code 108 = .ok (.istore 4, 2) := by decide +kernel
theorem d_104_110 : decode prog_11_method_11_code 110 = .ok (.iinc 5 1, 3) := by decide +kernel
theorem d_104_113 : decode prog_11_method_11_code 113 = .ok (.goto (-100), 3) := by decide +kernel
theorem d_104_116 : decode prog_11_method_11_code 116 = .ok (.iload 4, 2) := by decide +kernel
theorem d_104_118 : decode prog_11_method_11_code 118 = .ok (.ireturn, 1) := by decide +kernel
theorem d_105_0 : decode prog_11_method_12_code 0 = .ok (.iconst 0, 1) := by decide +kernel
theorem d_105_1 : decode prog_11_method_12_code 1 = .ok (.istore_n 3, 1) := by decide +kernel
theorem d_105_2 : decode prog_11_method_12_code 2 = .ok (.iload_n 3, 1) := by decide +kernel
theorem d_105_3 : decode prog_11_method_12_code 3 = .ok (.bipush 16, 2) := by decide +kernel
theorem d_105_5 : decode prog_11_method_12_code 5 = .ok (.if_icmp .ge 30, 3) := by decide +kernel
theorem d_105_8 : decode prog_11_method_12_code 8 = .ok (.aload_n 0, 1) := by decide +kernel
theorem d_105_9 : decode prog_11_method_12_code 9 = .ok (.iload_n 1, 1) := by decide +kernel
theorem d_105_10 : decode prog_11_method_12_code 10 = .ok (.iload_n 3, 1) := by decide +kernel
theorem d_105_11 : decode prog_11_method_12_code 11 = .ok (.invokevirtual 108, 3) := by decide +kernel
theorem d_105_14 : decode prog_11_method_12_code 14 = .ok (.ifCond .eq 15, 3) := by decide +kernel
theorem d_105_17 : decode prog_11_method_12_code 17 = .ok (.aload_n 0, 1) := by decide +kernel
theorem d_105_18 : decode prog_11_method_12_code 18 = .ok (.iload_n 1, 1) := by decide +kernel
theorem d_105_19 : decode prog_11_method_12_code 19 = .ok (.iload_n 3, 1) := by decide +kernel
theorem d_105_20 : decode prog_11_method_12_code 20 = .ok (.invokevirtual 122, 3) := by decide +kernel
theorem d_105_23 : decode prog_11_method_12_code 23 = .ok (.iload_n 2, 1) := by decide +kernel
theorem d_105_24 : decode prog_11_method_12_code 24 = .ok (.if_icmp .ne 5, 3) := by decide +kernel
theorem d_105_27 : decode prog_11_method_12_code 27 = .ok (.iload_n 3, 1) := by decide +kernel
theorem d_105_28 : decode prog_11_method_12_code 28 = .ok (.ireturn, 1) := by decide +kernel
theorem d_105_29 : decode prog_11_method_12_code 29 = .ok (.iinc 3 1, 3) := by decide +kernel
theorem d_105_32 : decode prog_11_method_12_code 32 = .ok (.goto (-30), 3) := by decide +kernel
theorem d_105_35 : decode prog_11_method_12_code 35 = .ok (.iconst (-1), 1) := by decide +kernel
theorem d_105_36 : decode prog_11_method_12_code 36 = .ok (.ireturn, 1) := by decide +kernel
theorem d_106_0 : decode prog_11_method_13_code 0 = .ok (.iload_n 1, 1) := by decide +kernel
theorem d_106_1 : decode prog_11_method_13_code 1 = .ok (.iconst 0, 1) := by decide +kernel
theorem d_106_2 : decode prog_11_method_13_code 2 = .ok (.iconst 3, 1) := by decide +kernel
theorem d_106_3 : decode prog_11_method_13_code 3 = .ok (.invokestatic 94, 3) := by decide +kernel
theorem d_106_6 : decode prog_11_method_13_code 6 = .ok (.ifCond .ne 5, 3) := by decide +kernel
theorem d_106_9 : decode prog_11_method_13_code 9 = .ok (.iconst (-1), 1) := by decide +kernel
theorem d_106_10 : decode prog_11_method_13_code 10 = .ok (.ireturn, 1) := by decide +kernel
theorem d_106_11 : decode prog_11_method_13_code 11 = .ok (.aload_n 0, 1) := by decide +kernel
theorem d_106_12 : decode prog_11_method_13_code 12 = .ok (.iload_n 1, 1) := by decide +kernel
theorem d_106_13 : decode prog_11_method_13_code 13 = .ok (.iload_n 2, 1) := by decide +kernel
theorem d_106_14 : decode prog_11_method_13_code 14 = .ok (.invokevirtual 126, 3) := by decide +kernel
theorem d_106_17 : decode prog_11_method_13_code 17 = .ok (.istore_n 3, 1) := by decide +kernel
theorem d_106_18 : decode prog_11_method_13_code 18 = .ok (.iload_n 3, 1) := by decide +kernel
theorem d_106_19 : decode prog_11_method_13_code 19 = .ok (.ifCond .ge 7, 3) := by decide +kernel
theorem d_106_22 : decode prog_11_method_13_code 22 = .ok (.iconst (-1), 1) := by decide +kernel
theorem d_106_23 : decode prog_11_method_13_code 23 = .ok (.goto 24, 3) := by decide +kernel
theorem d_106_26 : decode prog_11_method_13_code 26 = .ok (.iload_n 3, 1) := by decide +kernel
theorem d_106_27 : decode prog_11_method_13_code 27 = .ok (.bipush 16, 2) := by decide +kernel
theorem d_106_29 : decode prog_11_method_13_code 29 = .ok (.aload_n 0, 1) := by decide +kernel
theorem d_106_30 : decode prog_11_method_13_code 30 = .ok (.getfield 29, 3) := by decide +kernel
theorem d_106_33 : decode prog_11_method_13_code 33 = .ok (.bipush 16, 2) := by decide +kernel
theorem d_106_35 : decode prog_11_method_13_code 35 = .ok (.iload_n 1, 1) := by decide +kernel
theorem d_106_36 : decode prog_11_method_13_code 36 = .ok (.imul, 1) := by decide +kernel
theorem d_106_37 : decode prog_11_method_13_code 37 = .ok (.iload_n 3, 1) := by decide +kernel
theorem d_106_38 : decode prog_11_method_13_code 38 = .ok (.iadd, 1) := by decide +kernel
theorem d_106_39 : decode prog_11_method_13_code 39 = .ok (.iaload, 1) := by decide +kernel
theorem d_106_40 : decode prog_11_method_13_code 40 = .ok (.aload_n 0, 1) := by decide +kernel
theorem d_106_41 : decode prog_11_method_13_code 41 = .ok (.getfield 99, 3) := by decide +kernel
theorem d_106_44 : decode prog_11_method_13_code 44 = .ok (.isub, 1) := by decide +kernel
theorem d_106_45 : decode prog_11_method_13_code 45 = .ok (.imul, 1) := by decide +kernel
theorem d_106_46 : decode prog_11_method_13_code 46 = .ok (.iadd, 1) := by decide +kernel
theorem d_106_47 : decode prog_11_method_13_code 47 = .ok (.ireturn, 1) := by decide +kernel
theorem d_107_0 : decode prog_11_method_14_code 0 = .ok (.aload_n 0, 1) := by decide +kernel
theorem d_107_1 : decode prog_11_method_14_code 1 = .ok (.getfield 99, 3) := by decide +kernel
theorem d_107_4 : decode prog_11_method_14_code 4 = .ok (.i2l, 1) := by decide +kernel
theorem d_107_5 : decode prog_11_method_14_code 5 = .ok (.ldc2_w 129, 3) := by decide +kernel
theorem d_107_8 : decode prog_11_method_14_code 8 = .ok (.lmul, 1) := by decide +kernel
theorem d_107_9 : decode prog_11_method_14_code 9 = .ok (.iload_n 1, 1) := by decide +kernel
theorem d_107_10 : decode prog_11_method_14_code 10 = .ok (.i2l, 1) := by decide +kernel
theorem d_107_11 : decode prog_11_method_14_code 11 = .ok (.ladd, 1) := by decide +kernel
theorem d_107_12 : decode prog_11_method_14_code 12 = .ok (.ldc2_w 131, 3) := by decide +kernel
theorem d_107_15 : decode prog_11_method_14_code 15 = .ok (.lmul, 1) := by decide +kernel
theorem d_107_16 : decode prog_11_method_14_code 16 = .ok (.iload_n 2, 1) := by decide +kernel
theorem d_107_17 : decode prog_11_method_14_code 17 = .ok (.i2l, 1) := by decide +kernel
theorem d_107_18 : decode prog_11_method_14_code 18 = .ok (.ladd, 1) := by decide +kernel
theorem d_107_19 : decode prog_11_method_14_code 19 = .ok (.lstore 4, 2) := by decide +kernel
theorem d_107_21 : decode prog_11_method_14_code 21 = .ok (.aload_n 0, 1) := by decide +kernel
theorem d_107_22 : decode prog_11_method_14_code 22 = .ok (.getfield 83, 3) := by decide +kernel
theorem d_107_25 : decode prog_11_method_14_code 25 = .ok (.aload_n 0, 1) := by decide +kernel
theorem d_107_26 : decode prog_11_method_14_code 26 = .ok (.getfield 133, 3) := by decide +kernel
theorem d_107_29 : decode prog_11_method_14_code 29 = .ok (.bipush 63, 2) := by decide +kernel
theorem d_107_31 : decode prog_11_method_14_code 31 = .ok (.iand, 1) := by decide +kernel
theorem d_107_32 : decode prog_11_method_14_code 32 = .ok (.lload 4, 2) := by decide +kernel
theorem d_107_34 : decode prog_11_method_14_code 34 = .ok (.ldc2_w 136, 3) := by decide +kernel
theorem d_107_37 : decode prog_11_method_14_code 37 = .ok (.lmul, 1) := by decide +kernel
theorem d_107_38 : decode prog_11_method_14_code 38 = .ok (.iload_n 3, 1) := by decide +kernel
theorem d_107_39 : decode prog_11_method_14_code 39 = .ok (.i2l, 1) := by decide +kernel
theorem d_107_40 : decode prog_11_method_14_code 40 = .ok (.ladd, 1) := by decide +kernel
theorem d_107_41 : decode prog_11_method_14_code 41 = .ok (.lastore, 1) := by decide +kernel
theorem d_107_42 : decode prog_11_method_14_code 42 = .ok (.aload_n 0, 1) := by decide +kernel
theorem d_107_43 : decode prog_11_method_14_code 43 = .ok (.dup, 1) := by decide +kernel
theorem d_107_44 : decode prog_11_method_14_code 44 = .ok (.getfield 133, 3) := by decide +kernel
theorem d_107_47 : decode prog_11_method_14_code 47 = .ok (.iconst 1, 1) := by decide +kernel
theorem d_107_48 : decode prog_11_method_14_code 48 = .ok (.iadd, 1) := by decide +kernel
theorem d_107_49 : decode prog_11_method_14_code 49 = .ok (.putfield 133, 3) := by decide +kernel
theorem d_107_52 : decode prog_11_method_14_code 52 = .ok (.return_, 1) := by decide +kernel
theorem d_108_0 : decode prog_11_method_15_code 0 = .ok (.aload_n 0, 1) := by decide +kernel
theorem d_108_1 : decode prog_11_method_15_code 1 = .ok (.iload_n 1, 1) := by decide +kernel
theorem d_108_2 : decode prog_11_method_15_code 2 = .ok (.bipush 7, 2) := by decide +kernel
theorem d_108_4 : decode prog_11_method_15_code 4 = .ok (.iload_n 2, 1) := by decide +kernel
theorem d_108_5 : decode prog_11_method_15_code 5 = .ok (.invokevirtual 138, 3) := by decide +kernel
theorem d_108_8 : decode prog_11_method_15_code 8 = .ok (.iload_n 2, 1) := by decide +kernel
theorem d_108_9 : decode prog_11_method_15_code 9 = .ok (.sipush 200, 3) := by decide +kernel
theorem d_108_12 : decode prog_11_method_15_code 12 = .ok (.if_icmp .lt 10, 3) := by decide +kernel
theorem d_108_15 : decode prog_11_method_15_code 15 = .ok (.iload_n 2, 1) := by decide +kernel
theorem d_108_16 : decode prog_11_method_15_code 16 = .ok (.sipush 299, 3) := by decide +kernel
theorem d_108_19 : decode prog_11_method_15_code 19 = .ok (.if_icmp .le 10, 3) := by decide +kernel
theorem d_108_22 : decode prog_11_method_15_code 22 = .ok (.aload_n 0, 1) := by decide +kernel
theorem d_108_23 : decode prog_11_method_15_code 23 = .ok (.getfield 44, 3) := by decide +kernel
theorem d_108_26 : decode prog_11_method_15_code 26 = .ok (.iload_n 1, 1) := by decide +kernel
theorem d_108_27 : decode prog_11_method_15_code 27 = .ok (.iload_n 2, 1) := by decide +kernel
theorem d_108_28 : decode prog_11_method_15_code 28 = .ok (.iastore, 1) := by decide +kernel
theorem d_108_29 : decode prog_11_method_15_code 29 = .ok (.return_, 1) := by decide +kernel
theorem d_109_0 : decode prog_11_method_16_code 0 = .ok (.iload_n 1, 1) := by decide +kernel
theorem d_109_1 : decode prog_11_method_16_code 1 = .ok (.iconst 0, 1) := by decide +kernel
theorem d_109_2 : decode prog_11_method_16_code 2 = .ok (.iconst 3, 1) := by decide +kernel
theorem d_109_3 : decode prog_11_method_16_code 3 = .ok (.invokestatic 94, 3) := by decide +kernel
theorem d_109_6 : decode prog_11_method_16_code 6 = .ok (.ifCond .eq 12, 3) := by decide +kernel
theorem d_109_9 : decode prog_11_method_16_code 9 = .ok (.aload_n 0, 1) := by decide +kernel
theorem d_109_10 : decode prog_11_method_16_code 10 = .ok (.getfield 41, 3) := by decide +kernel
theorem d_109_13 : decode prog_11_method_16_code 13 = .ok (.iload_n 1, 1) := by decide +kernel
theorem d_109_14 : decode prog_11_method_16_code 14 = .ok (.iaload, 1) := by decide +kernel
theorem d_109_15 : decode prog_11_method_16_code 15 = .ok (.ifCond .ne 5, 3) := by decide +kernel
theorem d_109_18 : decode prog_11_method_16_code 18 = .ok (.iconst 0, 1) := by decide +kernel
theorem d_109_19 : decode prog_11_method_16_code 19 = .ok (.ireturn, 1) := by decide +kernel
theorem d_109_20 : decode prog_11_method_16_code 20 = .ok (.aload_n 0, 1) := by decide +kernel
theorem d_109_21 : decode prog_11_method_16_code 21 = .ok (.getfield 41, 3) := by decide +kernel
theorem d_109_24 : decode prog_11_method_16_code 24 = .ok (.iload_n 1, 1) := by decide +kernel
theorem d_109_25 : decode prog_11_method_16_code 25 = .ok (.iaload, 1) := by decide +kernel
theorem d_109_26 : decode prog_11_method_16_code 26 = .ok (.iconst 5, 1) := by decide +kernel
theorem d_109_27 : decode prog_11_method_16_code 27 = .ok (.if_icmp .eq 7, 3) := by decide +kernel
theorem d_109_30 : decode prog_11_method_16_code 30 = .ok (.iconst 1, 1) := by decide +kernel
theorem d_109_31 : decode prog_11_method_16_code 31 = .ok (.goto 4, 3) := by decide +kernel
theorem d_109_34 : decode prog_11_method_16_code 34 = .ok (.iconst 0, 1) := by decide +kernel
theorem d_109_35 : decode prog_11_method_16_code 35 = .ok (.istore_n 2, 1) := by decide +kernel
theorem d_109_36 : decode prog_11_method_16_code 36 = .ok (.iconst 0, 1) := by decide +kernel
theorem d_109_37 : decode prog_11_method_16_code 37 = .ok (.istore_n 3, 1) := by decide +kernel
theorem d_109_38 : decode prog_11_method_16_code 38 = .ok (.iload_n 3, 1) := by decide +kernel
theorem d_109_39 : decode prog_11_method_16_code 39 = .ok (.aload_n 0, 1) := by decide +kernel
theorem d_109_40 : decode prog_11_method_16_code 40 = .ok (.getfield 53, 3) := by decide +kernel
theorem d_109_43 : decode prog_11_method_16_code 43 = .ok (.iload_n 1, 1) := by decide +kernel
theorem d_109_44 : decode prog_11_method_16_code 44 = .ok (.iaload, 1) := by decide +kernel
theorem d_109_45 : decode prog_11_method_16_code 45 = .ok (.if_icmp .ge 33, 3) := by decide +kernel
theorem d_109_48 : decode prog_11_method_16_code 48 = .ok (.iload_n 2, 1) := by decide +kernel
theorem d_109_49 : decode prog_11_method_16_code 49 = .ok (.ifCond .ne 17, 3) := by decide +kernel
theorem d_109_52 : decode prog_11_method_16_code 52 = .ok (.aload_n 0, 1) := by decide +kernel
theorem d_109_53 : decode prog_11_method_16_code 53 = .ok (.getfield 56, 3) := by decide +kernel
theorem d_109_56 : decode prog_11_method_16_code 56 = .ok (.iconst 4, 1) := by decide +kernel
theorem d_109_57 : decode prog_11_method_16_code 57 = .ok (.iload_n 1, 1) := by decide +kernel
theorem d_109_58 : decode prog_11_method_16_code 58 = .ok (.imul, 1) := by decide +kernel
theorem d_109_59 : decode prog_11_method_16_code 59 = .ok (.iload_n 3, 1) := by decide +kernel
theorem d_109_60 : decode prog_11_method_16_code 60 = .ok (.iadd, 1) := by decide +kernel
theorem d_109_61 : decode prog_11_method_16_code 61 = .ok (.iaload, 1) := by decide +kernel
theorem d_109_62 : decode prog_11_method_16_code 62 = .ok (.iconst 4, 1) := by decide +kernel
theorem d_109_63 : decode prog_11_method_16_code 63 = .ok (.if_icmp .eq 7, 3) := by decide +kernel
theorem d_109_66 : decode prog_11_method_16_code 66 = .ok (.iconst 1, 1) := by decide +kernel
theorem d_109_67 : decode prog_11_method_16_code 67 = .ok (.goto 4, 3) := by decide +kernel
theorem d_109_70 : decode prog_11_method_16_code 70 = .ok (.iconst 0, 1) := by decide +kernel
theorem d_109_71 : decode prog_11_method_16_code 71 = .ok (.istore_n 2, 1) := by decide +kernel
theorem d_109_72 : decode prog_11_method_16_code 72 = .ok (.iinc 3 1, 3) := by decide +kernel
theorem d_109_75 : decode prog_11_method_16_code 75 = .ok (.goto (-37), 3) := by decide +kernel
theorem d_109_78 : decode prog_11_method_16_code 78 = .ok (.iload_n 2, 1) := by decide +kernel
theorem d_109_79 : decode prog_11_method_16_code 79 = .ok (.ireturn, 1) := by decide +kernel
theorem d_110_0 : decode prog_11_method_17_code 0 = .ok (.aload_n 0, 1) := by decide +kernel
theorem d_110_1 : decode prog_11_method_17_code 1 = .ok (.iload_n 1, 1) := by decide +kernel
theorem d_110_2 : decode prog_11_method_17_code 2 = .ok (.invokevirtual 142, 3) := by decide +kernel
theorem d_110_5 : decode prog_11_method_17_code 5 = .ok (.ifCond .eq 21, 3) := by decide +kernel
theorem d_110_8 : decode prog_11_method_17_code 8 = .ok (.iload_n 2, 1) := by decide +kernel
theorem d_110_9 : decode prog_11_method_17_code 9 = .ok (.ifCond .lt 17, 3) := by decide +kernel
theorem d_110_12 : decode prog_11_method_17_code 12 = .ok (.iload_n 2, 1) := by decide +kernel
theorem d_110_13 : decode prog_11_method_17_code 13 = .ok (.aload_n 0, 1) := by decide +kernel
theorem d_110_14 : decode prog_11_method_17_code 14 = .ok (.getfield 53, 3) := by decide +kernel
theorem d_110_17 : decode prog_11_method_17_code 17 = .ok (.iload_n 1, 1) := by decide +kernel
theorem d_110_18 : decode prog_11_method_17_code 18 = .ok (.iaload, 1) := by decide +kernel
theorem d_110_19 : decode prog_11_method_17_code 19 = .ok (.if_icmp .ge 7, 3) := by decide +kernel
theorem d_110_22 : decode prog_11_method_17_code 22 = .ok (.iconst 1, 1) := by decide +kernel
theorem d_110_23 : decode prog_11_method_17_code 23 = .ok (.goto 4, 3) := by decide +kernel
theorem d_110_26 : decode prog_11_method_17_code 26 = .ok (.iconst 0, 1) := by decide +kernel
theorem d_110_27 : decode prog_11_method_17_code 27 = .ok (.ireturn, 1) := by decide +kernel
theorem d_111_0 : decode prog_11_method_18_code 0 = .ok (.aload_n 0, 1) := by decide +kernel
theorem d_111_1 : decode prog_11_method_18_code 1 = .ok (.getfield 41, 3) := by decide +kernel
theorem d_111_4 : decode prog_11_method_18_code 4 = .ok (.iload_n 1, 1) := by decide +kernel
theorem d_111_5 : decode prog_11_method_18_code 5 = .ok (.iload_n 2, 1) := by decide +kernel
theorem d_111_6 : decode prog_11_method_18_code 6 = .ok (.iastore, 1) := by decide +kernel
theorem d_111_7 : decode prog_11_method_18_code 7 = .ok (.iconst 0, 1) := by decide +kernel
theorem d_111_8 : decode prog_11_method_18_code 8 = .ok (.istore_n 3, 1) := by decide +kernel
theorem d_111_9 : decode prog_11_method_18_code 9 = .ok (.iload_n 3, 1) := by decide +kernel
theorem d_111_10 : decode prog_11_method_18_code 10 = .ok (.iconst 2, 1) := by decide +kernel
theorem d_111_11 : decode prog_11_method_18_code 11 = .ok (.if_icmp .ge 25, 3) := by decide +kernel
theorem d_111_14 : decode prog_11_method_18_code 14 = .ok (.iload_n 2, 1) := by decide +kernel
theorem d_111_15 : decode prog_11_method_18_code 15 = .ok (.iconst 2, 1) := by decide +kernel
theorem d_111_16 : decode prog_11_method_18_code 16 = .ok (.if_icmp .eq 20, 3) := by decide +kernel
theorem d_111_19 : decode prog_11_method_18_code 19 = .ok (.aload_n 0, 1) := by decide +kernel
theorem d_111_20 : decode prog_11_method_18_code 20 = .ok (.getfield 47, 3) := by decide +kernel
theorem d_111_23 : decode prog_11_method_18_code 23 = .ok (.iconst 4, 1) := by decide +kernel
theorem d_111_24 : decode prog_11_method_18_code 24 = .ok (.iload_n 1, 1) := by decide +kernel
theorem d_111_25 : decode prog_11_method_18_code 25 = .ok (.imul, 1) := by decide +kernel
theorem d_111_26 : decode prog_11_method_18_code 26 = .ok (.iload_n 3, 1) := by decide +kernel
theorem d_111_27 : decode prog_11_method_18_code 27 = .ok (.iadd, 1) := by decide +kernel
theorem d_111_28 : decode prog_11_method_18_code 28 = .ok (.iconst 0, 1) := by decide +kernel
theorem d_111_29 : decode prog_11_method_18_code 29 = .ok (.iastore, 1) := by decide +kernel
theorem d_111_30 : decode prog_11_method_18_code 30 = .ok (.iinc 3 1, 3) := by decide +kernel
theorem d_111_33 : decode prog_11_method_18_code 33 = .ok (.goto (-24), 3) := by decide +kernel
theorem d_111_36 : decode prog_11_method_18_code 36 = .ok (.return_, 1) := by decide +kernel
theorem d_112_0 : decode prog_11_method_19_code 0 = .ok (.aload_n 0, 1) := by decide +kernel
theorem d_112_1 : decode prog_11_method_19_code 1 = .ok (.iload_n 1, 1) := by decide +kernel
theorem d_112_2 : decode prog_11_method_19_code 2 = .ok (.iload_n 2, 1) := by decide +kernel
theorem d_112_3 : decode prog_11_method_19_code 3 = .ok (.invokevirtual 146, 3) := by decide +kernel
theorem d_112_6 : decode prog_11_method_19_code 6 = .ok (.aload_n 0, 1) := by decide +kernel
theorem d_112_7 : decode prog_11_method_19_code 7 = .ok (.iload_n 1, 1) := by decide +kernel
theorem d_112_8 : decode prog_11_method_19_code 8 = .ok (.iconst 2, 1) := by decide +kernel
theorem d_112_9 : decode prog_11_method_19_code 9 = .ok (.invokevirtual 150, 3) := by decide +kernel
theorem d_112_12 : decode prog_11_method_19_code 12 = .ok (.aload_n 0, 1) := by decide +kernel
theorem d_112_13 : decode prog_11_method_19_code 13 = .ok (.getfield 47, 3) := by decide +kernel
theorem d_112_16 : decode prog_11_method_19_code 16 = .ok (.iconst 4, 1) := by decide +kernel
theorem d_112_17 : decode prog_11_method_19_code 17 = .ok (.iload_n 1, 1) := by decide +kernel
theorem d_112_18 : decode prog_11_method_19_code 18 = .ok (.imul, 1) := by decide +kernel
theorem d_112_19 : decode prog_11_method_19_code 19 = .ok (.aload_n 0, 1) := by decide +kernel
theorem d_112_20 : decode prog_11_method_19_code 20 = .ok (.getfield 99, 3) := by decide +kernel
theorem d_112_23 : decode prog_11_method_19_code 23 = .ok (.aload_n 0, 1) := by decide +kernel
theorem d_112_24 : decode prog_11_method_19_code 24 = .ok (.getfield 87, 3) := by decide +kernel
theorem d_112_27 : decode prog_11_method_19_code 27 = .ok (.iadd, 1) := by decide +kernel
theorem d_112_28 : decode prog_11_method_19_code 28 = .ok (.iastore, 1) := by decide +kernel
theorem d_112_29 : decode prog_11_method_19_code 29 = .ok (.aload_n 0, 1) := by decide +kernel
theorem d_112_30 : decode prog_11_method_19_code 30 = .ok (.getfield 47, 3) := by decide +kernel
theorem d_112_33 : decode prog_11_method_19_code 33 = .ok (.iconst 4, 1) := by decide +kernel
theorem d_112_34 : decode prog_11_method_19_code 34 = .ok (.iload_n 1, 1) := by decide +kernel
theorem d_112_35 : decode prog_11_method_19_code 35 = .ok (.imul, 1) := by decide +kernel
theorem d_112_36 : decode prog_11_method_19_code 36 = .ok (.iconst 1, 1) := by decide +kernel
theorem d_112_37 : decode prog_11_method_19_code 37 = .ok (.iadd, 1) := by decide +kernel
theorem d_112_38 : decode prog_11_method_19_code 38 = .ok (.aload_n 0, 1) := by decide +kernel
theorem d_112_39 : decode prog_11_method_19_code 39 = .ok (.getfield 99, 3) := by decide +kernel
theorem d_112_42 : decode prog_11_method_19_code 42 = .ok (.bipush 64, 2) := by decide +kernel
theorem d_112_44 : decode prog_11_method_19_code 44 = .ok (.aload_n 0, 1) := by decide +kernel
theorem d_112_45 : decode prog_11_method_19_code 45 = .ok (.getfield 87, 3) := by decide +kernel
theorem d_112_48 : decode prog_11_method_19_code 48 = .ok (.imul, 1) := by decide +kernel
theorem d_112_49 : decode prog_11_method_19_code 49 = .ok (.iadd, 1) := by decide +kernel
theorem d_112_50 : decode prog_11_method_19_code 50 = .ok (.iastore, 1) := by decide +kernel
theorem d_112_51 : decode prog_11_method_19_code 51 = .ok (.aload_n 0, 1) := by decide +kernel
theorem d_112_52 : decode prog_11_method_19_code 52 = .ok (.getfield 50, 3) := by decide +kernel
theorem d_112_55 : decode prog_11_method_19_code 55 = .ok (.iload_n 1, 1) := by decide +kernel
theorem d_112_56 : decode prog_11_method_19_code 56 = .ok (.aload_n 0, 1) := by decide +kernel
theorem d_112_57 : decode prog_11_method_19_code 57 = .ok (.getfield 87, 3) := by decide +kernel
theorem d_112_60 : decode prog_11_method_19_code 60 = .ok (.iastore, 1) := by decide +kernel
theorem d_112_61 : decode prog_11_method_19_code 61 = .ok (.return_, 1) := by decide +kernel
