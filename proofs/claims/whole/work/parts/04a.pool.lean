theorem cq_0_1 : ix_cpo 0 1 = (9, 0, 1) := by decide +kernel
theorem cq_0_7 : ix_cpo 0 7 = (4, 4, 0) := by decide +kernel
theorem cq_0_9 : ix_cpo 0 9 = (11, 0, 2) := by decide +kernel
theorem cq_0_15 : ix_cpo 0 15 = (10, 0, 2) := by decide +kernel
theorem cq_0_18 : ix_cpo 0 18 = (7, 59, 2) := by decide +kernel
theorem cq_0_21 : ix_cpo 0 21 = (3, 0, 0) := by decide +kernel
theorem cq_0_27 : ix_cpo 0 27 = (4, 5, 0) := by decide +kernel
theorem cq_0_29 : ix_cpo 0 29 = (7, 60, 2) := by decide +kernel
theorem cq_0_32 : ix_cpo 0 32 = (3, 0, 1) := by decide +kernel
theorem cq_0_36 : ix_cpo 0 36 = (4, 8, 103) := by decide +kernel
theorem cq_0_38 : ix_cpo 0 38 = (3, 0, 2) := by decide +kernel
theorem cq_0_42 : ix_cpo 0 42 = (7, 81, 2) := by decide +kernel
theorem cq_0_43 : ix_cpo 0 43 = (4, 3, 104) := by decide +kernel
theorem cq_0_45 : ix_cpo 0 45 = (3, 0, 3) := by decide +kernel
theorem cq_0_49 : ix_cpo 0 49 = (7, 42, 4) := by decide +kernel
theorem cq_0_52 : ix_cpo 0 52 = (3, 0, 4) := by decide +kernel
theorem cq_0_56 : ix_cpo 0 56 = (6, 20, 2) := by decide +kernel
theorem cq_0_60 : ix_cpo 0 60 = (3, 8, 1) := by decide +kernel
theorem cq_0_63 : ix_cpo 0 63 = (1, 69069, 0) := by decide +kernel
theorem cq_0_64 : ix_cpo 0 64 = (6, 82, 2) := by decide +kernel
theorem cq_0_67 : ix_cpo 0 67 = (6, 83, 3) := by decide +kernel
theorem cq_0_71 : ix_cpo 0 71 = (8, 23, 3) := by decide +kernel
theorem cq_0_75 : ix_cpo 0 75 = (3, 8, 2) := by decide +kernel
theorem cq_0_79 : ix_cpo 0 79 = (6, 85, 1) := by decide +kernel
theorem cq_0_82 : ix_cpo 0 82 = (6, 86, 3) := by decide +kernel
theorem cq_0_85 : ix_cpo 0 85 = (6, 87, 1) := by decide +kernel
theorem cq_0_88 : ix_cpo 0 88 = (6, 88, 2) := by decide +kernel
theorem cq_0_91 : ix_cpo 0 91 = (6, 90, 5) := by decide +kernel
theorem cq_0_95 : ix_cpo 0 95 = (3, 8, 8) := by decide +kernel
theorem cq_0_98 : ix_cpo 0 98 = (6, 92, 2) := by decide +kernel
theorem cq_0_102 : ix_cpo 0 102 = (3, 1, 0) := by decide +kernel
theorem cq_0_107 : ix_cpo 0 107 = (3, 1, 2) := by decide +kernel
theorem cq_0_110 : ix_cpo 0 110 = (3, 4, 1) := by decide +kernel
theorem cq_0_113 : ix_cpo 0 113 = (3, 5, 2) := by decide +kernel
theorem cq_0_116 : ix_cpo 0 116 = (6, 43, 1) := by decide +kernel
theorem cq_0_120 : ix_cpo 0 120 = (3, 3, 1) := by decide +kernel
theorem cq_0_124 : ix_cpo 0 124 = (6, 67, 1) := by decide +kernel
theorem cq_0_129 : ix_cpo 0 129 = (6, 24, 4) := by decide +kernel
theorem cq_0_133 : ix_cpo 0 133 = (6, 25, 4) := by decide +kernel
theorem cq_0_137 : ix_cpo 0 137 = (6, 22, 3) := by decide +kernel
theorem cq_0_141 : ix_cpo 0 141 = (6, 48, 3) := by decide +kernel
theorem cq_0_145 : ix_cpo 0 145 = (3, 2, 8) := by decide +kernel
theorem cq_0_151 : ix_cpo 0 151 = (6, 79, 1) := by decide +kernel
theorem cq_0_156 : ix_cpo 0 156 = (6, 78, 1) := by decide +kernel
theorem cq_0_159 : ix_cpo 0 159 = (6, 21, 2) := by decide +kernel
theorem cq_0_163 : ix_cpo 0 163 = (3, 6, 7) := by decide +kernel
theorem cq_0_166 : ix_cpo 0 166 = (6, 47, 1) := by decide +kernel
theorem cq_0_169 : ix_cpo 0 169 = (6, 70, 1) := by decide +kernel
theorem cq_0_172 : ix_cpo 0 172 = (6, 26, 1) := by decide +kernel
theorem cq_0_176 : ix_cpo 0 176 = (6, 27, 1) := by decide +kernel
theorem cq_0_179 : ix_cpo 0 179 = (3, 6, 8) := by decide +kernel
theorem cq_0_182 : ix_cpo 0 182 = (3, 2, 11) := by decide +kernel
theorem cq_0_183 : ix_cpo 0 183 = (3, 2, 12) := by decide +kernel
theorem cq_0_186 : ix_cpo 0 186 = (3, 2, 10) := by decide +kernel
theorem cq_0_187 : ix_cpo 0 187 = (3, 2, 14) := by decide +kernel
theorem cq_0_190 : ix_cpo 0 190 = (6, 44, 1) := by decide +kernel
theorem cq_0_193 : ix_cpo 0 193 = (6, 62, 2) := by decide +kernel
theorem cq_0_197 : ix_cpo 0 197 = (3, 3, 3) := by decide +kernel
theorem cq_0_200 : ix_cpo 0 200 = (3, 3, 2) := by decide +kernel
theorem cq_0_204 : ix_cpo 0 204 = (6, 17, 1) := by decide +kernel
theorem cq_0_207 : ix_cpo 0 207 = (3, 3, 0) := by decide +kernel
theorem cq_0_210 : ix_cpo 0 210 = (6, 61, 4) := by decide +kernel
theorem cq_0_214 : ix_cpo 0 214 = (6, 46, 2) := by decide +kernel
theorem cq_0_218 : ix_cpo 0 218 = (6, 45, 2) := by decide +kernel
theorem cq_0_221 : ix_cpo 0 221 = (1, 2147483647, 0) := by decide +kernel
theorem cq_0_222 : ix_cpo 0 222 = (6, 58, 1) := by decide +kernel
theorem cq_0_223 : ix_cpo 0 223 = (6, 57, 1) := by decide +kernel
theorem cq_1_1 : ix_cpo 1 1 = (9, 0, 1) := by decide +kernel
theorem cq_2_3 : ix_cpo 2 3 = (9, 0, 1) := by decide +kernel
theorem cq_2_11 : ix_cpo 2 11 = (3, 2, 11) := by decide +kernel
theorem cq_2_15 : ix_cpo 2 15 = (3, 2, 0) := by decide +kernel
theorem cq_2_19 : ix_cpo 2 19 = (3, 2, 1) := by decide +kernel
theorem cq_2_23 : ix_cpo 2 23 = (3, 2, 2) := by decide +kernel
theorem cq_2_26 : ix_cpo 2 26 = (3, 2, 3) := by decide +kernel
theorem cq_2_29 : ix_cpo 2 29 = (4, 7, 0) := by decide +kernel
theorem cq_2_31 : ix_cpo 2 31 = (7, 74, 2) := by decide +kernel
theorem cq_2_34 : ix_cpo 2 34 = (3, 2, 4) := by decide +kernel
theorem cq_2_38 : ix_cpo 2 38 = (3, 2, 5) := by decide +kernel
theorem cq_2_41 : ix_cpo 2 41 = (3, 2, 6) := by decide +kernel
theorem cq_2_44 : ix_cpo 2 44 = (3, 2, 7) := by decide +kernel
theorem cq_2_47 : ix_cpo 2 47 = (3, 2, 8) := by decide +kernel
theorem cq_2_50 : ix_cpo 2 50 = (3, 2, 9) := by decide +kernel
theorem cq_2_53 : ix_cpo 2 53 = (3, 2, 10) := by decide +kernel
theorem cq_2_56 : ix_cpo 2 56 = (3, 2, 12) := by decide +kernel
theorem cq_2_60 : ix_cpo 2 60 = (3, 2, 13) := by decide +kernel
theorem cq_2_63 : ix_cpo 2 63 = (3, 2, 14) := by decide +kernel
theorem cq_2_66 : ix_cpo 2 66 = (6, 39, 2) := by decide +kernel
theorem cq_2_70 : ix_cpo 2 70 = (6, 61, 4) := by decide +kernel
theorem cq_2_76 : ix_cpo 2 76 = (3, 4, 0) := by decide +kernel
theorem cq_2_81 : ix_cpo 2 81 = (6, 75, 2) := by decide +kernel
theorem cq_2_84 : ix_cpo 2 84 = (6, 78, 1) := by decide +kernel
theorem cq_2_87 : ix_cpo 2 87 = (6, 37, 1) := by decide +kernel
theorem cq_2_90 : ix_cpo 2 90 = (6, 31, 1) := by decide +kernel
theorem cq_2_94 : ix_cpo 2 94 = (6, 80, 1) := by decide +kernel
theorem cq_2_97 : ix_cpo 2 97 = (6, 76, 1) := by decide +kernel
theorem cq_2_100 : ix_cpo 2 100 = (6, 38, 1) := by decide +kernel
theorem cq_2_103 : ix_cpo 2 103 = (6, 34, 1) := by decide +kernel
theorem cq_2_106 : ix_cpo 2 106 = (6, 77, 2) := by decide +kernel
theorem cq_2_109 : ix_cpo 2 109 = (3, 7, 2) := by decide +kernel
theorem cq_2_112 : ix_cpo 2 112 = (11, 0, 2) := by decide +kernel
theorem cq_3_3 : ix_cpo 3 3 = (9, 0, 1) := by decide +kernel
theorem cq_3_9 : ix_cpo 3 9 = (4, 2, 106) := by decide +kernel
theorem cq_3_11 : ix_cpo 3 11 = (3, 3, 2) := by decide +kernel
theorem cq_3_17 : ix_cpo 3 17 = (3, 3, 0) := by decide +kernel
theorem cq_3_21 : ix_cpo 3 21 = (4, 6, 0) := by decide +kernel
theorem cq_3_23 : ix_cpo 3 23 = (7, 63, 4) := by decide +kernel
theorem cq_3_26 : ix_cpo 3 26 = (3, 3, 1) := by decide +kernel
theorem cq_3_30 : ix_cpo 3 30 = (7, 29, 5) := by decide +kernel
theorem cq_3_33 : ix_cpo 3 33 = (6, 44, 1) := by decide +kernel
theorem cq_3_37 : ix_cpo 3 37 = (3, 6, 7) := by decide +kernel
theorem cq_3_40 : ix_cpo 3 40 = (3, 3, 3) := by decide +kernel
theorem cq_3_43 : ix_cpo 3 43 = (3, 2, 11) := by decide +kernel
theorem cq_3_44 : ix_cpo 3 44 = (6, 69, 2) := by decide +kernel
theorem cq_3_48 : ix_cpo 3 48 = (3, 3, 4) := by decide +kernel
theorem cq_3_51 : ix_cpo 3 51 = (6, 64, 1) := by decide +kernel
theorem cq_3_54 : ix_cpo 3 54 = (6, 92, 2) := by decide +kernel
theorem cq_3_60 : ix_cpo 3 60 = (3, 1, 0) := by decide +kernel
theorem cq_3_65 : ix_cpo 3 65 = (6, 30, 2) := by decide +kernel
theorem cq_3_68 : ix_cpo 3 68 = (6, 31, 1) := by decide +kernel
theorem cq_3_72 : ix_cpo 3 72 = (6, 34, 1) := by decide +kernel
theorem cq_3_75 : ix_cpo 3 75 = (6, 49, 3) := by decide +kernel
theorem cq_3_79 : ix_cpo 3 79 = (6, 50, 3) := by decide +kernel
theorem cq_3_82 : ix_cpo 3 82 = (6, 51, 3) := by decide +kernel
theorem cq_3_85 : ix_cpo 3 85 = (6, 32, 1) := by decide +kernel
theorem cq_3_86 : ix_cpo 3 86 = (6, 33, 1) := by decide +kernel
theorem cq_3_89 : ix_cpo 3 89 = (6, 65, 2) := by decide +kernel
theorem cq_3_92 : ix_cpo 3 92 = (3, 2, 12) := by decide +kernel
theorem cq_3_96 : ix_cpo 3 96 = (6, 35, 2) := by decide +kernel
theorem cq_3_99 : ix_cpo 3 99 = (6, 52, 2) := by decide +kernel
theorem cq_3_103 : ix_cpo 3 103 = (6, 66, 2) := by decide +kernel
theorem cq_3_106 : ix_cpo 3 106 = (6, 68, 1) := by decide +kernel
theorem cq_3_109 : ix_cpo 3 109 = (6, 47, 1) := by decide +kernel
theorem cq_3_112 : ix_cpo 3 112 = (6, 37, 1) := by decide +kernel
theorem cq_3_115 : ix_cpo 3 115 = (6, 36, 2) := by decide +kernel
theorem cq_3_118 : ix_cpo 3 118 = (6, 53, 1) := by decide +kernel
theorem cq_3_121 : ix_cpo 3 121 = (3, 2, 15) := by decide +kernel
theorem cq_3_124 : ix_cpo 3 124 = (6, 54, 1) := by decide +kernel
theorem cq_3_127 : ix_cpo 3 127 = (8, 55, 2) := by decide +kernel
theorem cq_3_131 : ix_cpo 3 131 = (3, 2, 14) := by decide +kernel
theorem cq_3_134 : ix_cpo 3 134 = (8, 56, 1) := by decide +kernel
theorem cq_3_138 : ix_cpo 3 138 = (6, 72, 1) := by decide +kernel
theorem cq_3_141 : ix_cpo 3 141 = (6, 40, 1) := by decide +kernel
theorem cq_3_143 : ix_cpo 3 143 = (6, 73, 1) := by decide +kernel
theorem cq_3_146 : ix_cpo 3 146 = (6, 41, 1) := by decide +kernel
theorem cq_3_147 : ix_cpo 3 147 = (11, 0, 2) := by decide +kernel
theorem cq_4_1 : ix_cpo 4 1 = (9, 0, 1) := by decide +kernel
theorem cq_4_7 : ix_cpo 4 7 = (3, 4, 0) := by decide +kernel
theorem cq_5_3 : ix_cpo 5 3 = (9, 0, 1) := by decide +kernel
theorem cq_5_11 : ix_cpo 5 11 = (3, 5, 1) := by decide +kernel
theorem cq_5_15 : ix_cpo 5 15 = (3, 5, 0) := by decide +kernel
theorem cq_5_19 : ix_cpo 5 19 = (3, 4, 1) := by decide +kernel
theorem cq_5_25 : ix_cpo 5 25 = (2, 4, 0) := by decide +kernel
theorem cq_5_27 : ix_cpo 5 27 = (2, 8, 0) := by decide +kernel
theorem cq_5_29 : ix_cpo 5 29 = (3, 5, 2) := by decide +kernel
theorem cq_5_32 : ix_cpo 5 32 = (2, 1024, 0) := by decide +kernel
theorem cq_5_34 : ix_cpo 5 34 = (2, 18446744073709551615, 0) := by decide +kernel
theorem cq_6_1 : ix_cpo 6 1 = (9, 0, 1) := by decide +kernel
theorem cq_6_9 : ix_cpo 6 9 = (3, 6, 7) := by decide +kernel
theorem cq_6_13 : ix_cpo 6 13 = (3, 6, 0) := by decide +kernel
theorem cq_6_17 : ix_cpo 6 17 = (3, 6, 1) := by decide +kernel
theorem cq_6_21 : ix_cpo 6 21 = (3, 6, 2) := by decide +kernel
theorem cq_6_24 : ix_cpo 6 24 = (4, 7, 0) := by decide +kernel
theorem cq_6_26 : ix_cpo 6 26 = (7, 74, 2) := by decide +kernel
theorem cq_6_29 : ix_cpo 6 29 = (3, 6, 3) := by decide +kernel
theorem cq_6_33 : ix_cpo 6 33 = (3, 6, 4) := by decide +kernel
theorem cq_6_36 : ix_cpo 6 36 = (3, 6, 5) := by decide +kernel
theorem cq_6_39 : ix_cpo 6 39 = (3, 6, 6) := by decide +kernel
theorem cq_6_42 : ix_cpo 6 42 = (6, 71, 2) := by decide +kernel
theorem cq_6_46 : ix_cpo 6 46 = (6, 65, 2) := by decide +kernel
theorem cq_6_49 : ix_cpo 6 49 = (3, 6, 8) := by decide +kernel
theorem cq_6_54 : ix_cpo 6 54 = (6, 61, 4) := by decide +kernel
theorem cq_6_58 : ix_cpo 6 58 = (3, 4, 0) := by decide +kernel
theorem cq_6_63 : ix_cpo 6 63 = (6, 75, 2) := by decide +kernel
theorem cq_6_66 : ix_cpo 6 66 = (6, 78, 1) := by decide +kernel
theorem cq_6_69 : ix_cpo 6 69 = (6, 80, 1) := by decide +kernel
theorem cq_6_73 : ix_cpo 6 73 = (6, 77, 2) := by decide +kernel
theorem cq_6_76 : ix_cpo 6 76 = (3, 7, 2) := by decide +kernel
theorem cq_6_79 : ix_cpo 6 79 = (11, 0, 2) := by decide +kernel
theorem cq_7_1 : ix_cpo 7 1 = (9, 0, 1) := by decide +kernel
theorem cq_7_9 : ix_cpo 7 9 = (1, 2147483647, 0) := by decide +kernel
theorem cq_7_10 : ix_cpo 7 10 = (3, 7, 2) := by decide +kernel
theorem cq_7_14 : ix_cpo 7 14 = (3, 7, 0) := by decide +kernel
theorem cq_7_18 : ix_cpo 7 18 = (3, 7, 1) := by decide +kernel
theorem cq_7_21 : ix_cpo 7 21 = (3, 4, 1) := by decide +kernel
theorem cq_7_26 : ix_cpo 7 26 = (6, 75, 2) := by decide +kernel
theorem cq_7_30 : ix_cpo 7 30 = (11, 0, 2) := by decide +kernel
theorem cq_8_3 : ix_cpo 8 3 = (9, 0, 1) := by decide +kernel
theorem cq_8_9 : ix_cpo 8 9 = (4, 1, 105) := by decide +kernel
theorem cq_8_11 : ix_cpo 8 11 = (3, 8, 7) := by decide +kernel
theorem cq_8_17 : ix_cpo 8 17 = (3, 8, 0) := by decide +kernel
theorem cq_8_21 : ix_cpo 8 21 = (12, 28, 1) := by decide +kernel
theorem cq_8_22 : ix_cpo 8 22 = (3, 8, 3) := by decide +kernel
theorem cq_8_26 : ix_cpo 8 26 = (3, 8, 4) := by decide +kernel
theorem cq_8_30 : ix_cpo 8 30 = (3, 4, 1) := by decide +kernel
theorem cq_8_35 : ix_cpo 8 35 = (3, 8, 5) := by decide +kernel
theorem cq_8_38 : ix_cpo 8 38 = (3, 8, 6) := by decide +kernel
theorem cq_8_41 : ix_cpo 8 41 = (3, 4, 0) := by decide +kernel
theorem cq_8_44 : ix_cpo 8 44 = (3, 8, 1) := by decide +kernel
theorem cq_8_47 : ix_cpo 8 47 = (8, 84, 3) := by decide +kernel
theorem cq_8_51 : ix_cpo 8 51 = (3, 8, 2) := by decide +kernel
theorem cq_8_54 : ix_cpo 8 54 = (1, 2654435769, 0) := by decide +kernel
theorem cq_8_55 : ix_cpo 8 55 = (1, 2654435, 0) := by decide +kernel
theorem cq_8_56 : ix_cpo 8 56 = (3, 8, 8) := by decide +kernel
theorem cq_8_59 : ix_cpo 8 59 = (3, 1, 2) := by decide +kernel
theorem cq_8_62 : ix_cpo 8 62 = (6, 89, 2) := by decide +kernel
theorem cq_8_66 : ix_cpo 8 66 = (3, 1, 0) := by decide +kernel
theorem cq_8_69 : ix_cpo 8 69 = (3, 1, 3) := by decide +kernel
theorem cq_8_72 : ix_cpo 8 72 = (3, 1, 4) := by decide +kernel
theorem cq_8_75 : ix_cpo 8 75 = (6, 91, 2) := by decide +kernel
theorem cq_8_79 : ix_cpo 8 79 = (3, 1, 1) := by decide +kernel
theorem cq_8_82 : ix_cpo 8 82 = (6, 93, 2) := by decide +kernel
theorem cq_9_1 : ix_cpo 9 1 = (9, 0, 1) := by decide +kernel
theorem cq_9_7 : ix_cpo 9 7 = (3, 9, 3) := by decide +kernel
theorem cq_9_13 : ix_cpo 9 13 = (3, 9, 4) := by decide +kernel
theorem cq_9_17 : ix_cpo 9 17 = (3, 9, 5) := by decide +kernel
theorem cq_9_20 : ix_cpo 9 20 = (3, 9, 6) := by decide +kernel
theorem cq_9_23 : ix_cpo 9 23 = (3, 9, 7) := by decide +kernel
theorem cq_9_26 : ix_cpo 9 26 = (3, 9, 8) := by decide +kernel
theorem cq_9_29 : ix_cpo 9 29 = (3, 9, 9) := by decide +kernel
theorem cq_9_32 : ix_cpo 9 32 = (3, 9, 10) := by decide +kernel
theorem cq_9_35 : ix_cpo 9 35 = (3, 9, 11) := by decide +kernel
theorem cq_9_38 : ix_cpo 9 38 = (3, 9, 12) := by decide +kernel
theorem cq_9_41 : ix_cpo 9 41 = (3, 9, 14) := by decide +kernel
theorem cq_9_44 : ix_cpo 9 44 = (3, 9, 15) := by decide +kernel
theorem cq_9_47 : ix_cpo 9 47 = (3, 9, 16) := by decide +kernel
theorem cq_9_50 : ix_cpo 9 50 = (3, 9, 17) := by decide +kernel
theorem cq_9_53 : ix_cpo 9 53 = (3, 9, 18) := by decide +kernel
theorem cq_9_56 : ix_cpo 9 56 = (3, 9, 19) := by decide +kernel
theorem cq_9_59 : ix_cpo 9 59 = (3, 9, 20) := by decide +kernel
theorem cq_9_62 : ix_cpo 9 62 = (3, 9, 21) := by decide +kernel
theorem cq_9_65 : ix_cpo 9 65 = (3, 9, 22) := by decide +kernel
theorem cq_9_68 : ix_cpo 9 68 = (3, 9, 23) := by decide +kernel
theorem cq_9_71 : ix_cpo 9 71 = (3, 9, 24) := by decide +kernel
theorem cq_9_74 : ix_cpo 9 74 = (3, 9, 25) := by decide +kernel
theorem cq_9_77 : ix_cpo 9 77 = (3, 9, 26) := by decide +kernel
theorem cq_9_80 : ix_cpo 9 80 = (3, 9, 27) := by decide +kernel
theorem cq_9_83 : ix_cpo 9 83 = (3, 9, 29) := by decide +kernel
theorem cq_9_87 : ix_cpo 9 87 = (3, 9, 0) := by decide +kernel
theorem cq_9_91 : ix_cpo 9 91 = (3, 9, 2) := by decide +kernel
theorem cq_9_94 : ix_cpo 9 94 = (8, 95, 3) := by decide +kernel
theorem cq_9_98 : ix_cpo 9 98 = (1, 69069, 0) := by decide +kernel
theorem cq_9_99 : ix_cpo 9 99 = (3, 9, 1) := by decide +kernel
theorem cq_9_102 : ix_cpo 9 102 = (1, 2654435769, 0) := by decide +kernel
theorem cq_9_103 : ix_cpo 9 103 = (1, 2654435, 0) := by decide +kernel
theorem cq_9_104 : ix_cpo 9 104 = (8, 98, 3) := by decide +kernel
theorem cq_9_108 : ix_cpo 9 108 = (6, 100, 3) := by decide +kernel
theorem cq_9_112 : ix_cpo 9 112 = (6, 101, 4) := by decide +kernel
theorem cq_9_115 : ix_cpo 9 115 = (6, 103, 2) := by decide +kernel
theorem cq_9_119 : ix_cpo 9 119 = (3, 9, 13) := by decide +kernel
theorem cq_9_122 : ix_cpo 9 122 = (6, 104, 3) := by decide +kernel
theorem cq_9_126 : ix_cpo 9 126 = (6, 105, 3) := by decide +kernel
theorem cq_9_129 : ix_cpo 9 129 = (2, 4, 0) := by decide +kernel
theorem cq_9_131 : ix_cpo 9 131 = (2, 8, 0) := by decide +kernel
theorem cq_9_133 : ix_cpo 9 133 = (3, 9, 30) := by decide +kernel
theorem cq_9_136 : ix_cpo 9 136 = (2, 1024, 0) := by decide +kernel
theorem cq_9_138 : ix_cpo 9 138 = (6, 107, 4) := by decide +kernel
theorem cq_9_142 : ix_cpo 9 142 = (6, 109, 2) := by decide +kernel
theorem cq_9_146 : ix_cpo 9 146 = (6, 108, 3) := by decide +kernel
theorem cq_9_150 : ix_cpo 9 150 = (6, 111, 3) := by decide +kernel
theorem cq_9_153 : ix_cpo 9 153 = (6, 115, 2) := by decide +kernel
theorem cq_9_156 : ix_cpo 9 156 = (6, 116, 3) := by decide +kernel
theorem cq_9_159 : ix_cpo 9 159 = (3, 9, 28) := by decide +kernel
theorem cq_9_162 : ix_cpo 9 162 = (8, 119, 2) := by decide +kernel
theorem cq_9_165 : ix_cpo 9 165 = (6, 112, 3) := by decide +kernel
theorem cq_9_168 : ix_cpo 9 168 = (6, 114, 3) := by decide +kernel
theorem cq_9_171 : ix_cpo 9 171 = (6, 118, 3) := by decide +kernel
theorem cq_9_174 : ix_cpo 9 174 = (6, 120, 2) := by decide +kernel
theorem cq_9_178 : ix_cpo 9 178 = (6, 123, 4) := by decide +kernel
theorem cq_9_181 : ix_cpo 9 181 = (6, 117, 3) := by decide +kernel
theorem cq_9_184 : ix_cpo 9 184 = (6, 137, 1) := by decide +kernel
theorem cq_9_188 : ix_cpo 9 188 = (6, 113, 4) := by decide +kernel
theorem cq_9_191 : ix_cpo 9 191 = (6, 110, 3) := by decide +kernel
theorem cq_9_194 : ix_cpo 9 194 = (6, 122, 4) := by decide +kernel
theorem cq_9_197 : ix_cpo 9 197 = (6, 129, 2) := by decide +kernel
theorem cq_9_200 : ix_cpo 9 200 = (6, 121, 3) := by decide +kernel
theorem cq_9_203 : ix_cpo 9 203 = (6, 130, 2) := by decide +kernel
theorem cq_9_206 : ix_cpo 9 206 = (6, 131, 3) := by decide +kernel
theorem cq_9_209 : ix_cpo 9 209 = (2, 18446744073709551615, 0) := by decide +kernel
theorem cq_10_7 : ix_cpo 10 7 = (4, 0, 0) := by decide +kernel
theorem cq_10_9 : ix_cpo 10 9 = (8, 140, 2) := by decide +kernel
theorem cq_10_15 : ix_cpo 10 15 = (7, 0, 3) := by decide +kernel
theorem cq_10_18 : ix_cpo 10 18 = (4, 9, 0) := by decide +kernel
theorem cq_10_20 : ix_cpo 10 20 = (7, 94, 3) := by decide +kernel
theorem cq_10_21 : ix_cpo 10 21 = (6, 1, 3) := by decide +kernel
theorem cq_10_25 : ix_cpo 10 25 = (6, 96, 3) := by decide +kernel
theorem cq_10_26 : ix_cpo 10 26 = (6, 2, 2) := by decide +kernel
theorem cq_10_30 : ix_cpo 10 30 = (6, 97, 2) := by decide +kernel
theorem cq_10_31 : ix_cpo 10 31 = (6, 3, 4) := by decide +kernel
theorem cq_10_35 : ix_cpo 10 35 = (6, 99, 4) := by decide +kernel
theorem cq_10_36 : ix_cpo 10 36 = (6, 4, 6) := by decide +kernel
theorem cq_10_40 : ix_cpo 10 40 = (6, 102, 6) := by decide +kernel
theorem cq_10_41 : ix_cpo 10 41 = (6, 5, 2) := by decide +kernel
theorem cq_10_44 : ix_cpo 10 44 = (6, 103, 2) := by decide +kernel
theorem cq_10_45 : ix_cpo 10 45 = (6, 6, 3) := by decide +kernel
theorem cq_10_49 : ix_cpo 10 49 = (6, 106, 3) := by decide +kernel
theorem cq_10_50 : ix_cpo 10 50 = (6, 7, 5) := by decide +kernel
theorem cq_10_54 : ix_cpo 10 54 = (6, 124, 5) := by decide +kernel
theorem cq_10_55 : ix_cpo 10 55 = (6, 8, 4) := by decide +kernel
theorem cq_10_59 : ix_cpo 10 59 = (6, 125, 4) := by decide +kernel
theorem cq_10_60 : ix_cpo 10 60 = (6, 9, 3) := by decide +kernel
theorem cq_10_63 : ix_cpo 10 63 = (6, 126, 3) := by decide +kernel
theorem cq_10_64 : ix_cpo 10 64 = (6, 10, 2) := by decide +kernel
theorem cq_10_67 : ix_cpo 10 67 = (6, 127, 2) := by decide +kernel
theorem cq_10_68 : ix_cpo 10 68 = (6, 11, 2) := by decide +kernel
theorem cq_10_72 : ix_cpo 10 72 = (6, 128, 2) := by decide +kernel
theorem cq_10_73 : ix_cpo 10 73 = (6, 12, 2) := by decide +kernel
theorem cq_10_76 : ix_cpo 10 76 = (6, 132, 2) := by decide +kernel
theorem cq_10_77 : ix_cpo 10 77 = (6, 13, 1) := by decide +kernel
theorem cq_10_81 : ix_cpo 10 81 = (6, 133, 1) := by decide +kernel
theorem cq_10_82 : ix_cpo 10 82 = (6, 14, 2) := by decide +kernel
theorem cq_10_85 : ix_cpo 10 85 = (6, 134, 2) := by decide +kernel
theorem cq_10_86 : ix_cpo 10 86 = (6, 15, 3) := by decide +kernel
theorem cq_10_89 : ix_cpo 10 89 = (6, 135, 3) := by decide +kernel
theorem cq_10_90 : ix_cpo 10 90 = (6, 16, 3) := by decide +kernel
theorem cq_10_93 : ix_cpo 10 93 = (6, 136, 3) := by decide +kernel
theorem cq_10_94 : ix_cpo 10 94 = (6, 17, 1) := by decide +kernel
theorem cq_10_97 : ix_cpo 10 97 = (6, 137, 1) := by decide +kernel
theorem cq_10_98 : ix_cpo 10 98 = (6, 18, 1) := by decide +kernel
theorem cq_10_101 : ix_cpo 10 101 = (6, 138, 1) := by decide +kernel
theorem cq_10_102 : ix_cpo 10 102 = (6, 19, 2) := by decide +kernel
theorem cq_10_106 : ix_cpo 10 106 = (6, 139, 2) := by decide +kernel
theorem bp_6 : (Int8.ofInt 6).toInt32 = 6 := by decide +kernel
theorem bp_7 : (Int8.ofInt 7).toInt32 = 7 := by decide +kernel
theorem bp_8 : (Int8.ofInt 8).toInt32 = 8 := by decide +kernel
theorem bp_9 : (Int8.ofInt 9).toInt32 = 9 := by decide +kernel
theorem bp_10 : (Int8.ofInt 10).toInt32 = 10 := by decide +kernel
theorem bp_12 : (Int8.ofInt 12).toInt32 = 12 := by decide +kernel
theorem bp_13 : (Int8.ofInt 13).toInt32 = 13 := by decide +kernel
theorem bp_15 : (Int8.ofInt 15).toInt32 = 15 := by decide +kernel
theorem bp_16 : (Int8.ofInt 16).toInt32 = 16 := by decide +kernel
theorem bp_31 : (Int8.ofInt 31).toInt32 = 31 := by decide +kernel
theorem bp_63 : (Int8.ofInt 63).toInt32 = 63 := by decide +kernel
theorem bp_64 : (Int8.ofInt 64).toInt32 = 64 := by decide +kernel
theorem bp_96 : (Int8.ofInt 96).toInt32 = 96 := by decide +kernel
theorem bp_100 : (Int8.ofInt 100).toInt32 = 100 := by decide +kernel
theorem ic_m1 : Int32.ofInt (-1) = (-1) := by decide +kernel
theorem ic_0 : Int32.ofInt 0 = 0 := by decide +kernel
theorem ic_1 : Int32.ofInt 1 = 1 := by decide +kernel
theorem ic_2 : Int32.ofInt 2 = 2 := by decide +kernel
theorem ic_3 : Int32.ofInt 3 = 3 := by decide +kernel
theorem ic_4 : Int32.ofInt 4 = 4 := by decide +kernel
theorem ic_5 : Int32.ofInt 5 = 5 := by decide +kernel
theorem ic_6 : Int32.ofInt 6 = 6 := by decide +kernel
theorem ld_m1640531527 : Int32.ofNat 2654435769 = (-1640531527) := by decide +kernel
theorem ld_69069 : Int32.ofNat 69069 = 69069 := by decide +kernel
theorem ld_2654435 : Int32.ofNat 2654435 = 2654435 := by decide +kernel
theorem ld_2147483647 : Int32.ofNat 2147483647 = 2147483647 := by decide +kernel
theorem ll_m1 : Int64.ofNat 18446744073709551615 = (-1) := by decide +kernel
theorem ll_4 : Int64.ofNat 4 = 4 := by decide +kernel
theorem ll_8 : Int64.ofNat 8 = 8 := by decide +kernel
theorem ll_1024 : Int64.ofNat 1024 = 1024 := by decide +kernel
theorem sp_200 : (Int16.ofInt 200).toInt32 = 200 := by decide +kernel
theorem sp_255 : (Int16.ofInt 255).toInt32 = 255 := by decide +kernel
theorem sp_299 : (Int16.ofInt 299).toInt32 = 299 := by decide +kernel
theorem sp_300 : (Int16.ofInt 300).toInt32 = 300 := by decide +kernel
theorem sp_400 : (Int16.ofInt 400).toInt32 = 400 := by decide +kernel
theorem sp_401 : (Int16.ofInt 401).toInt32 = 401 := by decide +kernel
theorem sp_404 : (Int16.ofInt 404).toInt32 = 404 := by decide +kernel
theorem sp_407 : (Int16.ofInt 407).toInt32 = 407 := by decide +kernel
theorem sp_408 : (Int16.ofInt 408).toInt32 = 408 := by decide +kernel
theorem sp_415 : (Int16.ofInt 415).toInt32 = 415 := by decide +kernel
theorem sp_420 : (Int16.ofInt 420).toInt32 = 420 := by decide +kernel
theorem sp_480 : (Int16.ofInt 480).toInt32 = 480 := by decide +kernel
theorem sp_482 : (Int16.ofInt 482).toInt32 = 482 := by decide +kernel
theorem sp_483 : (Int16.ofInt 483).toInt32 = 483 := by decide +kernel
theorem sp_484 : (Int16.ofInt 484).toInt32 = 484 := by decide +kernel
theorem sp_500 : (Int16.ofInt 500).toInt32 = 500 := by decide +kernel
theorem sp_503 : (Int16.ofInt 503).toInt32 = 503 := by decide +kernel
theorem sp_600 : (Int16.ofInt 600).toInt32 = 600 := by decide +kernel
theorem sp_699 : (Int16.ofInt 699).toInt32 = 699 := by decide +kernel
theorem sp_2000 : (Int16.ofInt 2000).toInt32 = 2000 := by decide +kernel
theorem sp_5000 : (Int16.ofInt 5000).toInt32 = 5000 := by decide +kernel
