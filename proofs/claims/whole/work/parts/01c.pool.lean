def ix_NW : List (String × Nat × MethodName × String) := [("ForkedInvites$User", 21, ({ cls := "ForkedInvites$Binding", name := "<init>", desc := "()V" } : Jvm.MethodName), "ForkedInvites")]
def ix_pk (o x z a b : Nat) : Prop := match z with
  | 1 => Cond.constant (ix_ocl o) x (Int32.ofNat a) ∈ Tw
  | 2 => Cond.constantLong (ix_ocl o) x (Int64.ofNat a) ∈ Tw
  | 3 => ix_okc a ∧ b < ix_nf a ∧ Cond.fieldLink (ix_ocl o) x ((ix_cl a).2.1 b).1 ((ix_cl a).2.1 b).2.1 ((ix_cl a).2.1 b).2.2.1 ∈ Tw
  | 4 => ix_okc a ∧ Cond.classLink (ix_ocl o) x (ix_cl a).1 ∈ Tw ∧ Cond.instantiable (ix_cl a).1 (ix_nf a) ∈ Tw ∧ Cond.initialized (ix_cl a).1 ∈ Tw ∧ (¬ b = 0 → 103 ≤ b ∧ b < ix_tz ∧ ix_aty[b - 100]? = some (.object (ix_cl a).1) ∧ (ix_cl a).1 ∈ ix_AO)
  | 6 => a < ix_M ∧ b = ix_pn a + 1 ∧ ix_okc (ix_mt a) ∧ (ix_cl (ix_mt a)).1 = (ix_nm a).cls ∧ Cond.methodLink (ix_ocl o) x (ix_nm a) ∈ Tw ∧ Cond.instanceMethod (ix_nm a) ∈ Tw ∧ Cond.selects (ix_nm a).cls (ix_nm a) (ix_nm a) ∈ Tw ∧ Cond.initialized (ix_nm a).cls ∈ Tw
  | 7 => a < ix_M ∧ b = ix_pn a + 1 ∧ ix_rt a = none ∧ (ix_nm a).name = "<init>" ∧ Cond.methodLink (ix_ocl o) x (ix_nm a) ∈ Tw ∧ Cond.instanceMethod (ix_nm a) ∈ Tw ∧ Cond.initialized (ix_nm a).cls ∈ Tw
  | 12 => a < ix_M ∧ b = ix_pn a + 1 ∧ ix_rt a = none ∧ (ix_nm a).name = "<init>" ∧ (∃ host, (ix_ocl o, x, ix_nm a, host) ∈ ix_NW) ∧ Cond.instanceMethod (ix_nm a) ∈ Tw ∧ Cond.initialized (ix_nm a).cls ∈ Tw
  | 8 => a < ix_M ∧ b = ix_pn a ∧ Cond.methodLink (ix_ocl o) x (ix_nm a) ∈ Tw ∧ Cond.static (ix_nm a) ∈ Tw ∧ Cond.initialized (ix_nm a).cls ∈ Tw
  | 9 => Cond.methodLink (ix_ocl o) x objectInit ∈ Tw ∧ Cond.instanceMethod objectInit ∈ Tw ∧ Cond.code objectInit ⟨#[0xb1]⟩ 1 none ∈ Tw
  | 10 => Cond.methodLink (ix_ocl o) x Lib.Math.max.name ∈ Tw ∧ Cond.static Lib.Math.max.name ∈ Tw ∧ Cond.initialized "java/lang/Math" ∈ Tw ∧ Cond.code Lib.Math.max.name Lib.Math.max.code 2 (some .int) ∈ Tw
  | 11 => Cond.methodLink (ix_ocl o) x Lib.Math.min.name ∈ Tw ∧ Cond.static Lib.Math.min.name ∈ Tw ∧ Cond.initialized "java/lang/Math" ∈ Tw ∧ Cond.code Lib.Math.min.name Lib.Math.min.code 2 (some .int) ∈ Tw
  | _ => False
theorem wi_0 : Cond.instanceMethod (ix_nm 0) ∈ Tw := tw_1 (List.mem_of_getElem? (i := 15) rfl) rfl
theorem wi_1 : Cond.instanceMethod (ix_nm 1) ∈ Tw := tw_2 (List.mem_of_getElem? (i := 53) rfl) rfl
theorem wi_2 : Cond.instanceMethod (ix_nm 2) ∈ Tw := tw_2 (List.mem_of_getElem? (i := 61) rfl) rfl
theorem wi_3 : Cond.instanceMethod (ix_nm 3) ∈ Tw := tw_2 (List.mem_of_getElem? (i := 70) rfl) rfl
theorem wi_4 : Cond.instanceMethod (ix_nm 4) ∈ Tw := tw_2 (List.mem_of_getElem? (i := 83) rfl) rfl
theorem wi_5 : Cond.instanceMethod (ix_nm 5) ∈ Tw := tw_2 (List.mem_of_getElem? (i := 118) rfl) rfl
theorem wi_6 : Cond.instanceMethod (ix_nm 6) ∈ Tw := tw_2 (List.mem_of_getElem? (i := 122) rfl) rfl
theorem wi_7 : Cond.instanceMethod (ix_nm 7) ∈ Tw := tw_2 (List.mem_of_getElem? (i := 134) rfl) rfl
theorem wi_8 : Cond.instanceMethod (ix_nm 8) ∈ Tw := tw_2 (List.mem_of_getElem? (i := 219) rfl) rfl
theorem wi_9 : Cond.instanceMethod (ix_nm 9) ∈ Tw := tw_3 (List.mem_of_getElem? (i := 64) rfl) rfl
theorem wi_10 : Cond.instanceMethod (ix_nm 10) ∈ Tw := tw_3 (List.mem_of_getElem? (i := 73) rfl) rfl
theorem wi_11 : Cond.instanceMethod (ix_nm 11) ∈ Tw := tw_3 (List.mem_of_getElem? (i := 78) rfl) rfl
theorem wi_12 : Cond.instanceMethod (ix_nm 12) ∈ Tw := tw_3 (List.mem_of_getElem? (i := 86) rfl) rfl
theorem wi_13 : Cond.instanceMethod (ix_nm 13) ∈ Tw := tw_3 (List.mem_of_getElem? (i := 147) rfl) rfl
theorem wi_14 : Cond.instanceMethod (ix_nm 14) ∈ Tw := tw_3 (List.mem_of_getElem? (i := 151) rfl) rfl
theorem wi_15 : Cond.instanceMethod (ix_nm 15) ∈ Tw := tw_3 (List.mem_of_getElem? (i := 155) rfl) rfl
theorem wi_16 : Cond.instanceMethod (ix_nm 16) ∈ Tw := tw_3 (List.mem_of_getElem? (i := 159) rfl) rfl
theorem wi_17 : Cond.instanceMethod (ix_nm 17) ∈ Tw := tw_2 (List.mem_of_getElem? (i := 169) rfl) rfl
theorem wi_18 : Cond.instanceMethod (ix_nm 18) ∈ Tw := tw_3 (List.mem_of_getElem? (i := 164) rfl) rfl
theorem wi_19 : Cond.instanceMethod (ix_nm 19) ∈ Tw := tw_3 (List.mem_of_getElem? (i := 168) rfl) rfl
theorem wi_20 : Cond.instanceMethod (ix_nm 20) ∈ Tw := tw_2 (List.mem_of_getElem? (i := 58) rfl) rfl
theorem wi_21 : Cond.instanceMethod (ix_nm 21) ∈ Tw := tw_2 (List.mem_of_getElem? (i := 228) rfl) rfl
theorem wi_22 : Cond.instanceMethod (ix_nm 22) ∈ Tw := tw_2 (List.mem_of_getElem? (i := 224) rfl) rfl
theorem wi_23 : Cond.static (ix_nm 23) ∈ Tw := tw_2 (List.mem_of_getElem? (i := 87) rfl) rfl
theorem wi_24 : Cond.instanceMethod (ix_nm 24) ∈ Tw := tw_2 (List.mem_of_getElem? (i := 162) rfl) rfl
theorem wi_25 : Cond.instanceMethod (ix_nm 25) ∈ Tw := tw_2 (List.mem_of_getElem? (i := 166) rfl) rfl
theorem wi_26 : Cond.instanceMethod (ix_nm 26) ∈ Tw := tw_3 (List.mem_of_getElem? (i := 91) rfl) rfl
theorem wi_27 : Cond.instanceMethod (ix_nm 27) ∈ Tw := tw_3 (List.mem_of_getElem? (i := 111) rfl) rfl
theorem wi_28 : Cond.instanceMethod (ix_nm 28) ∈ Tw := tw_1 (List.mem_of_getElem? (i := 74) rfl) rfl
theorem wi_29 : Cond.instanceMethod (ix_nm 29) ∈ Tw := tw_1 (List.mem_of_getElem? (i := 194) rfl) rfl
theorem wi_30 : Cond.instanceMethod (ix_nm 30) ∈ Tw := tw_2 (List.mem_of_getElem? (i := 192) rfl) rfl
theorem wi_31 : Cond.instanceMethod (ix_nm 31) ∈ Tw := tw_2 (List.mem_of_getElem? (i := 201) rfl) rfl
theorem wi_32 : Cond.instanceMethod (ix_nm 32) ∈ Tw := tw_3 (List.mem_of_getElem? (i := 0) rfl) rfl
theorem wi_33 : Cond.instanceMethod (ix_nm 33) ∈ Tw := tw_3 (List.mem_of_getElem? (i := 4) rfl) rfl
theorem wi_34 : Cond.instanceMethod (ix_nm 34) ∈ Tw := tw_3 (List.mem_of_getElem? (i := 9) rfl) rfl
theorem wi_35 : Cond.instanceMethod (ix_nm 35) ∈ Tw := tw_3 (List.mem_of_getElem? (i := 17) rfl) rfl
theorem wi_36 : Cond.instanceMethod (ix_nm 36) ∈ Tw := tw_3 (List.mem_of_getElem? (i := 45) rfl) rfl
theorem wi_37 : Cond.instanceMethod (ix_nm 37) ∈ Tw := tw_3 (List.mem_of_getElem? (i := 41) rfl) rfl
theorem wi_38 : Cond.instanceMethod (ix_nm 38) ∈ Tw := tw_3 (List.mem_of_getElem? (i := 142) rfl) rfl
theorem wi_39 : Cond.instanceMethod (ix_nm 39) ∈ Tw := tw_2 (List.mem_of_getElem? (i := 197) rfl) rfl
theorem wi_40 : Cond.instanceMethod (ix_nm 40) ∈ Tw := tw_3 (List.mem_of_getElem? (i := 132) rfl) rfl
theorem wi_41 : Cond.instanceMethod (ix_nm 41) ∈ Tw := tw_3 (List.mem_of_getElem? (i := 104) rfl) rfl
theorem wi_42 : Cond.instanceMethod (ix_nm 42) ∈ Tw := tw_1 (List.mem_of_getElem? (i := 131) rfl) rfl
theorem wi_43 : Cond.instanceMethod (ix_nm 43) ∈ Tw := tw_2 (List.mem_of_getElem? (i := 138) rfl) rfl
theorem wi_44 : Cond.instanceMethod (ix_nm 44) ∈ Tw := tw_2 (List.mem_of_getElem? (i := 142) rfl) rfl
theorem wi_45 : Cond.instanceMethod (ix_nm 45) ∈ Tw := tw_2 (List.mem_of_getElem? (i := 210) rfl) rfl
theorem wi_46 : Cond.instanceMethod (ix_nm 46) ∈ Tw := tw_2 (List.mem_of_getElem? (i := 175) rfl) rfl
theorem wi_47 : Cond.instanceMethod (ix_nm 47) ∈ Tw := tw_3 (List.mem_of_getElem? (i := 33) rfl) rfl
theorem wi_48 : Cond.instanceMethod (ix_nm 48) ∈ Tw := tw_2 (List.mem_of_getElem? (i := 231) rfl) rfl
theorem wi_49 : Cond.instanceMethod (ix_nm 49) ∈ Tw := tw_2 (List.mem_of_getElem? (i := 236) rfl) rfl
theorem wi_50 : Cond.instanceMethod (ix_nm 50) ∈ Tw := tw_3 (List.mem_of_getElem? (i := 14) rfl) rfl
theorem wi_51 : Cond.instanceMethod (ix_nm 51) ∈ Tw := tw_3 (List.mem_of_getElem? (i := 38) rfl) rfl
theorem wi_52 : Cond.instanceMethod (ix_nm 52) ∈ Tw := tw_3 (List.mem_of_getElem? (i := 22) rfl) rfl
theorem wi_53 : Cond.instanceMethod (ix_nm 53) ∈ Tw := tw_3 (List.mem_of_getElem? (i := 51) rfl) rfl
theorem wi_54 : Cond.instanceMethod (ix_nm 54) ∈ Tw := tw_3 (List.mem_of_getElem? (i := 55) rfl) rfl
theorem wi_55 : Cond.static (ix_nm 55) ∈ Tw := tw_3 (List.mem_of_getElem? (i := 58) rfl) rfl
theorem wi_56 : Cond.static (ix_nm 56) ∈ Tw := tw_3 (List.mem_of_getElem? (i := 61) rfl) rfl
theorem wi_57 : Cond.instanceMethod (ix_nm 57) ∈ Tw := tw_3 (List.mem_of_getElem? (i := 114) rfl) rfl
theorem wi_58 : Cond.instanceMethod (ix_nm 58) ∈ Tw := tw_3 (List.mem_of_getElem? (i := 95) rfl) rfl
theorem wi_59 : Cond.instanceMethod (ix_nm 59) ∈ Tw := tw_1 (List.mem_of_getElem? (i := 29) rfl) rfl
theorem wi_60 : Cond.instanceMethod (ix_nm 60) ∈ Tw := tw_1 (List.mem_of_getElem? (i := 48) rfl) rfl
theorem wi_61 : Cond.instanceMethod (ix_nm 61) ∈ Tw := tw_2 (List.mem_of_getElem? (i := 154) rfl) rfl
theorem wi_62 : Cond.instanceMethod (ix_nm 62) ∈ Tw := tw_3 (List.mem_of_getElem? (i := 172) rfl) rfl
theorem wi_63 : Cond.instanceMethod (ix_nm 63) ∈ Tw := tw_1 (List.mem_of_getElem? (i := 139) rfl) rfl
theorem wi_64 : Cond.instanceMethod (ix_nm 64) ∈ Tw := tw_2 (List.mem_of_getElem? (i := 179) rfl) rfl
theorem wi_65 : Cond.instanceMethod (ix_nm 65) ∈ Tw := tw_2 (List.mem_of_getElem? (i := 150) rfl) rfl
theorem wi_66 : Cond.instanceMethod (ix_nm 66) ∈ Tw := tw_3 (List.mem_of_getElem? (i := 25) rfl) rfl
theorem wi_67 : Cond.instanceMethod (ix_nm 67) ∈ Tw := tw_2 (List.mem_of_getElem? (i := 146) rfl) rfl
theorem wi_68 : Cond.instanceMethod (ix_nm 68) ∈ Tw := tw_3 (List.mem_of_getElem? (i := 29) rfl) rfl
theorem wi_69 : Cond.instanceMethod (ix_nm 69) ∈ Tw := tw_2 (List.mem_of_getElem? (i := 214) rfl) rfl
theorem wi_70 : Cond.instanceMethod (ix_nm 70) ∈ Tw := tw_3 (List.mem_of_getElem? (i := 82) rfl) rfl
theorem wi_71 : Cond.instanceMethod (ix_nm 71) ∈ Tw := tw_2 (List.mem_of_getElem? (i := 184) rfl) rfl
theorem wi_72 : Cond.instanceMethod (ix_nm 72) ∈ Tw := tw_3 (List.mem_of_getElem? (i := 118) rfl) rfl
theorem wi_73 : Cond.instanceMethod (ix_nm 73) ∈ Tw := tw_3 (List.mem_of_getElem? (i := 99) rfl) rfl
theorem wi_74 : Cond.instanceMethod (ix_nm 74) ∈ Tw := tw_1 (List.mem_of_getElem? (i := 145) rfl) rfl
theorem wi_75 : Cond.instanceMethod (ix_nm 75) ∈ Tw := tw_2 (List.mem_of_getElem? (i := 206) rfl) rfl
theorem wi_76 : Cond.instanceMethod (ix_nm 76) ∈ Tw := tw_3 (List.mem_of_getElem? (i := 137) rfl) rfl
theorem wi_77 : Cond.instanceMethod (ix_nm 77) ∈ Tw := tw_3 (List.mem_of_getElem? (i := 126) rfl) rfl
theorem wi_78 : Cond.instanceMethod (ix_nm 78) ∈ Tw := tw_2 (List.mem_of_getElem? (i := 187) rfl) rfl
theorem wi_79 : Cond.instanceMethod (ix_nm 79) ∈ Tw := tw_3 (List.mem_of_getElem? (i := 68) rfl) rfl
theorem wi_80 : Cond.instanceMethod (ix_nm 80) ∈ Tw := tw_3 (List.mem_of_getElem? (i := 122) rfl) rfl
theorem wi_81 : Cond.instanceMethod (ix_nm 81) ∈ Tw := tw_1 (List.mem_of_getElem? (i := 67) rfl) rfl
theorem wi_82 : Cond.instanceMethod (ix_nm 82) ∈ Tw := tw_2 (List.mem_of_getElem? (i := 66) rfl) rfl
theorem wi_83 : Cond.instanceMethod (ix_nm 83) ∈ Tw := tw_2 (List.mem_of_getElem? (i := 74) rfl) rfl
theorem wi_84 : Cond.static (ix_nm 84) ∈ Tw := tw_2 (List.mem_of_getElem? (i := 78) rfl) rfl
theorem wi_85 : Cond.instanceMethod (ix_nm 85) ∈ Tw := tw_2 (List.mem_of_getElem? (i := 90) rfl) rfl
theorem wi_86 : Cond.instanceMethod (ix_nm 86) ∈ Tw := tw_2 (List.mem_of_getElem? (i := 98) rfl) rfl
theorem wi_87 : Cond.instanceMethod (ix_nm 87) ∈ Tw := tw_2 (List.mem_of_getElem? (i := 102) rfl) rfl
theorem wi_88 : Cond.instanceMethod (ix_nm 88) ∈ Tw := tw_2 (List.mem_of_getElem? (i := 106) rfl) rfl
theorem wi_89 : Cond.instanceMethod (ix_nm 89) ∈ Tw := tw_2 (List.mem_of_getElem? (i := 95) rfl) rfl
theorem wi_90 : Cond.instanceMethod (ix_nm 90) ∈ Tw := tw_2 (List.mem_of_getElem? (i := 110) rfl) rfl
theorem wi_91 : Cond.instanceMethod (ix_nm 91) ∈ Tw := tw_2 (List.mem_of_getElem? (i := 115) rfl) rfl
theorem wi_92 : Cond.instanceMethod (ix_nm 92) ∈ Tw := tw_2 (List.mem_of_getElem? (i := 126) rfl) rfl
theorem wi_93 : Cond.instanceMethod (ix_nm 93) ∈ Tw := tw_2 (List.mem_of_getElem? (i := 131) rfl) rfl
theorem wi_94 : Cond.instanceMethod (ix_nm 94) ∈ Tw := tw_3 (List.mem_of_getElem? (i := 182) rfl) rfl
theorem wi_95 : Cond.static (ix_nm 95) ∈ Tw := tw_4 (List.mem_of_getElem? (i := 46) rfl) rfl
theorem wi_96 : Cond.instanceMethod (ix_nm 96) ∈ Tw := tw_4 (List.mem_of_getElem? (i := 42) rfl) rfl
theorem wi_97 : Cond.instanceMethod (ix_nm 97) ∈ Tw := tw_4 (List.mem_of_getElem? (i := 49) rfl) rfl
theorem wi_98 : Cond.static (ix_nm 98) ∈ Tw := tw_4 (List.mem_of_getElem? (i := 58) rfl) rfl
theorem wi_99 : Cond.instanceMethod (ix_nm 99) ∈ Tw := tw_4 (List.mem_of_getElem? (i := 54) rfl) rfl
theorem wi_100 : Cond.instanceMethod (ix_nm 100) ∈ Tw := tw_4 (List.mem_of_getElem? (i := 72) rfl) rfl
theorem wi_101 : Cond.instanceMethod (ix_nm 101) ∈ Tw := tw_4 (List.mem_of_getElem? (i := 68) rfl) rfl
theorem wi_102 : Cond.instanceMethod (ix_nm 102) ∈ Tw := tw_4 (List.mem_of_getElem? (i := 63) rfl) rfl
theorem wi_103 : Cond.instanceMethod (ix_nm 103) ∈ Tw := tw_4 (List.mem_of_getElem? (i := 75) rfl) rfl
theorem wi_104 : Cond.instanceMethod (ix_nm 104) ∈ Tw := tw_4 (List.mem_of_getElem? (i := 89) rfl) rfl
theorem wi_105 : Cond.instanceMethod (ix_nm 105) ∈ Tw := tw_4 (List.mem_of_getElem? (i := 85) rfl) rfl
theorem wi_106 : Cond.instanceMethod (ix_nm 106) ∈ Tw := tw_4 (List.mem_of_getElem? (i := 80) rfl) rfl
theorem wi_107 : Cond.instanceMethod (ix_nm 107) ∈ Tw := tw_4 (List.mem_of_getElem? (i := 105) rfl) rfl
theorem wi_108 : Cond.instanceMethod (ix_nm 108) ∈ Tw := tw_4 (List.mem_of_getElem? (i := 101) rfl) rfl
theorem wi_109 : Cond.instanceMethod (ix_nm 109) ∈ Tw := tw_4 (List.mem_of_getElem? (i := 97) rfl) rfl
theorem wi_110 : Cond.instanceMethod (ix_nm 110) ∈ Tw := tw_4 (List.mem_of_getElem? (i := 132) rfl) rfl
theorem wi_111 : Cond.instanceMethod (ix_nm 111) ∈ Tw := tw_4 (List.mem_of_getElem? (i := 120) rfl) rfl
theorem wi_112 : Cond.instanceMethod (ix_nm 112) ∈ Tw := tw_4 (List.mem_of_getElem? (i := 116) rfl) rfl
theorem wi_113 : Cond.instanceMethod (ix_nm 113) ∈ Tw := tw_4 (List.mem_of_getElem? (i := 124) rfl) rfl
theorem wi_114 : Cond.instanceMethod (ix_nm 114) ∈ Tw := tw_4 (List.mem_of_getElem? (i := 148) rfl) rfl
theorem wi_115 : Cond.instanceMethod (ix_nm 115) ∈ Tw := tw_4 (List.mem_of_getElem? (i := 140) rfl) rfl
theorem wi_116 : Cond.instanceMethod (ix_nm 116) ∈ Tw := tw_4 (List.mem_of_getElem? (i := 152) rfl) rfl
theorem wi_117 : Cond.instanceMethod (ix_nm 117) ∈ Tw := tw_4 (List.mem_of_getElem? (i := 160) rfl) rfl
theorem wi_118 : Cond.instanceMethod (ix_nm 118) ∈ Tw := tw_4 (List.mem_of_getElem? (i := 156) rfl) rfl
theorem wi_119 : Cond.static (ix_nm 119) ∈ Tw := tw_4 (List.mem_of_getElem? (i := 167) rfl) rfl
theorem wi_120 : Cond.instanceMethod (ix_nm 120) ∈ Tw := tw_4 (List.mem_of_getElem? (i := 164) rfl) rfl
theorem wi_121 : Cond.instanceMethod (ix_nm 121) ∈ Tw := tw_4 (List.mem_of_getElem? (i := 199) rfl) rfl
theorem wi_122 : Cond.instanceMethod (ix_nm 122) ∈ Tw := tw_4 (List.mem_of_getElem? (i := 136) rfl) rfl
theorem wi_123 : Cond.instanceMethod (ix_nm 123) ∈ Tw := tw_4 (List.mem_of_getElem? (i := 144) rfl) rfl
theorem wi_124 : Cond.instanceMethod (ix_nm 124) ∈ Tw := tw_4 (List.mem_of_getElem? (i := 92) rfl) rfl
theorem wi_125 : Cond.instanceMethod (ix_nm 125) ∈ Tw := tw_4 (List.mem_of_getElem? (i := 127) rfl) rfl
theorem wi_126 : Cond.instanceMethod (ix_nm 126) ∈ Tw := tw_4 (List.mem_of_getElem? (i := 170) rfl) rfl
theorem wi_127 : Cond.instanceMethod (ix_nm 127) ∈ Tw := tw_4 (List.mem_of_getElem? (i := 174) rfl) rfl
theorem wi_128 : Cond.instanceMethod (ix_nm 128) ∈ Tw := tw_4 (List.mem_of_getElem? (i := 178) rfl) rfl
theorem wi_129 : Cond.instanceMethod (ix_nm 129) ∈ Tw := tw_4 (List.mem_of_getElem? (i := 191) rfl) rfl
theorem wi_130 : Cond.instanceMethod (ix_nm 130) ∈ Tw := tw_4 (List.mem_of_getElem? (i := 187) rfl) rfl
theorem wi_131 : Cond.instanceMethod (ix_nm 131) ∈ Tw := tw_4 (List.mem_of_getElem? (i := 195) rfl) rfl
theorem wi_132 : Cond.instanceMethod (ix_nm 132) ∈ Tw := tw_4 (List.mem_of_getElem? (i := 182) rfl) rfl
theorem wi_133 : Cond.instanceMethod (ix_nm 133) ∈ Tw := tw_4 (List.mem_of_getElem? (i := 202) rfl) rfl
theorem wi_134 : Cond.instanceMethod (ix_nm 134) ∈ Tw := tw_4 (List.mem_of_getElem? (i := 206) rfl) rfl
theorem wi_135 : Cond.instanceMethod (ix_nm 135) ∈ Tw := tw_4 (List.mem_of_getElem? (i := 210) rfl) rfl
theorem wi_136 : Cond.instanceMethod (ix_nm 136) ∈ Tw := tw_4 (List.mem_of_getElem? (i := 214) rfl) rfl
theorem wi_137 : Cond.instanceMethod (ix_nm 137) ∈ Tw := tw_4 (List.mem_of_getElem? (i := 111) rfl) rfl
theorem wi_138 : Cond.instanceMethod (ix_nm 138) ∈ Tw := tw_4 (List.mem_of_getElem? (i := 219) rfl) rfl
theorem wi_139 : Cond.instanceMethod (ix_nm 139) ∈ Tw := tw_4 (List.mem_of_getElem? (i := 223) rfl) rfl
theorem wi_140 : Cond.static (ix_nm 140) ∈ Tw := tw_3 (List.mem_of_getElem? (i := 177) rfl) rfl
theorem wn_0 : Cond.initialized "ForkedInvites" ∈ Tw := tw_1 (List.mem_of_getElem? (i := 1) rfl) rfl
theorem wn_1 : Cond.initialized "ForkedInvites$Binding" ∈ Tw := tw_1 (List.mem_of_getElem? (i := 6) rfl) rfl
theorem wn_2 : Cond.initialized "ForkedInvites$Branch" ∈ Tw := tw_1 (List.mem_of_getElem? (i := 10) rfl) rfl
theorem wn_3 : Cond.initialized "ForkedInvites$Call" ∈ Tw := tw_1 (List.mem_of_getElem? (i := 7) rfl) rfl
theorem wn_4 : Cond.initialized "ForkedInvites$Clock" ∈ Tw := tw_1 (List.mem_of_getElem? (i := 2) rfl) rfl
theorem wn_5 : Cond.initialized "ForkedInvites$MessageLog" ∈ Tw := tw_1 (List.mem_of_getElem? (i := 4) rfl) rfl
theorem wn_6 : Cond.initialized "ForkedInvites$Server" ∈ Tw := tw_1 (List.mem_of_getElem? (i := 8) rfl) rfl
theorem wn_7 : Cond.initialized "ForkedInvites$Timer" ∈ Tw := tw_1 (List.mem_of_getElem? (i := 9) rfl) rfl
theorem wn_8 : Cond.initialized "ForkedInvites$User" ∈ Tw := tw_1 (List.mem_of_getElem? (i := 5) rfl) rfl
theorem wn_9 : Cond.initialized "ForkedInvitesModel" ∈ Tw := tw_1 (List.mem_of_getElem? (i := 11) rfl) rfl
theorem wn_10 : Cond.initialized "ForkedInvitesLaw" ∈ Tw := tw_1 (List.mem_of_getElem? (i := 0) rfl) rfl
theorem wsl_1 : Cond.selects (ix_nm 1).cls (ix_nm 1) (ix_nm 1) ∈ Tw := tw_2 (List.mem_of_getElem? (i := 54) rfl) rfl
theorem wsl_2 : Cond.selects (ix_nm 2).cls (ix_nm 2) (ix_nm 2) ∈ Tw := tw_2 (List.mem_of_getElem? (i := 62) rfl) rfl
theorem wsl_3 : Cond.selects (ix_nm 3).cls (ix_nm 3) (ix_nm 3) ∈ Tw := tw_2 (List.mem_of_getElem? (i := 71) rfl) rfl
theorem wsl_4 : Cond.selects (ix_nm 4).cls (ix_nm 4) (ix_nm 4) ∈ Tw := tw_2 (List.mem_of_getElem? (i := 84) rfl) rfl
theorem wsl_5 : Cond.selects (ix_nm 5).cls (ix_nm 5) (ix_nm 5) ∈ Tw := tw_2 (List.mem_of_getElem? (i := 119) rfl) rfl
theorem wsl_6 : Cond.selects (ix_nm 6).cls (ix_nm 6) (ix_nm 6) ∈ Tw := tw_2 (List.mem_of_getElem? (i := 123) rfl) rfl
theorem wsl_7 : Cond.selects (ix_nm 7).cls (ix_nm 7) (ix_nm 7) ∈ Tw := tw_2 (List.mem_of_getElem? (i := 135) rfl) rfl
theorem wsl_8 : Cond.selects (ix_nm 8).cls (ix_nm 8) (ix_nm 8) ∈ Tw := tw_2 (List.mem_of_getElem? (i := 220) rfl) rfl
theorem wsl_9 : Cond.selects (ix_nm 9).cls (ix_nm 9) (ix_nm 9) ∈ Tw := tw_3 (List.mem_of_getElem? (i := 65) rfl) rfl
theorem wsl_10 : Cond.selects (ix_nm 10).cls (ix_nm 10) (ix_nm 10) ∈ Tw := tw_3 (List.mem_of_getElem? (i := 74) rfl) rfl
theorem wsl_11 : Cond.selects (ix_nm 11).cls (ix_nm 11) (ix_nm 11) ∈ Tw := tw_3 (List.mem_of_getElem? (i := 79) rfl) rfl
theorem wsl_12 : Cond.selects (ix_nm 12).cls (ix_nm 12) (ix_nm 12) ∈ Tw := tw_3 (List.mem_of_getElem? (i := 87) rfl) rfl
theorem wsl_13 : Cond.selects (ix_nm 13).cls (ix_nm 13) (ix_nm 13) ∈ Tw := tw_3 (List.mem_of_getElem? (i := 148) rfl) rfl
theorem wsl_14 : Cond.selects (ix_nm 14).cls (ix_nm 14) (ix_nm 14) ∈ Tw := tw_3 (List.mem_of_getElem? (i := 152) rfl) rfl
theorem wsl_15 : Cond.selects (ix_nm 15).cls (ix_nm 15) (ix_nm 15) ∈ Tw := tw_3 (List.mem_of_getElem? (i := 156) rfl) rfl
theorem wsl_16 : Cond.selects (ix_nm 16).cls (ix_nm 16) (ix_nm 16) ∈ Tw := tw_3 (List.mem_of_getElem? (i := 160) rfl) rfl
theorem wsl_17 : Cond.selects (ix_nm 17).cls (ix_nm 17) (ix_nm 17) ∈ Tw := tw_2 (List.mem_of_getElem? (i := 170) rfl) rfl
theorem wsl_18 : Cond.selects (ix_nm 18).cls (ix_nm 18) (ix_nm 18) ∈ Tw := tw_3 (List.mem_of_getElem? (i := 165) rfl) rfl
theorem wsl_19 : Cond.selects (ix_nm 19).cls (ix_nm 19) (ix_nm 19) ∈ Tw := tw_3 (List.mem_of_getElem? (i := 169) rfl) rfl
theorem wsl_20 : Cond.selects (ix_nm 20).cls (ix_nm 20) (ix_nm 20) ∈ Tw := tw_s (q := (ix_nm 20, 5)) (List.mem_append_left _ (List.mem_of_getElem? (i := 0) rfl))
theorem wsl_21 : Cond.selects (ix_nm 21).cls (ix_nm 21) (ix_nm 21) ∈ Tw := tw_s (q := (ix_nm 21, 5)) (List.mem_append_left _ (List.mem_of_getElem? (i := 9) rfl))
theorem wsl_22 : Cond.selects (ix_nm 22).cls (ix_nm 22) (ix_nm 22) ∈ Tw := tw_s (q := (ix_nm 22, 5)) (List.mem_append_left _ (List.mem_of_getElem? (i := 8) rfl))
theorem wsl_24 : Cond.selects (ix_nm 24).cls (ix_nm 24) (ix_nm 24) ∈ Tw := tw_s (q := (ix_nm 24, 5)) (List.mem_append_left _ (List.mem_of_getElem? (i := 4) rfl))
theorem wsl_25 : Cond.selects (ix_nm 25).cls (ix_nm 25) (ix_nm 25) ∈ Tw := tw_s (q := (ix_nm 25, 5)) (List.mem_append_left _ (List.mem_of_getElem? (i := 5) rfl))
theorem wsl_26 : Cond.selects (ix_nm 26).cls (ix_nm 26) (ix_nm 26) ∈ Tw := tw_s (q := (ix_nm 26, 5)) (List.mem_append_right _ (List.mem_append_left _ (List.mem_of_getElem? (i := 0) rfl)))
theorem wsl_27 : Cond.selects (ix_nm 27).cls (ix_nm 27) (ix_nm 27) ∈ Tw := tw_s (q := (ix_nm 27, 5)) (List.mem_append_right _ (List.mem_append_left _ (List.mem_of_getElem? (i := 1) rfl)))
theorem wsl_30 : Cond.selects (ix_nm 30).cls (ix_nm 30) (ix_nm 30) ∈ Tw := tw_2 (List.mem_of_getElem? (i := 193) rfl) rfl
theorem wsl_31 : Cond.selects (ix_nm 31).cls (ix_nm 31) (ix_nm 31) ∈ Tw := tw_2 (List.mem_of_getElem? (i := 202) rfl) rfl
theorem wsl_32 : Cond.selects (ix_nm 32).cls (ix_nm 32) (ix_nm 32) ∈ Tw := tw_3 (List.mem_of_getElem? (i := 1) rfl) rfl
theorem wsl_33 : Cond.selects (ix_nm 33).cls (ix_nm 33) (ix_nm 33) ∈ Tw := tw_3 (List.mem_of_getElem? (i := 5) rfl) rfl
theorem wsl_34 : Cond.selects (ix_nm 34).cls (ix_nm 34) (ix_nm 34) ∈ Tw := tw_3 (List.mem_of_getElem? (i := 10) rfl) rfl
theorem wsl_35 : Cond.selects (ix_nm 35).cls (ix_nm 35) (ix_nm 35) ∈ Tw := tw_3 (List.mem_of_getElem? (i := 18) rfl) rfl
theorem wsl_36 : Cond.selects (ix_nm 36).cls (ix_nm 36) (ix_nm 36) ∈ Tw := tw_3 (List.mem_of_getElem? (i := 46) rfl) rfl
theorem wsl_37 : Cond.selects (ix_nm 37).cls (ix_nm 37) (ix_nm 37) ∈ Tw := tw_3 (List.mem_of_getElem? (i := 42) rfl) rfl
theorem wsl_38 : Cond.selects (ix_nm 38).cls (ix_nm 38) (ix_nm 38) ∈ Tw := tw_s (q := (ix_nm 38, 16)) (List.mem_append_right _ (List.mem_append_left _ (List.mem_of_getElem? (i := 2) rfl)))
theorem wsl_39 : Cond.selects (ix_nm 39).cls (ix_nm 39) (ix_nm 39) ∈ Tw := tw_s (q := (ix_nm 39, 16)) (List.mem_append_left _ (List.mem_of_getElem? (i := 7) rfl))
theorem wsl_40 : Cond.selects (ix_nm 40).cls (ix_nm 40) (ix_nm 40) ∈ Tw := tw_3 (List.mem_of_getElem? (i := 133) rfl) rfl
theorem wsl_41 : Cond.selects (ix_nm 41).cls (ix_nm 41) (ix_nm 41) ∈ Tw := tw_3 (List.mem_of_getElem? (i := 105) rfl) rfl
theorem wsl_43 : Cond.selects (ix_nm 43).cls (ix_nm 43) (ix_nm 43) ∈ Tw := tw_2 (List.mem_of_getElem? (i := 139) rfl) rfl
theorem wsl_44 : Cond.selects (ix_nm 44).cls (ix_nm 44) (ix_nm 44) ∈ Tw := tw_2 (List.mem_of_getElem? (i := 143) rfl) rfl
theorem wsl_45 : Cond.selects (ix_nm 45).cls (ix_nm 45) (ix_nm 45) ∈ Tw := tw_2 (List.mem_of_getElem? (i := 211) rfl) rfl
theorem wsl_46 : Cond.selects (ix_nm 46).cls (ix_nm 46) (ix_nm 46) ∈ Tw := tw_2 (List.mem_of_getElem? (i := 176) rfl) rfl
theorem wsl_47 : Cond.selects (ix_nm 47).cls (ix_nm 47) (ix_nm 47) ∈ Tw := tw_3 (List.mem_of_getElem? (i := 34) rfl) rfl
theorem wsl_48 : Cond.selects (ix_nm 48).cls (ix_nm 48) (ix_nm 48) ∈ Tw := tw_2 (List.mem_of_getElem? (i := 232) rfl) rfl
theorem wsl_49 : Cond.selects (ix_nm 49).cls (ix_nm 49) (ix_nm 49) ∈ Tw := tw_s (q := (ix_nm 49, 5)) (List.mem_append_left _ (List.mem_of_getElem? (i := 10) rfl))
theorem wsl_50 : Cond.selects (ix_nm 50).cls (ix_nm 50) (ix_nm 50) ∈ Tw := tw_s (q := (ix_nm 50, 5)) (List.mem_append_left _ (List.mem_of_getElem? (i := 11) rfl))
theorem wsl_51 : Cond.selects (ix_nm 51).cls (ix_nm 51) (ix_nm 51) ∈ Tw := tw_s (q := (ix_nm 51, 5)) (List.mem_append_left _ (List.mem_of_getElem? (i := 13) rfl))
theorem wsl_52 : Cond.selects (ix_nm 52).cls (ix_nm 52) (ix_nm 52) ∈ Tw := tw_s (q := (ix_nm 52, 5)) (List.mem_append_left _ (List.mem_of_getElem? (i := 12) rfl))
theorem wsl_53 : Cond.selects (ix_nm 53).cls (ix_nm 53) (ix_nm 53) ∈ Tw := tw_s (q := (ix_nm 53, 5)) (List.mem_append_left _ (List.mem_of_getElem? (i := 14) rfl))
theorem wsl_54 : Cond.selects (ix_nm 54).cls (ix_nm 54) (ix_nm 54) ∈ Tw := tw_s (q := (ix_nm 54, 5)) (List.mem_append_left _ (List.mem_of_getElem? (i := 15) rfl))
theorem wsl_57 : Cond.selects (ix_nm 57).cls (ix_nm 57) (ix_nm 57) ∈ Tw := tw_3 (List.mem_of_getElem? (i := 115) rfl) rfl
theorem wsl_58 : Cond.selects (ix_nm 58).cls (ix_nm 58) (ix_nm 58) ∈ Tw := tw_3 (List.mem_of_getElem? (i := 96) rfl) rfl
theorem wsl_61 : Cond.selects (ix_nm 61).cls (ix_nm 61) (ix_nm 61) ∈ Tw := tw_2 (List.mem_of_getElem? (i := 155) rfl) rfl
theorem wsl_62 : Cond.selects (ix_nm 62).cls (ix_nm 62) (ix_nm 62) ∈ Tw := tw_3 (List.mem_of_getElem? (i := 173) rfl) rfl
theorem wsl_64 : Cond.selects (ix_nm 64).cls (ix_nm 64) (ix_nm 64) ∈ Tw := tw_2 (List.mem_of_getElem? (i := 180) rfl) rfl
theorem wsl_65 : Cond.selects (ix_nm 65).cls (ix_nm 65) (ix_nm 65) ∈ Tw := tw_2 (List.mem_of_getElem? (i := 151) rfl) rfl
theorem wsl_66 : Cond.selects (ix_nm 66).cls (ix_nm 66) (ix_nm 66) ∈ Tw := tw_3 (List.mem_of_getElem? (i := 26) rfl) rfl
theorem wsl_67 : Cond.selects (ix_nm 67).cls (ix_nm 67) (ix_nm 67) ∈ Tw := tw_2 (List.mem_of_getElem? (i := 147) rfl) rfl
theorem wsl_68 : Cond.selects (ix_nm 68).cls (ix_nm 68) (ix_nm 68) ∈ Tw := tw_3 (List.mem_of_getElem? (i := 30) rfl) rfl
theorem wsl_69 : Cond.selects (ix_nm 69).cls (ix_nm 69) (ix_nm 69) ∈ Tw := tw_2 (List.mem_of_getElem? (i := 215) rfl) rfl
theorem wsl_70 : Cond.selects (ix_nm 70).cls (ix_nm 70) (ix_nm 70) ∈ Tw := tw_3 (List.mem_of_getElem? (i := 83) rfl) rfl
theorem wsl_71 : Cond.selects (ix_nm 71).cls (ix_nm 71) (ix_nm 71) ∈ Tw := tw_s (q := (ix_nm 71, 9)) (List.mem_append_left _ (List.mem_of_getElem? (i := 6) rfl))
theorem wsl_72 : Cond.selects (ix_nm 72).cls (ix_nm 72) (ix_nm 72) ∈ Tw := tw_3 (List.mem_of_getElem? (i := 119) rfl) rfl
theorem wsl_73 : Cond.selects (ix_nm 73).cls (ix_nm 73) (ix_nm 73) ∈ Tw := tw_3 (List.mem_of_getElem? (i := 100) rfl) rfl
theorem wsl_75 : Cond.selects (ix_nm 75).cls (ix_nm 75) (ix_nm 75) ∈ Tw := tw_2 (List.mem_of_getElem? (i := 207) rfl) rfl
theorem wsl_76 : Cond.selects (ix_nm 76).cls (ix_nm 76) (ix_nm 76) ∈ Tw := tw_3 (List.mem_of_getElem? (i := 138) rfl) rfl
theorem wsl_77 : Cond.selects (ix_nm 77).cls (ix_nm 77) (ix_nm 77) ∈ Tw := tw_3 (List.mem_of_getElem? (i := 127) rfl) rfl
theorem wsl_78 : Cond.selects (ix_nm 78).cls (ix_nm 78) (ix_nm 78) ∈ Tw := tw_2 (List.mem_of_getElem? (i := 188) rfl) rfl
theorem wsl_79 : Cond.selects (ix_nm 79).cls (ix_nm 79) (ix_nm 79) ∈ Tw := tw_3 (List.mem_of_getElem? (i := 69) rfl) rfl
theorem wsl_80 : Cond.selects (ix_nm 80).cls (ix_nm 80) (ix_nm 80) ∈ Tw := tw_3 (List.mem_of_getElem? (i := 123) rfl) rfl
theorem wsl_82 : Cond.selects (ix_nm 82).cls (ix_nm 82) (ix_nm 82) ∈ Tw := tw_2 (List.mem_of_getElem? (i := 67) rfl) rfl
theorem wsl_83 : Cond.selects (ix_nm 83).cls (ix_nm 83) (ix_nm 83) ∈ Tw := tw_2 (List.mem_of_getElem? (i := 75) rfl) rfl
theorem wsl_85 : Cond.selects (ix_nm 85).cls (ix_nm 85) (ix_nm 85) ∈ Tw := tw_2 (List.mem_of_getElem? (i := 91) rfl) rfl
theorem wsl_86 : Cond.selects (ix_nm 86).cls (ix_nm 86) (ix_nm 86) ∈ Tw := tw_2 (List.mem_of_getElem? (i := 99) rfl) rfl
theorem wsl_87 : Cond.selects (ix_nm 87).cls (ix_nm 87) (ix_nm 87) ∈ Tw := tw_2 (List.mem_of_getElem? (i := 103) rfl) rfl
theorem wsl_88 : Cond.selects (ix_nm 88).cls (ix_nm 88) (ix_nm 88) ∈ Tw := tw_2 (List.mem_of_getElem? (i := 107) rfl) rfl
theorem wsl_89 : Cond.selects (ix_nm 89).cls (ix_nm 89) (ix_nm 89) ∈ Tw := tw_s (q := (ix_nm 89, 9)) (List.mem_append_left _ (List.mem_of_getElem? (i := 1) rfl))
theorem wsl_90 : Cond.selects (ix_nm 90).cls (ix_nm 90) (ix_nm 90) ∈ Tw := tw_2 (List.mem_of_getElem? (i := 111) rfl) rfl
theorem wsl_91 : Cond.selects (ix_nm 91).cls (ix_nm 91) (ix_nm 91) ∈ Tw := tw_s (q := (ix_nm 91, 9)) (List.mem_append_left _ (List.mem_of_getElem? (i := 2) rfl))
theorem wsl_92 : Cond.selects (ix_nm 92).cls (ix_nm 92) (ix_nm 92) ∈ Tw := tw_2 (List.mem_of_getElem? (i := 127) rfl) rfl
theorem wsl_93 : Cond.selects (ix_nm 93).cls (ix_nm 93) (ix_nm 93) ∈ Tw := tw_s (q := (ix_nm 93, 9)) (List.mem_append_left _ (List.mem_of_getElem? (i := 3) rfl))
theorem wsl_96 : Cond.selects (ix_nm 96).cls (ix_nm 96) (ix_nm 96) ∈ Tw := tw_4 (List.mem_of_getElem? (i := 43) rfl) rfl
theorem wsl_97 : Cond.selects (ix_nm 97).cls (ix_nm 97) (ix_nm 97) ∈ Tw := tw_4 (List.mem_of_getElem? (i := 50) rfl) rfl
theorem wsl_99 : Cond.selects (ix_nm 99).cls (ix_nm 99) (ix_nm 99) ∈ Tw := tw_4 (List.mem_of_getElem? (i := 55) rfl) rfl
theorem wsl_100 : Cond.selects (ix_nm 100).cls (ix_nm 100) (ix_nm 100) ∈ Tw := tw_s (q := (ix_nm 100, 31)) (List.mem_append_right _ (List.mem_append_left _ (List.mem_of_getElem? (i := 4) rfl)))
theorem wsl_101 : Cond.selects (ix_nm 101).cls (ix_nm 101) (ix_nm 101) ∈ Tw := tw_s (q := (ix_nm 101, 31)) (List.mem_append_right _ (List.mem_append_left _ (List.mem_of_getElem? (i := 3) rfl)))
theorem wsl_102 : Cond.selects (ix_nm 102).cls (ix_nm 102) (ix_nm 102) ∈ Tw := tw_4 (List.mem_of_getElem? (i := 64) rfl) rfl
theorem wsl_103 : Cond.selects (ix_nm 103).cls (ix_nm 103) (ix_nm 103) ∈ Tw := tw_4 (List.mem_of_getElem? (i := 76) rfl) rfl
theorem wsl_104 : Cond.selects (ix_nm 104).cls (ix_nm 104) (ix_nm 104) ∈ Tw := tw_s (q := (ix_nm 104, 31)) (List.mem_append_right _ (List.mem_append_left _ (List.mem_of_getElem? (i := 6) rfl)))
theorem wsl_105 : Cond.selects (ix_nm 105).cls (ix_nm 105) (ix_nm 105) ∈ Tw := tw_s (q := (ix_nm 105, 31)) (List.mem_append_right _ (List.mem_append_left _ (List.mem_of_getElem? (i := 5) rfl)))
theorem wsl_106 : Cond.selects (ix_nm 106).cls (ix_nm 106) (ix_nm 106) ∈ Tw := tw_4 (List.mem_of_getElem? (i := 81) rfl) rfl
theorem wsl_107 : Cond.selects (ix_nm 107).cls (ix_nm 107) (ix_nm 107) ∈ Tw := tw_s (q := (ix_nm 107, 31)) (List.mem_append_right _ (List.mem_append_left _ (List.mem_of_getElem? (i := 9) rfl)))
theorem wsl_108 : Cond.selects (ix_nm 108).cls (ix_nm 108) (ix_nm 108) ∈ Tw := tw_s (q := (ix_nm 108, 31)) (List.mem_append_right _ (List.mem_append_left _ (List.mem_of_getElem? (i := 8) rfl)))
theorem wsl_109 : Cond.selects (ix_nm 109).cls (ix_nm 109) (ix_nm 109) ∈ Tw := tw_s (q := (ix_nm 109, 31)) (List.mem_append_right _ (List.mem_append_left _ (List.mem_of_getElem? (i := 7) rfl)))
theorem wsl_110 : Cond.selects (ix_nm 110).cls (ix_nm 110) (ix_nm 110) ∈ Tw := tw_s (q := (ix_nm 110, 31)) (List.mem_append_right _ (List.mem_append_left _ (List.mem_of_getElem? (i := 13) rfl)))
theorem wsl_111 : Cond.selects (ix_nm 111).cls (ix_nm 111) (ix_nm 111) ∈ Tw := tw_s (q := (ix_nm 111, 31)) (List.mem_append_right _ (List.mem_append_left _ (List.mem_of_getElem? (i := 11) rfl)))
theorem wsl_112 : Cond.selects (ix_nm 112).cls (ix_nm 112) (ix_nm 112) ∈ Tw := tw_s (q := (ix_nm 112, 31)) (List.mem_append_right _ (List.mem_append_left _ (List.mem_of_getElem? (i := 10) rfl)))
theorem wsl_113 : Cond.selects (ix_nm 113).cls (ix_nm 113) (ix_nm 113) ∈ Tw := tw_s (q := (ix_nm 113, 31)) (List.mem_append_right _ (List.mem_append_left _ (List.mem_of_getElem? (i := 12) rfl)))
theorem wsl_114 : Cond.selects (ix_nm 114).cls (ix_nm 114) (ix_nm 114) ∈ Tw := tw_s (q := (ix_nm 114, 31)) (List.mem_append_right _ (List.mem_append_right _ (List.mem_of_getElem? (i := 1) rfl)))
theorem wsl_115 : Cond.selects (ix_nm 115).cls (ix_nm 115) (ix_nm 115) ∈ Tw := tw_s (q := (ix_nm 115, 31)) (List.mem_append_right _ (List.mem_append_left _ (List.mem_of_getElem? (i := 15) rfl)))
theorem wsl_116 : Cond.selects (ix_nm 116).cls (ix_nm 116) (ix_nm 116) ∈ Tw := tw_s (q := (ix_nm 116, 31)) (List.mem_append_right _ (List.mem_append_right _ (List.mem_of_getElem? (i := 2) rfl)))
theorem wsl_117 : Cond.selects (ix_nm 117).cls (ix_nm 117) (ix_nm 117) ∈ Tw := tw_s (q := (ix_nm 117, 31)) (List.mem_append_right _ (List.mem_append_right _ (List.mem_of_getElem? (i := 4) rfl)))
theorem wsl_118 : Cond.selects (ix_nm 118).cls (ix_nm 118) (ix_nm 118) ∈ Tw := tw_s (q := (ix_nm 118, 31)) (List.mem_append_right _ (List.mem_append_right _ (List.mem_of_getElem? (i := 3) rfl)))
theorem wsl_120 : Cond.selects (ix_nm 120).cls (ix_nm 120) (ix_nm 120) ∈ Tw := tw_s (q := (ix_nm 120, 31)) (List.mem_append_right _ (List.mem_append_right _ (List.mem_of_getElem? (i := 5) rfl)))
theorem wsl_121 : Cond.selects (ix_nm 121).cls (ix_nm 121) (ix_nm 121) ∈ Tw := tw_s (q := (ix_nm 121, 31)) (List.mem_append_right _ (List.mem_append_right _ (List.mem_of_getElem? (i := 9) rfl)))
theorem wsl_122 : Cond.selects (ix_nm 122).cls (ix_nm 122) (ix_nm 122) ∈ Tw := tw_s (q := (ix_nm 122, 31)) (List.mem_append_right _ (List.mem_append_left _ (List.mem_of_getElem? (i := 14) rfl)))
theorem wsl_123 : Cond.selects (ix_nm 123).cls (ix_nm 123) (ix_nm 123) ∈ Tw := tw_s (q := (ix_nm 123, 31)) (List.mem_append_right _ (List.mem_append_right _ (List.mem_of_getElem? (i := 0) rfl)))
theorem wsl_124 : Cond.selects (ix_nm 124).cls (ix_nm 124) (ix_nm 124) ∈ Tw := tw_4 (List.mem_of_getElem? (i := 93) rfl) rfl
theorem wsl_125 : Cond.selects (ix_nm 125).cls (ix_nm 125) (ix_nm 125) ∈ Tw := tw_4 (List.mem_of_getElem? (i := 128) rfl) rfl
theorem wsl_126 : Cond.selects (ix_nm 126).cls (ix_nm 126) (ix_nm 126) ∈ Tw := tw_4 (List.mem_of_getElem? (i := 171) rfl) rfl
theorem wsl_127 : Cond.selects (ix_nm 127).cls (ix_nm 127) (ix_nm 127) ∈ Tw := tw_4 (List.mem_of_getElem? (i := 175) rfl) rfl
theorem wsl_128 : Cond.selects (ix_nm 128).cls (ix_nm 128) (ix_nm 128) ∈ Tw := tw_4 (List.mem_of_getElem? (i := 179) rfl) rfl
theorem wsl_129 : Cond.selects (ix_nm 129).cls (ix_nm 129) (ix_nm 129) ∈ Tw := tw_s (q := (ix_nm 129, 31)) (List.mem_append_right _ (List.mem_append_right _ (List.mem_of_getElem? (i := 7) rfl)))
theorem wsl_130 : Cond.selects (ix_nm 130).cls (ix_nm 130) (ix_nm 130) ∈ Tw := tw_s (q := (ix_nm 130, 31)) (List.mem_append_right _ (List.mem_append_right _ (List.mem_of_getElem? (i := 6) rfl)))
theorem wsl_131 : Cond.selects (ix_nm 131).cls (ix_nm 131) (ix_nm 131) ∈ Tw := tw_s (q := (ix_nm 131, 31)) (List.mem_append_right _ (List.mem_append_right _ (List.mem_of_getElem? (i := 8) rfl)))
theorem wsl_132 : Cond.selects (ix_nm 132).cls (ix_nm 132) (ix_nm 132) ∈ Tw := tw_4 (List.mem_of_getElem? (i := 183) rfl) rfl
theorem wsl_133 : Cond.selects (ix_nm 133).cls (ix_nm 133) (ix_nm 133) ∈ Tw := tw_4 (List.mem_of_getElem? (i := 203) rfl) rfl
theorem wsl_134 : Cond.selects (ix_nm 134).cls (ix_nm 134) (ix_nm 134) ∈ Tw := tw_4 (List.mem_of_getElem? (i := 207) rfl) rfl
theorem wsl_135 : Cond.selects (ix_nm 135).cls (ix_nm 135) (ix_nm 135) ∈ Tw := tw_4 (List.mem_of_getElem? (i := 211) rfl) rfl
theorem wsl_136 : Cond.selects (ix_nm 136).cls (ix_nm 136) (ix_nm 136) ∈ Tw := tw_4 (List.mem_of_getElem? (i := 215) rfl) rfl
theorem wsl_137 : Cond.selects (ix_nm 137).cls (ix_nm 137) (ix_nm 137) ∈ Tw := tw_4 (List.mem_of_getElem? (i := 112) rfl) rfl
theorem wsl_138 : Cond.selects (ix_nm 138).cls (ix_nm 138) (ix_nm 138) ∈ Tw := tw_4 (List.mem_of_getElem? (i := 220) rfl) rfl
theorem wsl_139 : Cond.selects (ix_nm 139).cls (ix_nm 139) (ix_nm 139) ∈ Tw := tw_4 (List.mem_of_getElem? (i := 224) rfl) rfl
theorem wo_i : Cond.instanceMethod objectInit ∈ Tw := tw_1 (List.mem_of_getElem? (i := 18) rfl) rfl
theorem wo_c : Cond.code objectInit ⟨#[0xb1]⟩ 1 none ∈ Tw := tw_1 (List.mem_of_getElem? (i := 19) rfl) rfl
theorem wm_n : Cond.initialized "java/lang/Math" ∈ Tw := tw_1 (List.mem_of_getElem? (i := 3) rfl) rfl
theorem wm_smax : Cond.static Lib.Math.max.name ∈ Tw := tw_1 (List.mem_of_getElem? (i := 26) rfl) rfl
theorem wm_cmax : Cond.code Lib.Math.max.name Lib.Math.max.code 2 (some .int) ∈ Tw := tw_1 (List.mem_of_getElem? (i := 27) rfl) rfl
theorem wm_smin : Cond.static Lib.Math.min.name ∈ Tw := tw_1 (List.mem_of_getElem? (i := 23) rfl) rfl
theorem wm_cmin : Cond.code Lib.Math.min.name Lib.Math.min.code 2 (some .int) ∈ Tw := tw_1 (List.mem_of_getElem? (i := 24) rfl) rfl
theorem pk_0_1 : ix_pk 0 1 9 0 1 := ⟨tw_1 (List.mem_of_getElem? (i := 17) rfl) rfl, wo_i, wo_c⟩
theorem pk_0_7 : ix_pk 0 7 4 4 0 := ⟨okc_4, tw_1 (List.mem_of_getElem? (i := 20) rfl) rfl, tw_1 (List.mem_of_getElem? (i := 21) rfl) rfl, wn_4, fun h => absurd rfl h⟩
theorem pk_0_9 : ix_pk 0 9 11 0 2 := ⟨tw_1 (List.mem_of_getElem? (i := 22) rfl) rfl, wm_smin, wm_n, wm_cmin⟩
theorem pk_0_15 : ix_pk 0 15 10 0 2 := ⟨tw_1 (List.mem_of_getElem? (i := 25) rfl) rfl, wm_smax, wm_n, wm_cmax⟩
theorem pk_0_18 : ix_pk 0 18 7 59 2 := ⟨by decide, rfl, rfl, rfl, tw_1 (List.mem_of_getElem? (i := 28) rfl) rfl, wi_59, wn_4⟩
theorem pk_0_21 : ix_pk 0 21 3 0 0 := ⟨okc_0, by decide, tw_2 (List.mem_of_getElem? (i := 36) rfl) rfl⟩
theorem pk_0_27 : ix_pk 0 27 4 5 0 := ⟨okc_5, tw_1 (List.mem_of_getElem? (i := 45) rfl) rfl, tw_1 (List.mem_of_getElem? (i := 46) rfl) rfl, wn_5, fun h => absurd rfl h⟩
theorem pk_0_29 : ix_pk 0 29 7 60 2 := ⟨by decide, rfl, rfl, rfl, tw_1 (List.mem_of_getElem? (i := 47) rfl) rfl, wi_60, wn_5⟩
theorem pk_0_32 : ix_pk 0 32 3 0 1 := ⟨okc_0, by decide, tw_2 (List.mem_of_getElem? (i := 37) rfl) rfl⟩
theorem pk_0_36 : ix_pk 0 36 4 8 103 := ⟨okc_8, tw_1 (List.mem_of_getElem? (i := 63) rfl) rfl, tw_1 (List.mem_of_getElem? (i := 65) rfl) rfl, wn_8, fun _ => ⟨by decide, by decide, rfl, by decide +kernel⟩⟩
theorem pk_0_38 : ix_pk 0 38 3 0 2 := ⟨okc_0, by decide, tw_2 (List.mem_of_getElem? (i := 38) rfl) rfl⟩
theorem pk_0_42 : ix_pk 0 42 7 81 2 := ⟨by decide, rfl, rfl, rfl, tw_1 (List.mem_of_getElem? (i := 66) rfl) rfl, wi_81, wn_8⟩
theorem pk_0_43 : ix_pk 0 43 4 3 104 := ⟨okc_3, tw_1 (List.mem_of_getElem? (i := 127) rfl) rfl, tw_1 (List.mem_of_getElem? (i := 129) rfl) rfl, wn_3, fun _ => ⟨by decide, by decide, rfl, by decide +kernel⟩⟩
theorem pk_0_45 : ix_pk 0 45 3 0 3 := ⟨okc_0, by decide, tw_2 (List.mem_of_getElem? (i := 39) rfl) rfl⟩
theorem pk_0_49 : ix_pk 0 49 7 42 4 := ⟨by decide, rfl, rfl, rfl, tw_1 (List.mem_of_getElem? (i := 130) rfl) rfl, wi_42, wn_3⟩
theorem pk_0_52 : ix_pk 0 52 3 0 4 := ⟨okc_0, by decide, tw_2 (List.mem_of_getElem? (i := 40) rfl) rfl⟩
theorem pk_0_56 : ix_pk 0 56 6 20 2 := ⟨by decide, rfl, okc_0, rfl, tw_2 (List.mem_of_getElem? (i := 56) rfl) rfl, wi_20, wsl_20, wn_0⟩
theorem pk_0_60 : ix_pk 0 60 3 8 1 := ⟨okc_8, by decide, tw_1 (List.mem_of_getElem? (i := 97) rfl) rfl⟩
theorem pk_0_63 : ix_pk 0 63 1 69069 0 := by (show Cond.constant "ForkedInvites" 63 (Int32.ofNat 69069) ∈ Tw); rw [show Int32.ofNat 69069 = (69069 : Int32) from by decide +kernel]; exact tw_2 (List.mem_of_getElem? (i := 64) rfl) rfl
theorem pk_0_64 : ix_pk 0 64 6 82 2 := ⟨by decide, rfl, okc_8, rfl, tw_2 (List.mem_of_getElem? (i := 65) rfl) rfl, wi_82, wsl_82, wn_8⟩
theorem pk_0_67 : ix_pk 0 67 6 83 3 := ⟨by decide, rfl, okc_8, rfl, tw_2 (List.mem_of_getElem? (i := 73) rfl) rfl, wi_83, wsl_83, wn_8⟩
theorem pk_0_71 : ix_pk 0 71 8 23 3 := ⟨by decide, rfl, tw_2 (List.mem_of_getElem? (i := 86) rfl) rfl, wi_23, wn_0⟩
theorem pk_0_75 : ix_pk 0 75 3 8 2 := ⟨okc_8, by decide, tw_1 (List.mem_of_getElem? (i := 100) rfl) rfl⟩
theorem pk_0_79 : ix_pk 0 79 6 85 1 := ⟨by decide, rfl, okc_8, rfl, tw_2 (List.mem_of_getElem? (i := 89) rfl) rfl, wi_85, wsl_85, wn_8⟩
theorem pk_0_82 : ix_pk 0 82 6 86 3 := ⟨by decide, rfl, okc_8, rfl, tw_2 (List.mem_of_getElem? (i := 97) rfl) rfl, wi_86, wsl_86, wn_8⟩
theorem pk_0_85 : ix_pk 0 85 6 87 1 := ⟨by decide, rfl, okc_8, rfl, tw_2 (List.mem_of_getElem? (i := 101) rfl) rfl, wi_87, wsl_87, wn_8⟩
theorem pk_0_88 : ix_pk 0 88 6 88 2 := ⟨by decide, rfl, okc_8, rfl, tw_2 (List.mem_of_getElem? (i := 105) rfl) rfl, wi_88, wsl_88, wn_8⟩
theorem pk_0_91 : ix_pk 0 91 6 90 5 := ⟨by decide, rfl, okc_8, rfl, tw_2 (List.mem_of_getElem? (i := 109) rfl) rfl, wi_90, wsl_90, wn_8⟩
theorem pk_0_95 : ix_pk 0 95 3 8 8 := ⟨okc_8, by decide, tw_1 (List.mem_of_getElem? (i := 107) rfl) rfl⟩
theorem pk_0_98 : ix_pk 0 98 6 92 2 := ⟨by decide, rfl, okc_8, rfl, tw_2 (List.mem_of_getElem? (i := 125) rfl) rfl, wi_92, wsl_92, wn_8⟩
theorem pk_0_102 : ix_pk 0 102 3 1 0 := ⟨okc_1, by decide, tw_1 (List.mem_of_getElem? (i := 79) rfl) rfl⟩
theorem pk_0_107 : ix_pk 0 107 3 1 2 := ⟨okc_1, by decide, tw_1 (List.mem_of_getElem? (i := 82) rfl) rfl⟩
theorem pk_0_110 : ix_pk 0 110 3 4 1 := ⟨okc_4, by decide, tw_1 (List.mem_of_getElem? (i := 39) rfl) rfl⟩
theorem pk_0_113 : ix_pk 0 113 3 5 2 := ⟨okc_5, by decide, tw_1 (List.mem_of_getElem? (i := 54) rfl) rfl⟩
theorem pk_0_116 : ix_pk 0 116 6 43 1 := ⟨by decide, rfl, okc_3, rfl, tw_2 (List.mem_of_getElem? (i := 137) rfl) rfl, wi_43, wsl_43, wn_3⟩
theorem pk_0_120 : ix_pk 0 120 3 3 1 := ⟨okc_3, by decide, tw_2 (List.mem_of_getElem? (i := 19) rfl) rfl⟩
theorem pk_0_124 : ix_pk 0 124 6 67 1 := ⟨by decide, rfl, okc_6, rfl, tw_2 (List.mem_of_getElem? (i := 145) rfl) rfl, wi_67, wsl_67, wn_6⟩
theorem pk_0_129 : ix_pk 0 129 6 24 4 := ⟨by decide, rfl, okc_0, rfl, tw_2 (List.mem_of_getElem? (i := 160) rfl) rfl, wi_24, wsl_24, wn_0⟩
theorem pk_0_133 : ix_pk 0 133 6 25 4 := ⟨by decide, rfl, okc_0, rfl, tw_2 (List.mem_of_getElem? (i := 164) rfl) rfl, wi_25, wsl_25, wn_0⟩
theorem pk_0_137 : ix_pk 0 137 6 22 3 := ⟨by decide, rfl, okc_0, rfl, tw_2 (List.mem_of_getElem? (i := 222) rfl) rfl, wi_22, wsl_22, wn_0⟩
theorem pk_0_141 : ix_pk 0 141 6 48 3 := ⟨by decide, rfl, okc_3, rfl, tw_2 (List.mem_of_getElem? (i := 230) rfl) rfl, wi_48, wsl_48, wn_3⟩
theorem pk_0_145 : ix_pk 0 145 3 2 8 := ⟨okc_2, by decide, tw_1 (List.mem_of_getElem? (i := 208) rfl) rfl⟩
theorem pk_0_151 : ix_pk 0 151 6 79 1 := ⟨by decide, rfl, okc_7, rfl, tw_3 (List.mem_of_getElem? (i := 67) rfl) rfl, wi_79, wsl_79, wn_7⟩
theorem pk_0_156 : ix_pk 0 156 6 78 1 := ⟨by decide, rfl, okc_7, rfl, tw_3 (List.mem_of_getElem? (i := 71) rfl) rfl, wi_78, wsl_78, wn_7⟩
theorem pk_0_159 : ix_pk 0 159 6 21 2 := ⟨by decide, rfl, okc_0, rfl, tw_2 (List.mem_of_getElem? (i := 226) rfl) rfl, wi_21, wsl_21, wn_0⟩
theorem pk_0_163 : ix_pk 0 163 3 6 7 := ⟨okc_6, by decide, tw_1 (List.mem_of_getElem? (i := 170) rfl) rfl⟩
theorem pk_0_166 : ix_pk 0 166 6 47 1 := ⟨by decide, rfl, okc_3, rfl, tw_3 (List.mem_of_getElem? (i := 76) rfl) rfl, wi_47, wsl_47, wn_3⟩
theorem pk_0_169 : ix_pk 0 169 6 70 1 := ⟨by decide, rfl, okc_6, rfl, tw_3 (List.mem_of_getElem? (i := 81) rfl) rfl, wi_70, wsl_70, wn_6⟩
theorem pk_0_172 : ix_pk 0 172 6 26 1 := ⟨by decide, rfl, okc_0, rfl, tw_3 (List.mem_of_getElem? (i := 89) rfl) rfl, wi_26, wsl_26, wn_0⟩
theorem pk_0_176 : ix_pk 0 176 6 27 1 := ⟨by decide, rfl, okc_0, rfl, tw_3 (List.mem_of_getElem? (i := 109) rfl) rfl, wi_27, wsl_27, wn_0⟩
theorem pk_0_179 : ix_pk 0 179 3 6 8 := ⟨okc_6, by decide, tw_1 (List.mem_of_getElem? (i := 172) rfl) rfl⟩
theorem pk_0_182 : ix_pk 0 182 3 2 11 := ⟨okc_2, by decide, tw_1 (List.mem_of_getElem? (i := 214) rfl) rfl⟩
theorem pk_0_183 : ix_pk 0 183 3 2 12 := ⟨okc_2, by decide, tw_1 (List.mem_of_getElem? (i := 217) rfl) rfl⟩
theorem pk_0_186 : ix_pk 0 186 3 2 10 := ⟨okc_2, by decide, tw_1 (List.mem_of_getElem? (i := 211) rfl) rfl⟩
theorem pk_0_187 : ix_pk 0 187 3 2 14 := ⟨okc_2, by decide, tw_1 (List.mem_of_getElem? (i := 221) rfl) rfl⟩
theorem pk_0_190 : ix_pk 0 190 6 44 1 := ⟨by decide, rfl, okc_3, rfl, tw_2 (List.mem_of_getElem? (i := 172) rfl) rfl, wi_44, wsl_44, wn_3⟩
theorem pk_0_193 : ix_pk 0 193 6 62 2 := ⟨by decide, rfl, okc_5, rfl, tw_3 (List.mem_of_getElem? (i := 171) rfl) rfl, wi_62, wsl_62, wn_5⟩
theorem pk_0_197 : ix_pk 0 197 3 3 3 := ⟨okc_3, by decide, tw_2 (List.mem_of_getElem? (i := 23) rfl) rfl⟩
theorem pk_0_200 : ix_pk 0 200 3 3 2 := ⟨okc_3, by decide, tw_2 (List.mem_of_getElem? (i := 21) rfl) rfl⟩
theorem pk_0_204 : ix_pk 0 204 6 17 1 := ⟨by decide, rfl, okc_0, rfl, tw_2 (List.mem_of_getElem? (i := 168) rfl) rfl, wi_17, wsl_17, wn_0⟩
theorem pk_0_207 : ix_pk 0 207 3 3 0 := ⟨okc_3, by decide, tw_2 (List.mem_of_getElem? (i := 17) rfl) rfl⟩
theorem pk_0_210 : ix_pk 0 210 6 61 4 := ⟨by decide, rfl, okc_5, rfl, tw_2 (List.mem_of_getElem? (i := 173) rfl) rfl, wi_61, wsl_61, wn_5⟩
theorem pk_0_214 : ix_pk 0 214 6 46 2 := ⟨by decide, rfl, okc_3, rfl, tw_2 (List.mem_of_getElem? (i := 174) rfl) rfl, wi_46, wsl_46, wn_3⟩
theorem pk_0_218 : ix_pk 0 218 6 45 2 := ⟨by decide, rfl, okc_3, rfl, tw_2 (List.mem_of_getElem? (i := 209) rfl) rfl, wi_45, wsl_45, wn_3⟩
theorem pk_0_221 : ix_pk 0 221 1 2147483647 0 := by (show Cond.constant "ForkedInvites" 221 (Int32.ofNat 2147483647) ∈ Tw); rw [show Int32.ofNat 2147483647 = (2147483647 : Int32) from by decide +kernel]; exact tw_3 (List.mem_of_getElem? (i := 93) rfl) rfl
theorem pk_0_222 : ix_pk 0 222 6 58 1 := ⟨by decide, rfl, okc_3, rfl, tw_3 (List.mem_of_getElem? (i := 94) rfl) rfl, wi_58, wsl_58, wn_3⟩
theorem pk_0_223 : ix_pk 0 223 6 57 1 := ⟨by decide, rfl, okc_3, rfl, tw_3 (List.mem_of_getElem? (i := 113) rfl) rfl, wi_57, wsl_57, wn_3⟩
theorem pk_1_1 : ix_pk 1 1 9 0 1 := ⟨tw_1 (List.mem_of_getElem? (i := 76) rfl) rfl, wo_i, wo_c⟩
theorem pk_2_3 : ix_pk 2 3 9 0 1 := ⟨tw_1 (List.mem_of_getElem? (i := 196) rfl) rfl, wo_i, wo_c⟩
theorem pk_2_11 : ix_pk 2 11 3 2 11 := ⟨okc_2, by decide, tw_1 (List.mem_of_getElem? (i := 212) rfl) rfl⟩
theorem pk_2_15 : ix_pk 2 15 3 2 0 := ⟨okc_2, by decide, tw_1 (List.mem_of_getElem? (i := 199) rfl) rfl⟩
theorem pk_2_19 : ix_pk 2 19 3 2 1 := ⟨okc_2, by decide, tw_1 (List.mem_of_getElem? (i := 200) rfl) rfl⟩
theorem pk_2_23 : ix_pk 2 23 3 2 2 := ⟨okc_2, by decide, tw_1 (List.mem_of_getElem? (i := 201) rfl) rfl⟩
theorem pk_2_26 : ix_pk 2 26 3 2 3 := ⟨okc_2, by decide, tw_1 (List.mem_of_getElem? (i := 202) rfl) rfl⟩
theorem pk_2_29 : ix_pk 2 29 4 7 0 := ⟨okc_7, tw_1 (List.mem_of_getElem? (i := 197) rfl) rfl, tw_1 (List.mem_of_getElem? (i := 143) rfl) rfl, wn_7, fun h => absurd rfl h⟩
theorem pk_2_31 : ix_pk 2 31 7 74 2 := ⟨by decide, rfl, rfl, rfl, tw_1 (List.mem_of_getElem? (i := 198) rfl) rfl, wi_74, wn_7⟩
theorem pk_2_34 : ix_pk 2 34 3 2 4 := ⟨okc_2, by decide, tw_1 (List.mem_of_getElem? (i := 203) rfl) rfl⟩
theorem pk_2_38 : ix_pk 2 38 3 2 5 := ⟨okc_2, by decide, tw_1 (List.mem_of_getElem? (i := 204) rfl) rfl⟩
theorem pk_2_41 : ix_pk 2 41 3 2 6 := ⟨okc_2, by decide, tw_1 (List.mem_of_getElem? (i := 205) rfl) rfl⟩
theorem pk_2_44 : ix_pk 2 44 3 2 7 := ⟨okc_2, by decide, tw_1 (List.mem_of_getElem? (i := 206) rfl) rfl⟩
theorem pk_2_47 : ix_pk 2 47 3 2 8 := ⟨okc_2, by decide, tw_1 (List.mem_of_getElem? (i := 207) rfl) rfl⟩
theorem pk_2_50 : ix_pk 2 50 3 2 9 := ⟨okc_2, by decide, tw_1 (List.mem_of_getElem? (i := 209) rfl) rfl⟩
theorem pk_2_53 : ix_pk 2 53 3 2 10 := ⟨okc_2, by decide, tw_1 (List.mem_of_getElem? (i := 210) rfl) rfl⟩
theorem pk_2_56 : ix_pk 2 56 3 2 12 := ⟨okc_2, by decide, tw_1 (List.mem_of_getElem? (i := 215) rfl) rfl⟩
theorem pk_2_60 : ix_pk 2 60 3 2 13 := ⟨okc_2, by decide, tw_1 (List.mem_of_getElem? (i := 218) rfl) rfl⟩
theorem pk_2_63 : ix_pk 2 63 3 2 14 := ⟨okc_2, by decide, tw_1 (List.mem_of_getElem? (i := 219) rfl) rfl⟩
theorem pk_2_66 : ix_pk 2 66 6 39 2 := ⟨by decide, rfl, okc_2, rfl, tw_2 (List.mem_of_getElem? (i := 195) rfl) rfl, wi_39, wsl_39, wn_2⟩
theorem pk_2_70 : ix_pk 2 70 6 61 4 := ⟨by decide, rfl, okc_5, rfl, tw_2 (List.mem_of_getElem? (i := 204) rfl) rfl, wi_61, wsl_61, wn_5⟩
theorem pk_2_76 : ix_pk 2 76 3 4 0 := ⟨okc_4, by decide, tw_1 (List.mem_of_getElem? (i := 33) rfl) rfl⟩
theorem pk_2_81 : ix_pk 2 81 6 75 2 := ⟨by decide, rfl, okc_7, rfl, tw_2 (List.mem_of_getElem? (i := 205) rfl) rfl, wi_75, wsl_75, wn_7⟩
theorem pk_2_84 : ix_pk 2 84 6 78 1 := ⟨by decide, rfl, okc_7, rfl, tw_2 (List.mem_of_getElem? (i := 199) rfl) rfl, wi_78, wsl_78, wn_7⟩
theorem pk_2_87 : ix_pk 2 87 6 37 1 := ⟨by decide, rfl, okc_2, rfl, tw_3 (List.mem_of_getElem? (i := 48) rfl) rfl, wi_37, wsl_37, wn_2⟩
theorem pk_2_90 : ix_pk 2 90 6 31 1 := ⟨by decide, rfl, okc_2, rfl, tw_2 (List.mem_of_getElem? (i := 200) rfl) rfl, wi_31, wsl_31, wn_2⟩
theorem pk_2_94 : ix_pk 2 94 6 80 1 := ⟨by decide, rfl, okc_7, rfl, tw_3 (List.mem_of_getElem? (i := 135) rfl) rfl, wi_80, wsl_80, wn_7⟩
theorem pk_2_97 : ix_pk 2 97 6 76 1 := ⟨by decide, rfl, okc_7, rfl, tw_3 (List.mem_of_getElem? (i := 136) rfl) rfl, wi_76, wsl_76, wn_7⟩
theorem pk_2_100 : ix_pk 2 100 6 38 1 := ⟨by decide, rfl, okc_2, rfl, tw_3 (List.mem_of_getElem? (i := 140) rfl) rfl, wi_38, wsl_38, wn_2⟩
theorem pk_2_103 : ix_pk 2 103 6 34 1 := ⟨by decide, rfl, okc_2, rfl, tw_3 (List.mem_of_getElem? (i := 144) rfl) rfl, wi_34, wsl_34, wn_2⟩
theorem pk_2_106 : ix_pk 2 106 6 77 2 := ⟨by decide, rfl, okc_7, rfl, tw_3 (List.mem_of_getElem? (i := 145) rfl) rfl, wi_77, wsl_77, wn_7⟩
theorem pk_2_109 : ix_pk 2 109 3 7 2 := ⟨okc_7, by decide, tw_1 (List.mem_of_getElem? (i := 153) rfl) rfl⟩
theorem pk_2_112 : ix_pk 2 112 11 0 2 := ⟨tw_3 (List.mem_of_getElem? (i := 107) rfl) rfl, wm_smin, wm_n, wm_cmin⟩
theorem pk_3_3 : ix_pk 3 3 9 0 1 := ⟨tw_1 (List.mem_of_getElem? (i := 133) rfl) rfl, wo_i, wo_c⟩
theorem pk_3_9 : ix_pk 3 9 4 2 106 := ⟨okc_2, tw_1 (List.mem_of_getElem? (i := 134) rfl) rfl, tw_1 (List.mem_of_getElem? (i := 192) rfl) rfl, wn_2, fun _ => ⟨by decide, by decide, rfl, by decide +kernel⟩⟩
theorem pk_3_11 : ix_pk 3 11 3 3 2 := ⟨okc_3, by decide, tw_2 (List.mem_of_getElem? (i := 20) rfl) rfl⟩
theorem pk_3_17 : ix_pk 3 17 3 3 0 := ⟨okc_3, by decide, tw_2 (List.mem_of_getElem? (i := 16) rfl) rfl⟩
theorem pk_3_21 : ix_pk 3 21 4 6 0 := ⟨okc_6, tw_1 (List.mem_of_getElem? (i := 136) rfl) rfl, tw_1 (List.mem_of_getElem? (i := 137) rfl) rfl, wn_6, fun h => absurd rfl h⟩
theorem pk_3_23 : ix_pk 3 23 7 63 4 := ⟨by decide, rfl, rfl, rfl, tw_1 (List.mem_of_getElem? (i := 138) rfl) rfl, wi_63, wn_6⟩
theorem pk_3_26 : ix_pk 3 26 3 3 1 := ⟨okc_3, by decide, tw_2 (List.mem_of_getElem? (i := 18) rfl) rfl⟩
theorem pk_3_30 : ix_pk 3 30 7 29 5 := ⟨by decide, rfl, rfl, rfl, tw_1 (List.mem_of_getElem? (i := 193) rfl) rfl, wi_29, wn_2⟩
theorem pk_3_33 : ix_pk 3 33 6 44 1 := ⟨by decide, rfl, okc_3, rfl, tw_2 (List.mem_of_getElem? (i := 141) rfl) rfl, wi_44, wsl_44, wn_3⟩
theorem pk_3_37 : ix_pk 3 37 3 6 7 := ⟨okc_6, by decide, tw_1 (List.mem_of_getElem? (i := 169) rfl) rfl⟩
theorem pk_3_40 : ix_pk 3 40 3 3 3 := ⟨okc_3, by decide, tw_2 (List.mem_of_getElem? (i := 22) rfl) rfl⟩
theorem pk_3_43 : ix_pk 3 43 3 2 11 := ⟨okc_2, by decide, tw_1 (List.mem_of_getElem? (i := 213) rfl) rfl⟩
theorem pk_3_44 : ix_pk 3 44 6 69 2 := ⟨by decide, rfl, okc_6, rfl, tw_2 (List.mem_of_getElem? (i := 213) rfl) rfl, wi_69, wsl_69, wn_6⟩
theorem pk_3_48 : ix_pk 3 48 3 3 4 := ⟨okc_3, by decide, tw_2 (List.mem_of_getElem? (i := 24) rfl) rfl⟩
theorem pk_3_51 : ix_pk 3 51 6 64 1 := ⟨by decide, rfl, okc_6, rfl, tw_2 (List.mem_of_getElem? (i := 178) rfl) rfl, wi_64, wsl_64, wn_6⟩
theorem pk_3_54 : ix_pk 3 54 6 92 2 := ⟨by decide, rfl, okc_8, rfl, tw_2 (List.mem_of_getElem? (i := 190) rfl) rfl, wi_92, wsl_92, wn_8⟩
theorem pk_3_60 : ix_pk 3 60 3 1 0 := ⟨okc_1, by decide, tw_1 (List.mem_of_getElem? (i := 77) rfl) rfl⟩
theorem pk_3_65 : ix_pk 3 65 6 30 2 := ⟨by decide, rfl, okc_2, rfl, tw_2 (List.mem_of_getElem? (i := 191) rfl) rfl, wi_30, wsl_30, wn_2⟩
theorem pk_3_68 : ix_pk 3 68 6 31 1 := ⟨by decide, rfl, okc_2, rfl, tw_2 (List.mem_of_getElem? (i := 238) rfl) rfl, wi_31, wsl_31, wn_2⟩
theorem pk_3_72 : ix_pk 3 72 6 34 1 := ⟨by decide, rfl, okc_2, rfl, tw_3 (List.mem_of_getElem? (i := 8) rfl) rfl, wi_34, wsl_34, wn_2⟩
theorem pk_3_75 : ix_pk 3 75 6 49 3 := ⟨by decide, rfl, okc_3, rfl, tw_2 (List.mem_of_getElem? (i := 234) rfl) rfl, wi_49, wsl_49, wn_3⟩
theorem pk_3_79 : ix_pk 3 79 6 50 3 := ⟨by decide, rfl, okc_3, rfl, tw_3 (List.mem_of_getElem? (i := 12) rfl) rfl, wi_50, wsl_50, wn_3⟩
theorem pk_3_82 : ix_pk 3 82 6 51 3 := ⟨by decide, rfl, okc_3, rfl, tw_3 (List.mem_of_getElem? (i := 36) rfl) rfl, wi_51, wsl_51, wn_3⟩
theorem pk_3_85 : ix_pk 3 85 6 32 1 := ⟨by decide, rfl, okc_2, rfl, tw_2 (List.mem_of_getElem? (i := 239) rfl) rfl, wi_32, wsl_32, wn_2⟩
theorem pk_3_86 : ix_pk 3 86 6 33 1 := ⟨by decide, rfl, okc_2, rfl, tw_3 (List.mem_of_getElem? (i := 3) rfl) rfl, wi_33, wsl_33, wn_2⟩
theorem pk_3_89 : ix_pk 3 89 6 65 2 := ⟨by decide, rfl, okc_6, rfl, tw_3 (List.mem_of_getElem? (i := 7) rfl) rfl, wi_65, wsl_65, wn_6⟩
theorem pk_3_92 : ix_pk 3 92 3 2 12 := ⟨okc_2, by decide, tw_1 (List.mem_of_getElem? (i := 216) rfl) rfl⟩
theorem pk_3_96 : ix_pk 3 96 6 35 2 := ⟨by decide, rfl, okc_2, rfl, tw_3 (List.mem_of_getElem? (i := 16) rfl) rfl, wi_35, wsl_35, wn_2⟩
theorem pk_3_99 : ix_pk 3 99 6 52 2 := ⟨by decide, rfl, okc_3, rfl, tw_3 (List.mem_of_getElem? (i := 20) rfl) rfl, wi_52, wsl_52, wn_3⟩
theorem pk_3_103 : ix_pk 3 103 6 66 2 := ⟨by decide, rfl, okc_6, rfl, tw_3 (List.mem_of_getElem? (i := 24) rfl) rfl, wi_66, wsl_66, wn_6⟩
theorem pk_3_106 : ix_pk 3 106 6 68 1 := ⟨by decide, rfl, okc_6, rfl, tw_3 (List.mem_of_getElem? (i := 28) rfl) rfl, wi_68, wsl_68, wn_6⟩
theorem pk_3_109 : ix_pk 3 109 6 47 1 := ⟨by decide, rfl, okc_3, rfl, tw_3 (List.mem_of_getElem? (i := 32) rfl) rfl, wi_47, wsl_47, wn_3⟩
theorem pk_3_112 : ix_pk 3 112 6 37 1 := ⟨by decide, rfl, okc_2, rfl, tw_3 (List.mem_of_getElem? (i := 40) rfl) rfl, wi_37, wsl_37, wn_2⟩
theorem pk_3_115 : ix_pk 3 115 6 36 2 := ⟨by decide, rfl, okc_2, rfl, tw_3 (List.mem_of_getElem? (i := 44) rfl) rfl, wi_36, wsl_36, wn_2⟩
theorem pk_3_118 : ix_pk 3 118 6 53 1 := ⟨by decide, rfl, okc_3, rfl, tw_3 (List.mem_of_getElem? (i := 49) rfl) rfl, wi_53, wsl_53, wn_3⟩
theorem pk_3_121 : ix_pk 3 121 3 2 15 := ⟨okc_2, by decide, tw_1 (List.mem_of_getElem? (i := 222) rfl) rfl⟩
theorem pk_3_124 : ix_pk 3 124 6 54 1 := ⟨by decide, rfl, okc_3, rfl, tw_3 (List.mem_of_getElem? (i := 53) rfl) rfl, wi_54, wsl_54, wn_3⟩
theorem pk_3_127 : ix_pk 3 127 8 55 2 := ⟨by decide, rfl, tw_3 (List.mem_of_getElem? (i := 57) rfl) rfl, wi_55, wn_3⟩
theorem pk_3_131 : ix_pk 3 131 3 2 14 := ⟨okc_2, by decide, tw_1 (List.mem_of_getElem? (i := 220) rfl) rfl⟩
theorem pk_3_134 : ix_pk 3 134 8 56 1 := ⟨by decide, rfl, tw_3 (List.mem_of_getElem? (i := 60) rfl) rfl, wi_56, wn_3⟩
theorem pk_3_138 : ix_pk 3 138 6 72 1 := ⟨by decide, rfl, okc_6, rfl, tw_3 (List.mem_of_getElem? (i := 117) rfl) rfl, wi_72, wsl_72, wn_6⟩
theorem pk_3_141 : ix_pk 3 141 6 40 1 := ⟨by decide, rfl, okc_2, rfl, tw_3 (List.mem_of_getElem? (i := 131) rfl) rfl, wi_40, wsl_40, wn_2⟩
theorem pk_3_143 : ix_pk 3 143 6 73 1 := ⟨by decide, rfl, okc_6, rfl, tw_3 (List.mem_of_getElem? (i := 98) rfl) rfl, wi_73, wsl_73, wn_6⟩
theorem pk_3_146 : ix_pk 3 146 6 41 1 := ⟨by decide, rfl, okc_2, rfl, tw_3 (List.mem_of_getElem? (i := 103) rfl) rfl, wi_41, wsl_41, wn_2⟩
theorem pk_3_147 : ix_pk 3 147 11 0 2 := ⟨tw_3 (List.mem_of_getElem? (i := 108) rfl) rfl, wm_smin, wm_n, wm_cmin⟩
theorem pk_4_1 : ix_pk 4 1 9 0 1 := ⟨tw_1 (List.mem_of_getElem? (i := 31) rfl) rfl, wo_i, wo_c⟩
theorem pk_4_7 : ix_pk 4 7 3 4 0 := ⟨okc_4, by decide, tw_1 (List.mem_of_getElem? (i := 32) rfl) rfl⟩
theorem pk_5_3 : ix_pk 5 3 9 0 1 := ⟨tw_1 (List.mem_of_getElem? (i := 50) rfl) rfl, wo_i, wo_c⟩
theorem pk_5_11 : ix_pk 5 11 3 5 1 := ⟨okc_5, by decide, tw_1 (List.mem_of_getElem? (i := 52) rfl) rfl⟩
theorem pk_5_15 : ix_pk 5 15 3 5 0 := ⟨okc_5, by decide, tw_1 (List.mem_of_getElem? (i := 51) rfl) rfl⟩
theorem pk_5_19 : ix_pk 5 19 3 4 1 := ⟨okc_4, by decide, tw_1 (List.mem_of_getElem? (i := 36) rfl) rfl⟩
theorem pk_5_25 : ix_pk 5 25 2 4 0 := by (show Cond.constantLong "ForkedInvites$MessageLog" 25 (Int64.ofNat 4) ∈ Tw); rw [show Int64.ofNat 4 = (4 : Int64) from by decide +kernel]; exact tw_2 (List.mem_of_getElem? (i := 157) rfl) rfl
theorem pk_5_27 : ix_pk 5 27 2 8 0 := by (show Cond.constantLong "ForkedInvites$MessageLog" 27 (Int64.ofNat 8) ∈ Tw); rw [show Int64.ofNat 8 = (8 : Int64) from by decide +kernel]; exact tw_2 (List.mem_of_getElem? (i := 158) rfl) rfl
theorem pk_5_29 : ix_pk 5 29 3 5 2 := ⟨okc_5, by decide, tw_1 (List.mem_of_getElem? (i := 53) rfl) rfl⟩
theorem pk_5_32 : ix_pk 5 32 2 1024 0 := by (show Cond.constantLong "ForkedInvites$MessageLog" 32 (Int64.ofNat 1024) ∈ Tw); rw [show Int64.ofNat 1024 = (1024 : Int64) from by decide +kernel]; exact tw_2 (List.mem_of_getElem? (i := 159) rfl) rfl
theorem pk_5_34 : ix_pk 5 34 2 18446744073709551615 0 := by (show Cond.constantLong "ForkedInvites$MessageLog" 34 (Int64.ofNat 18446744073709551615) ∈ Tw); rw [show Int64.ofNat 18446744073709551615 = (-1 : Int64) from by decide +kernel]; exact tw_3 (List.mem_of_getElem? (i := 175) rfl) rfl
theorem pk_6_1 : ix_pk 6 1 9 0 1 := ⟨tw_1 (List.mem_of_getElem? (i := 141) rfl) rfl, wo_i, wo_c⟩
theorem pk_6_9 : ix_pk 6 9 3 6 7 := ⟨okc_6, by decide, tw_1 (List.mem_of_getElem? (i := 168) rfl) rfl⟩
theorem pk_6_13 : ix_pk 6 13 3 6 0 := ⟨okc_6, by decide, tw_1 (List.mem_of_getElem? (i := 161) rfl) rfl⟩
theorem pk_6_17 : ix_pk 6 17 3 6 1 := ⟨okc_6, by decide, tw_1 (List.mem_of_getElem? (i := 162) rfl) rfl⟩
theorem pk_6_21 : ix_pk 6 21 3 6 2 := ⟨okc_6, by decide, tw_1 (List.mem_of_getElem? (i := 163) rfl) rfl⟩
theorem pk_6_24 : ix_pk 6 24 4 7 0 := ⟨okc_7, tw_1 (List.mem_of_getElem? (i := 142) rfl) rfl, tw_1 (List.mem_of_getElem? (i := 143) rfl) rfl, wn_7, fun h => absurd rfl h⟩
theorem pk_6_26 : ix_pk 6 26 7 74 2 := ⟨by decide, rfl, rfl, rfl, tw_1 (List.mem_of_getElem? (i := 144) rfl) rfl, wi_74, wn_7⟩
theorem pk_6_29 : ix_pk 6 29 3 6 3 := ⟨okc_6, by decide, tw_1 (List.mem_of_getElem? (i := 164) rfl) rfl⟩
theorem pk_6_33 : ix_pk 6 33 3 6 4 := ⟨okc_6, by decide, tw_1 (List.mem_of_getElem? (i := 165) rfl) rfl⟩
theorem pk_6_36 : ix_pk 6 36 3 6 5 := ⟨okc_6, by decide, tw_1 (List.mem_of_getElem? (i := 166) rfl) rfl⟩
theorem pk_6_39 : ix_pk 6 39 3 6 6 := ⟨okc_6, by decide, tw_1 (List.mem_of_getElem? (i := 167) rfl) rfl⟩
theorem pk_6_42 : ix_pk 6 42 6 71 2 := ⟨by decide, rfl, okc_6, rfl, tw_2 (List.mem_of_getElem? (i := 182) rfl) rfl, wi_71, wsl_71, wn_6⟩
theorem pk_6_46 : ix_pk 6 46 6 65 2 := ⟨by decide, rfl, okc_6, rfl, tw_2 (List.mem_of_getElem? (i := 149) rfl) rfl, wi_65, wsl_65, wn_6⟩
theorem pk_6_49 : ix_pk 6 49 3 6 8 := ⟨okc_6, by decide, tw_1 (List.mem_of_getElem? (i := 171) rfl) rfl⟩
theorem pk_6_54 : ix_pk 6 54 6 61 4 := ⟨by decide, rfl, okc_5, rfl, tw_2 (List.mem_of_getElem? (i := 153) rfl) rfl, wi_61, wsl_61, wn_5⟩
theorem pk_6_58 : ix_pk 6 58 3 4 0 := ⟨okc_4, by decide, tw_1 (List.mem_of_getElem? (i := 35) rfl) rfl⟩
theorem pk_6_63 : ix_pk 6 63 6 75 2 := ⟨by decide, rfl, okc_7, rfl, tw_2 (List.mem_of_getElem? (i := 217) rfl) rfl, wi_75, wsl_75, wn_7⟩
theorem pk_6_66 : ix_pk 6 66 6 78 1 := ⟨by decide, rfl, okc_7, rfl, tw_2 (List.mem_of_getElem? (i := 186) rfl) rfl, wi_78, wsl_78, wn_7⟩
theorem pk_6_69 : ix_pk 6 69 6 80 1 := ⟨by decide, rfl, okc_7, rfl, tw_3 (List.mem_of_getElem? (i := 121) rfl) rfl, wi_80, wsl_80, wn_7⟩
theorem pk_6_73 : ix_pk 6 73 6 77 2 := ⟨by decide, rfl, okc_7, rfl, tw_3 (List.mem_of_getElem? (i := 125) rfl) rfl, wi_77, wsl_77, wn_7⟩
theorem pk_6_76 : ix_pk 6 76 3 7 2 := ⟨okc_7, by decide, tw_1 (List.mem_of_getElem? (i := 152) rfl) rfl⟩
theorem pk_6_79 : ix_pk 6 79 11 0 2 := ⟨tw_3 (List.mem_of_getElem? (i := 102) rfl) rfl, wm_smin, wm_n, wm_cmin⟩
theorem pk_7_1 : ix_pk 7 1 9 0 1 := ⟨tw_1 (List.mem_of_getElem? (i := 147) rfl) rfl, wo_i, wo_c⟩
theorem pk_7_9 : ix_pk 7 9 1 2147483647 0 := by (show Cond.constant "ForkedInvites$Timer" 9 (Int32.ofNat 2147483647) ∈ Tw); rw [show Int32.ofNat 2147483647 = (2147483647 : Int32) from by decide +kernel]; exact tw_1 (List.mem_of_getElem? (i := 148) rfl) rfl
theorem pk_7_10 : ix_pk 7 10 3 7 2 := ⟨okc_7, by decide, tw_1 (List.mem_of_getElem? (i := 151) rfl) rfl⟩
theorem pk_7_14 : ix_pk 7 14 3 7 0 := ⟨okc_7, by decide, tw_1 (List.mem_of_getElem? (i := 149) rfl) rfl⟩
theorem pk_7_18 : ix_pk 7 18 3 7 1 := ⟨okc_7, by decide, tw_1 (List.mem_of_getElem? (i := 150) rfl) rfl⟩
theorem pk_7_21 : ix_pk 7 21 3 4 1 := ⟨okc_4, by decide, tw_1 (List.mem_of_getElem? (i := 37) rfl) rfl⟩
theorem pk_7_26 : ix_pk 7 26 6 75 2 := ⟨by decide, rfl, okc_7, rfl, tw_3 (List.mem_of_getElem? (i := 130) rfl) rfl, wi_75, wsl_75, wn_7⟩
theorem pk_7_30 : ix_pk 7 30 11 0 2 := ⟨tw_3 (List.mem_of_getElem? (i := 129) rfl) rfl, wm_smin, wm_n, wm_cmin⟩
theorem pk_8_3 : ix_pk 8 3 9 0 1 := ⟨tw_1 (List.mem_of_getElem? (i := 69) rfl) rfl, wo_i, wo_c⟩
theorem pk_8_9 : ix_pk 8 9 4 1 105 := ⟨okc_1, tw_1 (List.mem_of_getElem? (i := 70) rfl) rfl, tw_1 (List.mem_of_getElem? (i := 72) rfl) rfl, wn_1, fun _ => ⟨by decide, by decide, rfl, by decide +kernel⟩⟩
theorem pk_8_11 : ix_pk 8 11 3 8 7 := ⟨okc_8, by decide, tw_1 (List.mem_of_getElem? (i := 105) rfl) rfl⟩
theorem pk_8_17 : ix_pk 8 17 3 8 0 := ⟨okc_8, by decide, tw_1 (List.mem_of_getElem? (i := 96) rfl) rfl⟩
theorem pk_8_21 : ix_pk 8 21 12 28 1 := ⟨by decide, rfl, rfl, rfl, ⟨_, List.mem_of_getElem? (i := 0) rfl⟩, wi_28, wn_1⟩
theorem pk_8_22 : ix_pk 8 22 3 8 3 := ⟨okc_8, by decide, tw_1 (List.mem_of_getElem? (i := 101) rfl) rfl⟩
theorem pk_8_26 : ix_pk 8 26 3 8 4 := ⟨okc_8, by decide, tw_1 (List.mem_of_getElem? (i := 102) rfl) rfl⟩
theorem pk_8_30 : ix_pk 8 30 3 4 1 := ⟨okc_4, by decide, tw_1 (List.mem_of_getElem? (i := 38) rfl) rfl⟩
theorem pk_8_35 : ix_pk 8 35 3 8 5 := ⟨okc_8, by decide, tw_1 (List.mem_of_getElem? (i := 103) rfl) rfl⟩
theorem pk_8_38 : ix_pk 8 38 3 8 6 := ⟨okc_8, by decide, tw_1 (List.mem_of_getElem? (i := 104) rfl) rfl⟩
theorem pk_8_41 : ix_pk 8 41 3 4 0 := ⟨okc_4, by decide, tw_1 (List.mem_of_getElem? (i := 34) rfl) rfl⟩
theorem pk_8_44 : ix_pk 8 44 3 8 1 := ⟨okc_8, by decide, tw_1 (List.mem_of_getElem? (i := 98) rfl) rfl⟩
theorem pk_8_47 : ix_pk 8 47 8 84 3 := ⟨by decide, rfl, tw_2 (List.mem_of_getElem? (i := 77) rfl) rfl, wi_84, wn_8⟩
theorem pk_8_51 : ix_pk 8 51 3 8 2 := ⟨okc_8, by decide, tw_1 (List.mem_of_getElem? (i := 99) rfl) rfl⟩
theorem pk_8_54 : ix_pk 8 54 1 2654435769 0 := by (show Cond.constant "ForkedInvites$User" 54 (Int32.ofNat 2654435769) ∈ Tw); rw [show Int32.ofNat 2654435769 = (-1640531527 : Int32) from by decide +kernel]; exact tw_2 (List.mem_of_getElem? (i := 80) rfl) rfl
theorem pk_8_55 : ix_pk 8 55 1 2654435 0 := by (show Cond.constant "ForkedInvites$User" 55 (Int32.ofNat 2654435) ∈ Tw); rw [show Int32.ofNat 2654435 = (2654435 : Int32) from by decide +kernel]; exact tw_2 (List.mem_of_getElem? (i := 81) rfl) rfl
theorem pk_8_56 : ix_pk 8 56 3 8 8 := ⟨okc_8, by decide, tw_1 (List.mem_of_getElem? (i := 106) rfl) rfl⟩
theorem pk_8_59 : ix_pk 8 59 3 1 2 := ⟨okc_1, by decide, tw_1 (List.mem_of_getElem? (i := 81) rfl) rfl⟩
theorem pk_8_62 : ix_pk 8 62 6 89 2 := ⟨by decide, rfl, okc_8, rfl, tw_2 (List.mem_of_getElem? (i := 93) rfl) rfl, wi_89, wsl_89, wn_8⟩
theorem pk_8_66 : ix_pk 8 66 3 1 0 := ⟨okc_1, by decide, tw_1 (List.mem_of_getElem? (i := 78) rfl) rfl⟩
theorem pk_8_69 : ix_pk 8 69 3 1 3 := ⟨okc_1, by decide, tw_1 (List.mem_of_getElem? (i := 83) rfl) rfl⟩
theorem pk_8_72 : ix_pk 8 72 3 1 4 := ⟨okc_1, by decide, tw_1 (List.mem_of_getElem? (i := 84) rfl) rfl⟩
theorem pk_8_75 : ix_pk 8 75 6 91 2 := ⟨by decide, rfl, okc_8, rfl, tw_2 (List.mem_of_getElem? (i := 113) rfl) rfl, wi_91, wsl_91, wn_8⟩
theorem pk_8_79 : ix_pk 8 79 3 1 1 := ⟨okc_1, by decide, tw_1 (List.mem_of_getElem? (i := 80) rfl) rfl⟩
theorem pk_8_82 : ix_pk 8 82 6 93 2 := ⟨by decide, rfl, okc_8, rfl, tw_2 (List.mem_of_getElem? (i := 129) rfl) rfl, wi_93, wsl_93, wn_8⟩
theorem pk_9_1 : ix_pk 9 1 9 0 1 := ⟨tw_3 (List.mem_of_getElem? (i := 184) rfl) rfl, wo_i, wo_c⟩
theorem pk_9_7 : ix_pk 9 7 3 9 3 := ⟨okc_9, by decide, tw_3 (List.mem_of_getElem? (i := 188) rfl) rfl⟩
theorem pk_9_13 : ix_pk 9 13 3 9 4 := ⟨okc_9, by decide, tw_3 (List.mem_of_getElem? (i := 189) rfl) rfl⟩
theorem pk_9_17 : ix_pk 9 17 3 9 5 := ⟨okc_9, by decide, tw_3 (List.mem_of_getElem? (i := 190) rfl) rfl⟩
theorem pk_9_20 : ix_pk 9 20 3 9 6 := ⟨okc_9, by decide, tw_3 (List.mem_of_getElem? (i := 191) rfl) rfl⟩
theorem pk_9_23 : ix_pk 9 23 3 9 7 := ⟨okc_9, by decide, tw_3 (List.mem_of_getElem? (i := 192) rfl) rfl⟩
theorem pk_9_26 : ix_pk 9 26 3 9 8 := ⟨okc_9, by decide, tw_3 (List.mem_of_getElem? (i := 193) rfl) rfl⟩
theorem pk_9_29 : ix_pk 9 29 3 9 9 := ⟨okc_9, by decide, tw_3 (List.mem_of_getElem? (i := 194) rfl) rfl⟩
theorem pk_9_32 : ix_pk 9 32 3 9 10 := ⟨okc_9, by decide, tw_3 (List.mem_of_getElem? (i := 195) rfl) rfl⟩
theorem pk_9_35 : ix_pk 9 35 3 9 11 := ⟨okc_9, by decide, tw_3 (List.mem_of_getElem? (i := 196) rfl) rfl⟩
theorem pk_9_38 : ix_pk 9 38 3 9 12 := ⟨okc_9, by decide, tw_3 (List.mem_of_getElem? (i := 197) rfl) rfl⟩
theorem pk_9_41 : ix_pk 9 41 3 9 14 := ⟨okc_9, by decide, tw_3 (List.mem_of_getElem? (i := 199) rfl) rfl⟩
theorem pk_9_44 : ix_pk 9 44 3 9 15 := ⟨okc_9, by decide, tw_3 (List.mem_of_getElem? (i := 200) rfl) rfl⟩
theorem pk_9_47 : ix_pk 9 47 3 9 16 := ⟨okc_9, by decide, tw_3 (List.mem_of_getElem? (i := 201) rfl) rfl⟩
theorem pk_9_50 : ix_pk 9 50 3 9 17 := ⟨okc_9, by decide, tw_3 (List.mem_of_getElem? (i := 202) rfl) rfl⟩
theorem pk_9_53 : ix_pk 9 53 3 9 18 := ⟨okc_9, by decide, tw_3 (List.mem_of_getElem? (i := 203) rfl) rfl⟩
theorem pk_9_56 : ix_pk 9 56 3 9 19 := ⟨okc_9, by decide, tw_3 (List.mem_of_getElem? (i := 204) rfl) rfl⟩
theorem pk_9_59 : ix_pk 9 59 3 9 20 := ⟨okc_9, by decide, tw_3 (List.mem_of_getElem? (i := 205) rfl) rfl⟩
theorem pk_9_62 : ix_pk 9 62 3 9 21 := ⟨okc_9, by decide, tw_3 (List.mem_of_getElem? (i := 206) rfl) rfl⟩
theorem pk_9_65 : ix_pk 9 65 3 9 22 := ⟨okc_9, by decide, tw_3 (List.mem_of_getElem? (i := 207) rfl) rfl⟩
theorem pk_9_68 : ix_pk 9 68 3 9 23 := ⟨okc_9, by decide, tw_3 (List.mem_of_getElem? (i := 208) rfl) rfl⟩
theorem pk_9_71 : ix_pk 9 71 3 9 24 := ⟨okc_9, by decide, tw_3 (List.mem_of_getElem? (i := 209) rfl) rfl⟩
theorem pk_9_74 : ix_pk 9 74 3 9 25 := ⟨okc_9, by decide, tw_3 (List.mem_of_getElem? (i := 210) rfl) rfl⟩
theorem pk_9_77 : ix_pk 9 77 3 9 26 := ⟨okc_9, by decide, tw_3 (List.mem_of_getElem? (i := 211) rfl) rfl⟩
theorem pk_9_80 : ix_pk 9 80 3 9 27 := ⟨okc_9, by decide, tw_3 (List.mem_of_getElem? (i := 212) rfl) rfl⟩
theorem pk_9_83 : ix_pk 9 83 3 9 29 := ⟨okc_9, by decide, tw_3 (List.mem_of_getElem? (i := 214) rfl) rfl⟩
theorem pk_9_87 : ix_pk 9 87 3 9 0 := ⟨okc_9, by decide, tw_3 (List.mem_of_getElem? (i := 185) rfl) rfl⟩
theorem pk_9_91 : ix_pk 9 91 3 9 2 := ⟨okc_9, by decide, tw_3 (List.mem_of_getElem? (i := 187) rfl) rfl⟩
theorem pk_9_94 : ix_pk 9 94 8 95 3 := ⟨by decide, rfl, tw_4 (List.mem_of_getElem? (i := 45) rfl) rfl, wi_95, wn_9⟩
theorem pk_9_98 : ix_pk 9 98 1 69069 0 := by (show Cond.constant "ForkedInvitesModel" 98 (Int32.ofNat 69069) ∈ Tw); rw [show Int32.ofNat 69069 = (69069 : Int32) from by decide +kernel]; exact tw_4 (List.mem_of_getElem? (i := 52) rfl) rfl
theorem pk_9_99 : ix_pk 9 99 3 9 1 := ⟨okc_9, by decide, tw_3 (List.mem_of_getElem? (i := 186) rfl) rfl⟩
theorem pk_9_102 : ix_pk 9 102 1 2654435769 0 := by (show Cond.constant "ForkedInvitesModel" 102 (Int32.ofNat 2654435769) ∈ Tw); rw [show Int32.ofNat 2654435769 = (-1640531527 : Int32) from by decide +kernel]; exact tw_4 (List.mem_of_getElem? (i := 60) rfl) rfl
theorem pk_9_103 : ix_pk 9 103 1 2654435 0 := by (show Cond.constant "ForkedInvitesModel" 103 (Int32.ofNat 2654435) ∈ Tw); rw [show Int32.ofNat 2654435 = (2654435 : Int32) from by decide +kernel]; exact tw_4 (List.mem_of_getElem? (i := 61) rfl) rfl
theorem pk_9_104 : ix_pk 9 104 8 98 3 := ⟨by decide, rfl, tw_4 (List.mem_of_getElem? (i := 57) rfl) rfl, wi_98, wn_9⟩
theorem pk_9_108 : ix_pk 9 108 6 100 3 := ⟨by decide, rfl, okc_9, rfl, tw_4 (List.mem_of_getElem? (i := 70) rfl) rfl, wi_100, wsl_100, wn_9⟩
theorem pk_9_112 : ix_pk 9 112 6 101 4 := ⟨by decide, rfl, okc_9, rfl, tw_4 (List.mem_of_getElem? (i := 66) rfl) rfl, wi_101, wsl_101, wn_9⟩
theorem pk_9_115 : ix_pk 9 115 6 103 2 := ⟨by decide, rfl, okc_9, rfl, tw_4 (List.mem_of_getElem? (i := 74) rfl) rfl, wi_103, wsl_103, wn_9⟩
theorem pk_9_119 : ix_pk 9 119 3 9 13 := ⟨okc_9, by decide, tw_3 (List.mem_of_getElem? (i := 198) rfl) rfl⟩
theorem pk_9_122 : ix_pk 9 122 6 104 3 := ⟨by decide, rfl, okc_9, rfl, tw_4 (List.mem_of_getElem? (i := 87) rfl) rfl, wi_104, wsl_104, wn_9⟩
theorem pk_9_126 : ix_pk 9 126 6 105 3 := ⟨by decide, rfl, okc_9, rfl, tw_4 (List.mem_of_getElem? (i := 83) rfl) rfl, wi_105, wsl_105, wn_9⟩
theorem pk_9_129 : ix_pk 9 129 2 4 0 := by (show Cond.constantLong "ForkedInvitesModel" 129 (Int64.ofNat 4) ∈ Tw); rw [show Int64.ofNat 4 = (4 : Int64) from by decide +kernel]; exact tw_4 (List.mem_of_getElem? (i := 107) rfl) rfl
theorem pk_9_131 : ix_pk 9 131 2 8 0 := by (show Cond.constantLong "ForkedInvitesModel" 131 (Int64.ofNat 8) ∈ Tw); rw [show Int64.ofNat 8 = (8 : Int64) from by decide +kernel]; exact tw_4 (List.mem_of_getElem? (i := 108) rfl) rfl
theorem pk_9_133 : ix_pk 9 133 3 9 30 := ⟨okc_9, by decide, tw_3 (List.mem_of_getElem? (i := 215) rfl) rfl⟩
theorem pk_9_136 : ix_pk 9 136 2 1024 0 := by (show Cond.constantLong "ForkedInvitesModel" 136 (Int64.ofNat 1024) ∈ Tw); rw [show Int64.ofNat 1024 = (1024 : Int64) from by decide +kernel]; exact tw_4 (List.mem_of_getElem? (i := 109) rfl) rfl
theorem pk_9_138 : ix_pk 9 138 6 107 4 := ⟨by decide, rfl, okc_9, rfl, tw_4 (List.mem_of_getElem? (i := 103) rfl) rfl, wi_107, wsl_107, wn_9⟩
theorem pk_9_142 : ix_pk 9 142 6 109 2 := ⟨by decide, rfl, okc_9, rfl, tw_4 (List.mem_of_getElem? (i := 95) rfl) rfl, wi_109, wsl_109, wn_9⟩
theorem pk_9_146 : ix_pk 9 146 6 108 3 := ⟨by decide, rfl, okc_9, rfl, tw_4 (List.mem_of_getElem? (i := 99) rfl) rfl, wi_108, wsl_108, wn_9⟩
theorem pk_9_150 : ix_pk 9 150 6 111 3 := ⟨by decide, rfl, okc_9, rfl, tw_4 (List.mem_of_getElem? (i := 118) rfl) rfl, wi_111, wsl_111, wn_9⟩
theorem pk_9_153 : ix_pk 9 153 6 115 2 := ⟨by decide, rfl, okc_9, rfl, tw_4 (List.mem_of_getElem? (i := 138) rfl) rfl, wi_115, wsl_115, wn_9⟩
theorem pk_9_156 : ix_pk 9 156 6 116 3 := ⟨by decide, rfl, okc_9, rfl, tw_4 (List.mem_of_getElem? (i := 150) rfl) rfl, wi_116, wsl_116, wn_9⟩
theorem pk_9_159 : ix_pk 9 159 3 9 28 := ⟨okc_9, by decide, tw_3 (List.mem_of_getElem? (i := 213) rfl) rfl⟩
theorem pk_9_162 : ix_pk 9 162 8 119 2 := ⟨by decide, rfl, tw_4 (List.mem_of_getElem? (i := 166) rfl) rfl, wi_119, wn_9⟩
theorem pk_9_165 : ix_pk 9 165 6 112 3 := ⟨by decide, rfl, okc_9, rfl, tw_4 (List.mem_of_getElem? (i := 114) rfl) rfl, wi_112, wsl_112, wn_9⟩
theorem pk_9_168 : ix_pk 9 168 6 114 3 := ⟨by decide, rfl, okc_9, rfl, tw_4 (List.mem_of_getElem? (i := 146) rfl) rfl, wi_114, wsl_114, wn_9⟩
theorem pk_9_171 : ix_pk 9 171 6 118 3 := ⟨by decide, rfl, okc_9, rfl, tw_4 (List.mem_of_getElem? (i := 154) rfl) rfl, wi_118, wsl_118, wn_9⟩
theorem pk_9_174 : ix_pk 9 174 6 120 2 := ⟨by decide, rfl, okc_9, rfl, tw_4 (List.mem_of_getElem? (i := 162) rfl) rfl, wi_120, wsl_120, wn_9⟩
theorem pk_9_178 : ix_pk 9 178 6 123 4 := ⟨by decide, rfl, okc_9, rfl, tw_4 (List.mem_of_getElem? (i := 142) rfl) rfl, wi_123, wsl_123, wn_9⟩
theorem pk_9_181 : ix_pk 9 181 6 117 3 := ⟨by decide, rfl, okc_9, rfl, tw_4 (List.mem_of_getElem? (i := 158) rfl) rfl, wi_117, wsl_117, wn_9⟩
theorem pk_9_184 : ix_pk 9 184 6 137 1 := ⟨by decide, rfl, okc_9, rfl, tw_4 (List.mem_of_getElem? (i := 110) rfl) rfl, wi_137, wsl_137, wn_9⟩
theorem pk_9_188 : ix_pk 9 188 6 113 4 := ⟨by decide, rfl, okc_9, rfl, tw_4 (List.mem_of_getElem? (i := 122) rfl) rfl, wi_113, wsl_113, wn_9⟩
theorem pk_9_191 : ix_pk 9 191 6 110 3 := ⟨by decide, rfl, okc_9, rfl, tw_4 (List.mem_of_getElem? (i := 130) rfl) rfl, wi_110, wsl_110, wn_9⟩
theorem pk_9_194 : ix_pk 9 194 6 122 4 := ⟨by decide, rfl, okc_9, rfl, tw_4 (List.mem_of_getElem? (i := 134) rfl) rfl, wi_122, wsl_122, wn_9⟩
theorem pk_9_197 : ix_pk 9 197 6 129 2 := ⟨by decide, rfl, okc_9, rfl, tw_4 (List.mem_of_getElem? (i := 189) rfl) rfl, wi_129, wsl_129, wn_9⟩
theorem pk_9_200 : ix_pk 9 200 6 121 3 := ⟨by decide, rfl, okc_9, rfl, tw_4 (List.mem_of_getElem? (i := 197) rfl) rfl, wi_121, wsl_121, wn_9⟩
theorem pk_9_203 : ix_pk 9 203 6 130 2 := ⟨by decide, rfl, okc_9, rfl, tw_4 (List.mem_of_getElem? (i := 185) rfl) rfl, wi_130, wsl_130, wn_9⟩
theorem pk_9_206 : ix_pk 9 206 6 131 3 := ⟨by decide, rfl, okc_9, rfl, tw_4 (List.mem_of_getElem? (i := 193) rfl) rfl, wi_131, wsl_131, wn_9⟩
theorem pk_9_209 : ix_pk 9 209 2 18446744073709551615 0 := by (show Cond.constantLong "ForkedInvitesModel" 209 (Int64.ofNat 18446744073709551615) ∈ Tw); rw [show Int64.ofNat 18446744073709551615 = (-1 : Int64) from by decide +kernel]; exact tw_4 (List.mem_of_getElem? (i := 226) rfl) rfl
theorem pk_10_7 : ix_pk 10 7 4 0 0 := ⟨okc_0, tw_1 (List.mem_of_getElem? (i := 12) rfl) rfl, tw_1 (List.mem_of_getElem? (i := 13) rfl) rfl, wn_0, fun h => absurd rfl h⟩
theorem pk_10_9 : ix_pk 10 9 8 140 2 := ⟨by decide, rfl, tw_3 (List.mem_of_getElem? (i := 176) rfl) rfl, wi_140, wn_10⟩
theorem pk_10_15 : ix_pk 10 15 7 0 3 := ⟨by decide, rfl, rfl, rfl, tw_1 (List.mem_of_getElem? (i := 14) rfl) rfl, wi_0, wn_0⟩
theorem pk_10_18 : ix_pk 10 18 4 9 0 := ⟨okc_9, tw_3 (List.mem_of_getElem? (i := 179) rfl) rfl, tw_3 (List.mem_of_getElem? (i := 180) rfl) rfl, wn_9, fun h => absurd rfl h⟩
theorem pk_10_20 : ix_pk 10 20 7 94 3 := ⟨by decide, rfl, rfl, rfl, tw_3 (List.mem_of_getElem? (i := 181) rfl) rfl, wi_94, wn_9⟩
theorem pk_10_21 : ix_pk 10 21 6 1 3 := ⟨by decide, rfl, okc_0, rfl, tw_2 (List.mem_of_getElem? (i := 52) rfl) rfl, wi_1, wsl_1, wn_0⟩
theorem pk_10_25 : ix_pk 10 25 6 96 3 := ⟨by decide, rfl, okc_9, rfl, tw_4 (List.mem_of_getElem? (i := 41) rfl) rfl, wi_96, wsl_96, wn_9⟩
theorem pk_10_26 : ix_pk 10 26 6 2 2 := ⟨by decide, rfl, okc_0, rfl, tw_2 (List.mem_of_getElem? (i := 60) rfl) rfl, wi_2, wsl_2, wn_0⟩
theorem pk_10_30 : ix_pk 10 30 6 97 2 := ⟨by decide, rfl, okc_9, rfl, tw_4 (List.mem_of_getElem? (i := 48) rfl) rfl, wi_97, wsl_97, wn_9⟩
theorem pk_10_31 : ix_pk 10 31 6 3 4 := ⟨by decide, rfl, okc_0, rfl, tw_2 (List.mem_of_getElem? (i := 69) rfl) rfl, wi_3, wsl_3, wn_0⟩
theorem pk_10_35 : ix_pk 10 35 6 99 4 := ⟨by decide, rfl, okc_9, rfl, tw_4 (List.mem_of_getElem? (i := 53) rfl) rfl, wi_99, wsl_99, wn_9⟩
theorem pk_10_36 : ix_pk 10 36 6 4 6 := ⟨by decide, rfl, okc_0, rfl, tw_2 (List.mem_of_getElem? (i := 82) rfl) rfl, wi_4, wsl_4, wn_0⟩
theorem pk_10_40 : ix_pk 10 40 6 102 6 := ⟨by decide, rfl, okc_9, rfl, tw_4 (List.mem_of_getElem? (i := 62) rfl) rfl, wi_102, wsl_102, wn_9⟩
theorem pk_10_41 : ix_pk 10 41 6 5 2 := ⟨by decide, rfl, okc_0, rfl, tw_2 (List.mem_of_getElem? (i := 117) rfl) rfl, wi_5, wsl_5, wn_0⟩
theorem pk_10_44 : ix_pk 10 44 6 103 2 := ⟨by decide, rfl, okc_9, rfl, tw_4 (List.mem_of_getElem? (i := 78) rfl) rfl, wi_103, wsl_103, wn_9⟩
theorem pk_10_45 : ix_pk 10 45 6 6 3 := ⟨by decide, rfl, okc_0, rfl, tw_2 (List.mem_of_getElem? (i := 121) rfl) rfl, wi_6, wsl_6, wn_0⟩
theorem pk_10_49 : ix_pk 10 49 6 106 3 := ⟨by decide, rfl, okc_9, rfl, tw_4 (List.mem_of_getElem? (i := 79) rfl) rfl, wi_106, wsl_106, wn_9⟩
theorem pk_10_50 : ix_pk 10 50 6 7 5 := ⟨by decide, rfl, okc_0, rfl, tw_2 (List.mem_of_getElem? (i := 133) rfl) rfl, wi_7, wsl_7, wn_0⟩
theorem pk_10_54 : ix_pk 10 54 6 124 5 := ⟨by decide, rfl, okc_9, rfl, tw_4 (List.mem_of_getElem? (i := 91) rfl) rfl, wi_124, wsl_124, wn_9⟩
theorem pk_10_55 : ix_pk 10 55 6 8 4 := ⟨by decide, rfl, okc_0, rfl, tw_2 (List.mem_of_getElem? (i := 218) rfl) rfl, wi_8, wsl_8, wn_0⟩
theorem pk_10_59 : ix_pk 10 59 6 125 4 := ⟨by decide, rfl, okc_9, rfl, tw_4 (List.mem_of_getElem? (i := 126) rfl) rfl, wi_125, wsl_125, wn_9⟩
theorem pk_10_60 : ix_pk 10 60 6 9 3 := ⟨by decide, rfl, okc_0, rfl, tw_3 (List.mem_of_getElem? (i := 63) rfl) rfl, wi_9, wsl_9, wn_0⟩
theorem pk_10_63 : ix_pk 10 63 6 126 3 := ⟨by decide, rfl, okc_9, rfl, tw_4 (List.mem_of_getElem? (i := 169) rfl) rfl, wi_126, wsl_126, wn_9⟩
theorem pk_10_64 : ix_pk 10 64 6 10 2 := ⟨by decide, rfl, okc_0, rfl, tw_3 (List.mem_of_getElem? (i := 72) rfl) rfl, wi_10, wsl_10, wn_0⟩
theorem pk_10_67 : ix_pk 10 67 6 127 2 := ⟨by decide, rfl, okc_9, rfl, tw_4 (List.mem_of_getElem? (i := 173) rfl) rfl, wi_127, wsl_127, wn_9⟩
theorem pk_10_68 : ix_pk 10 68 6 11 2 := ⟨by decide, rfl, okc_0, rfl, tw_3 (List.mem_of_getElem? (i := 77) rfl) rfl, wi_11, wsl_11, wn_0⟩
theorem pk_10_72 : ix_pk 10 72 6 128 2 := ⟨by decide, rfl, okc_9, rfl, tw_4 (List.mem_of_getElem? (i := 177) rfl) rfl, wi_128, wsl_128, wn_9⟩
theorem pk_10_73 : ix_pk 10 73 6 12 2 := ⟨by decide, rfl, okc_0, rfl, tw_3 (List.mem_of_getElem? (i := 85) rfl) rfl, wi_12, wsl_12, wn_0⟩
theorem pk_10_76 : ix_pk 10 76 6 132 2 := ⟨by decide, rfl, okc_9, rfl, tw_4 (List.mem_of_getElem? (i := 181) rfl) rfl, wi_132, wsl_132, wn_9⟩
theorem pk_10_77 : ix_pk 10 77 6 13 1 := ⟨by decide, rfl, okc_0, rfl, tw_3 (List.mem_of_getElem? (i := 146) rfl) rfl, wi_13, wsl_13, wn_0⟩
theorem pk_10_81 : ix_pk 10 81 6 133 1 := ⟨by decide, rfl, okc_9, rfl, tw_4 (List.mem_of_getElem? (i := 201) rfl) rfl, wi_133, wsl_133, wn_9⟩
theorem pk_10_82 : ix_pk 10 82 6 14 2 := ⟨by decide, rfl, okc_0, rfl, tw_3 (List.mem_of_getElem? (i := 150) rfl) rfl, wi_14, wsl_14, wn_0⟩
theorem pk_10_85 : ix_pk 10 85 6 134 2 := ⟨by decide, rfl, okc_9, rfl, tw_4 (List.mem_of_getElem? (i := 205) rfl) rfl, wi_134, wsl_134, wn_9⟩
theorem pk_10_86 : ix_pk 10 86 6 15 3 := ⟨by decide, rfl, okc_0, rfl, tw_3 (List.mem_of_getElem? (i := 154) rfl) rfl, wi_15, wsl_15, wn_0⟩
theorem pk_10_89 : ix_pk 10 89 6 135 3 := ⟨by decide, rfl, okc_9, rfl, tw_4 (List.mem_of_getElem? (i := 209) rfl) rfl, wi_135, wsl_135, wn_9⟩
theorem pk_10_90 : ix_pk 10 90 6 16 3 := ⟨by decide, rfl, okc_0, rfl, tw_3 (List.mem_of_getElem? (i := 158) rfl) rfl, wi_16, wsl_16, wn_0⟩
theorem pk_10_93 : ix_pk 10 93 6 136 3 := ⟨by decide, rfl, okc_9, rfl, tw_4 (List.mem_of_getElem? (i := 213) rfl) rfl, wi_136, wsl_136, wn_9⟩
theorem pk_10_94 : ix_pk 10 94 6 17 1 := ⟨by decide, rfl, okc_0, rfl, tw_3 (List.mem_of_getElem? (i := 162) rfl) rfl, wi_17, wsl_17, wn_0⟩
theorem pk_10_97 : ix_pk 10 97 6 137 1 := ⟨by decide, rfl, okc_9, rfl, tw_4 (List.mem_of_getElem? (i := 217) rfl) rfl, wi_137, wsl_137, wn_9⟩
theorem pk_10_98 : ix_pk 10 98 6 18 1 := ⟨by decide, rfl, okc_0, rfl, tw_3 (List.mem_of_getElem? (i := 163) rfl) rfl, wi_18, wsl_18, wn_0⟩
theorem pk_10_101 : ix_pk 10 101 6 138 1 := ⟨by decide, rfl, okc_9, rfl, tw_4 (List.mem_of_getElem? (i := 218) rfl) rfl, wi_138, wsl_138, wn_9⟩
theorem pk_10_102 : ix_pk 10 102 6 19 2 := ⟨by decide, rfl, okc_0, rfl, tw_3 (List.mem_of_getElem? (i := 167) rfl) rfl, wi_19, wsl_19, wn_0⟩
theorem pk_10_106 : ix_pk 10 106 6 139 2 := ⟨by decide, rfl, okc_9, rfl, tw_4 (List.mem_of_getElem? (i := 222) rfl) rfl, wi_139, wsl_139, wn_9⟩
def ix_cpl_0 : List (Nat × Nat × Nat × Nat × Nat) := [(0, 1, 9, 0, 1), (0, 7, 4, 4, 0), (0, 9, 11, 0, 2), (0, 15, 10, 0, 2), (0, 18, 7, 59, 2), (0, 21, 3, 0, 0), (0, 27, 4, 5, 0), (0, 29, 7, 60, 2), (0, 32, 3, 0, 1), (0, 36, 4, 8, 103), (0, 38, 3, 0, 2), (0, 42, 7, 81, 2), (0, 43, 4, 3, 104), (0, 45, 3, 0, 3), (0, 49, 7, 42, 4), (0, 52, 3, 0, 4), (0, 56, 6, 20, 2), (0, 60, 3, 8, 1), (0, 63, 1, 69069, 0), (0, 64, 6, 82, 2), (0, 67, 6, 83, 3), (0, 71, 8, 23, 3), (0, 75, 3, 8, 2), (0, 79, 6, 85, 1), (0, 82, 6, 86, 3), (0, 85, 6, 87, 1), (0, 88, 6, 88, 2), (0, 91, 6, 90, 5), (0, 95, 3, 8, 8), (0, 98, 6, 92, 2), (0, 102, 3, 1, 0), (0, 107, 3, 1, 2), (0, 110, 3, 4, 1), (0, 113, 3, 5, 2), (0, 116, 6, 43, 1), (0, 120, 3, 3, 1), (0, 124, 6, 67, 1), (0, 129, 6, 24, 4), (0, 133, 6, 25, 4), (0, 137, 6, 22, 3)]
theorem cpl_0 : ∀ e ∈ ix_cpl_0, ix_pk e.1 e.2.1 e.2.2.1 e.2.2.2.1 e.2.2.2.2 := List.forall_mem_cons.mpr ⟨pk_0_1, List.forall_mem_cons.mpr ⟨pk_0_7, List.forall_mem_cons.mpr ⟨pk_0_9, List.forall_mem_cons.mpr ⟨pk_0_15, List.forall_mem_cons.mpr ⟨pk_0_18, List.forall_mem_cons.mpr ⟨pk_0_21, List.forall_mem_cons.mpr ⟨pk_0_27, List.forall_mem_cons.mpr ⟨pk_0_29, List.forall_mem_cons.mpr ⟨pk_0_32, List.forall_mem_cons.mpr ⟨pk_0_36, List.forall_mem_cons.mpr ⟨pk_0_38, List.forall_mem_cons.mpr ⟨pk_0_42, List.forall_mem_cons.mpr ⟨pk_0_43, List.forall_mem_cons.mpr ⟨pk_0_45, List.forall_mem_cons.mpr ⟨pk_0_49, List.forall_mem_cons.mpr ⟨pk_0_52, List.forall_mem_cons.mpr ⟨pk_0_56, List.forall_mem_cons.mpr ⟨pk_0_60, List.forall_mem_cons.mpr ⟨pk_0_63, List.forall_mem_cons.mpr ⟨pk_0_64, List.forall_mem_cons.mpr ⟨pk_0_67, List.forall_mem_cons.mpr ⟨pk_0_71, List.forall_mem_cons.mpr ⟨pk_0_75, List.forall_mem_cons.mpr ⟨pk_0_79, List.forall_mem_cons.mpr ⟨pk_0_82, List.forall_mem_cons.mpr ⟨pk_0_85, List.forall_mem_cons.mpr ⟨pk_0_88, List.forall_mem_cons.mpr ⟨pk_0_91, List.forall_mem_cons.mpr ⟨pk_0_95, List.forall_mem_cons.mpr ⟨pk_0_98, List.forall_mem_cons.mpr ⟨pk_0_102, List.forall_mem_cons.mpr ⟨pk_0_107, List.forall_mem_cons.mpr ⟨pk_0_110, List.forall_mem_cons.mpr ⟨pk_0_113, List.forall_mem_cons.mpr ⟨pk_0_116, List.forall_mem_cons.mpr ⟨pk_0_120, List.forall_mem_cons.mpr ⟨pk_0_124, List.forall_mem_cons.mpr ⟨pk_0_129, List.forall_mem_cons.mpr ⟨pk_0_133, List.forall_mem_cons.mpr ⟨pk_0_137, fun _ h => absurd h List.not_mem_nil⟩⟩⟩⟩⟩⟩⟩⟩⟩⟩⟩⟩⟩⟩⟩⟩⟩⟩⟩⟩⟩⟩⟩⟩⟩⟩⟩⟩⟩⟩⟩⟩⟩⟩⟩⟩⟩⟩⟩⟩
def ix_cpl_1 : List (Nat × Nat × Nat × Nat × Nat) := [(0, 141, 6, 48, 3), (0, 145, 3, 2, 8), (0, 151, 6, 79, 1), (0, 156, 6, 78, 1), (0, 159, 6, 21, 2), (0, 163, 3, 6, 7), (0, 166, 6, 47, 1), (0, 169, 6, 70, 1), (0, 172, 6, 26, 1), (0, 176, 6, 27, 1), (0, 179, 3, 6, 8), (0, 182, 3, 2, 11), (0, 183, 3, 2, 12), (0, 186, 3, 2, 10), (0, 187, 3, 2, 14), (0, 190, 6, 44, 1), (0, 193, 6, 62, 2), (0, 197, 3, 3, 3), (0, 200, 3, 3, 2), (0, 204, 6, 17, 1), (0, 207, 3, 3, 0), (0, 210, 6, 61, 4), (0, 214, 6, 46, 2), (0, 218, 6, 45, 2), (0, 221, 1, 2147483647, 0), (0, 222, 6, 58, 1), (0, 223, 6, 57, 1), (1, 1, 9, 0, 1), (2, 3, 9, 0, 1), (2, 11, 3, 2, 11), (2, 15, 3, 2, 0), (2, 19, 3, 2, 1), (2, 23, 3, 2, 2), (2, 26, 3, 2, 3), (2, 29, 4, 7, 0), (2, 31, 7, 74, 2), (2, 34, 3, 2, 4), (2, 38, 3, 2, 5), (2, 41, 3, 2, 6), (2, 44, 3, 2, 7)]
theorem cpl_1 : ∀ e ∈ ix_cpl_1, ix_pk e.1 e.2.1 e.2.2.1 e.2.2.2.1 e.2.2.2.2 := List.forall_mem_cons.mpr ⟨pk_0_141, List.forall_mem_cons.mpr ⟨pk_0_145, List.forall_mem_cons.mpr ⟨pk_0_151, List.forall_mem_cons.mpr ⟨pk_0_156, List.forall_mem_cons.mpr ⟨pk_0_159, List.forall_mem_cons.mpr ⟨pk_0_163, List.forall_mem_cons.mpr ⟨pk_0_166, List.forall_mem_cons.mpr ⟨pk_0_169, List.forall_mem_cons.mpr ⟨pk_0_172, List.forall_mem_cons.mpr ⟨pk_0_176, List.forall_mem_cons.mpr ⟨pk_0_179, List.forall_mem_cons.mpr ⟨pk_0_182, List.forall_mem_cons.mpr ⟨pk_0_183, List.forall_mem_cons.mpr ⟨pk_0_186, List.forall_mem_cons.mpr ⟨pk_0_187, List.forall_mem_cons.mpr ⟨pk_0_190, List.forall_mem_cons.mpr ⟨pk_0_193, List.forall_mem_cons.mpr ⟨pk_0_197, List.forall_mem_cons.mpr ⟨pk_0_200, List.forall_mem_cons.mpr ⟨pk_0_204, List.forall_mem_cons.mpr ⟨pk_0_207, List.forall_mem_cons.mpr ⟨pk_0_210, List.forall_mem_cons.mpr ⟨pk_0_214, List.forall_mem_cons.mpr ⟨pk_0_218, List.forall_mem_cons.mpr ⟨pk_0_221, List.forall_mem_cons.mpr ⟨pk_0_222, List.forall_mem_cons.mpr ⟨pk_0_223, List.forall_mem_cons.mpr ⟨pk_1_1, List.forall_mem_cons.mpr ⟨pk_2_3, List.forall_mem_cons.mpr ⟨pk_2_11, List.forall_mem_cons.mpr ⟨pk_2_15, List.forall_mem_cons.mpr ⟨pk_2_19, List.forall_mem_cons.mpr ⟨pk_2_23, List.forall_mem_cons.mpr ⟨pk_2_26, List.forall_mem_cons.mpr ⟨pk_2_29, List.forall_mem_cons.mpr ⟨pk_2_31, List.forall_mem_cons.mpr ⟨pk_2_34, List.forall_mem_cons.mpr ⟨pk_2_38, List.forall_mem_cons.mpr ⟨pk_2_41, List.forall_mem_cons.mpr ⟨pk_2_44, fun _ h => absurd h List.not_mem_nil⟩⟩⟩⟩⟩⟩⟩⟩⟩⟩⟩⟩⟩⟩⟩⟩⟩⟩⟩⟩⟩⟩⟩⟩⟩⟩⟩⟩⟩⟩⟩⟩⟩⟩⟩⟩⟩⟩⟩⟩
def ix_cpl_2 : List (Nat × Nat × Nat × Nat × Nat) := [(2, 47, 3, 2, 8), (2, 50, 3, 2, 9), (2, 53, 3, 2, 10), (2, 56, 3, 2, 12), (2, 60, 3, 2, 13), (2, 63, 3, 2, 14), (2, 66, 6, 39, 2), (2, 70, 6, 61, 4), (2, 76, 3, 4, 0), (2, 81, 6, 75, 2), (2, 84, 6, 78, 1), (2, 87, 6, 37, 1), (2, 90, 6, 31, 1), (2, 94, 6, 80, 1), (2, 97, 6, 76, 1), (2, 100, 6, 38, 1), (2, 103, 6, 34, 1), (2, 106, 6, 77, 2), (2, 109, 3, 7, 2), (2, 112, 11, 0, 2), (3, 3, 9, 0, 1), (3, 9, 4, 2, 106), (3, 11, 3, 3, 2), (3, 17, 3, 3, 0), (3, 21, 4, 6, 0), (3, 23, 7, 63, 4), (3, 26, 3, 3, 1), (3, 30, 7, 29, 5), (3, 33, 6, 44, 1), (3, 37, 3, 6, 7), (3, 40, 3, 3, 3), (3, 43, 3, 2, 11), (3, 44, 6, 69, 2), (3, 48, 3, 3, 4), (3, 51, 6, 64, 1), (3, 54, 6, 92, 2), (3, 60, 3, 1, 0), (3, 65, 6, 30, 2), (3, 68, 6, 31, 1), (3, 72, 6, 34, 1)]
theorem cpl_2 : ∀ e ∈ ix_cpl_2, ix_pk e.1 e.2.1 e.2.2.1 e.2.2.2.1 e.2.2.2.2 := List.forall_mem_cons.mpr ⟨pk_2_47, List.forall_mem_cons.mpr ⟨pk_2_50, List.forall_mem_cons.mpr ⟨pk_2_53, List.forall_mem_cons.mpr ⟨pk_2_56, List.forall_mem_cons.mpr ⟨pk_2_60, List.forall_mem_cons.mpr ⟨pk_2_63, List.forall_mem_cons.mpr ⟨pk_2_66, List.forall_mem_cons.mpr ⟨pk_2_70, List.forall_mem_cons.mpr ⟨pk_2_76, List.forall_mem_cons.mpr ⟨pk_2_81, List.forall_mem_cons.mpr ⟨pk_2_84, List.forall_mem_cons.mpr ⟨pk_2_87, List.forall_mem_cons.mpr ⟨pk_2_90, List.forall_mem_cons.mpr ⟨pk_2_94, List.forall_mem_cons.mpr ⟨pk_2_97, List.forall_mem_cons.mpr ⟨pk_2_100, List.forall_mem_cons.mpr ⟨pk_2_103, List.forall_mem_cons.mpr ⟨pk_2_106, List.forall_mem_cons.mpr ⟨pk_2_109, List.forall_mem_cons.mpr ⟨pk_2_112, List.forall_mem_cons.mpr ⟨pk_3_3, List.forall_mem_cons.mpr ⟨pk_3_9, List.forall_mem_cons.mpr ⟨pk_3_11, List.forall_mem_cons.mpr ⟨pk_3_17, List.forall_mem_cons.mpr ⟨pk_3_21, List.forall_mem_cons.mpr ⟨pk_3_23, List.forall_mem_cons.mpr ⟨pk_3_26, List.forall_mem_cons.mpr ⟨pk_3_30, List.forall_mem_cons.mpr ⟨pk_3_33, List.forall_mem_cons.mpr ⟨pk_3_37, List.forall_mem_cons.mpr ⟨pk_3_40, List.forall_mem_cons.mpr ⟨pk_3_43, List.forall_mem_cons.mpr ⟨pk_3_44, List.forall_mem_cons.mpr ⟨pk_3_48, List.forall_mem_cons.mpr ⟨pk_3_51, List.forall_mem_cons.mpr ⟨pk_3_54, List.forall_mem_cons.mpr ⟨pk_3_60, List.forall_mem_cons.mpr ⟨pk_3_65, List.forall_mem_cons.mpr ⟨pk_3_68, List.forall_mem_cons.mpr ⟨pk_3_72, fun _ h => absurd h List.not_mem_nil⟩⟩⟩⟩⟩⟩⟩⟩⟩⟩⟩⟩⟩⟩⟩⟩⟩⟩⟩⟩⟩⟩⟩⟩⟩⟩⟩⟩⟩⟩⟩⟩⟩⟩⟩⟩⟩⟩⟩⟩
def ix_cpl_3 : List (Nat × Nat × Nat × Nat × Nat) := [(3, 75, 6, 49, 3), (3, 79, 6, 50, 3), (3, 82, 6, 51, 3), (3, 85, 6, 32, 1), (3, 86, 6, 33, 1), (3, 89, 6, 65, 2), (3, 92, 3, 2, 12), (3, 96, 6, 35, 2), (3, 99, 6, 52, 2), (3, 103, 6, 66, 2), (3, 106, 6, 68, 1), (3, 109, 6, 47, 1), (3, 112, 6, 37, 1), (3, 115, 6, 36, 2), (3, 118, 6, 53, 1), (3, 121, 3, 2, 15), (3, 124, 6, 54, 1), (3, 127, 8, 55, 2), (3, 131, 3, 2, 14), (3, 134, 8, 56, 1), (3, 138, 6, 72, 1), (3, 141, 6, 40, 1), (3, 143, 6, 73, 1), (3, 146, 6, 41, 1), (3, 147, 11, 0, 2), (4, 1, 9, 0, 1), (4, 7, 3, 4, 0), (5, 3, 9, 0, 1), (5, 11, 3, 5, 1), (5, 15, 3, 5, 0), (5, 19, 3, 4, 1), (5, 25, 2, 4, 0), (5, 27, 2, 8, 0), (5, 29, 3, 5, 2), (5, 32, 2, 1024, 0), (5, 34, 2, 18446744073709551615, 0), (6, 1, 9, 0, 1), (6, 9, 3, 6, 7), (6, 13, 3, 6, 0), (6, 17, 3, 6, 1)]
theorem cpl_3 : ∀ e ∈ ix_cpl_3, ix_pk e.1 e.2.1 e.2.2.1 e.2.2.2.1 e.2.2.2.2 := List.forall_mem_cons.mpr ⟨pk_3_75, List.forall_mem_cons.mpr ⟨pk_3_79, List.forall_mem_cons.mpr ⟨pk_3_82, List.forall_mem_cons.mpr ⟨pk_3_85, List.forall_mem_cons.mpr ⟨pk_3_86, List.forall_mem_cons.mpr ⟨pk_3_89, List.forall_mem_cons.mpr ⟨pk_3_92, List.forall_mem_cons.mpr ⟨pk_3_96, List.forall_mem_cons.mpr ⟨pk_3_99, List.forall_mem_cons.mpr ⟨pk_3_103, List.forall_mem_cons.mpr ⟨pk_3_106, List.forall_mem_cons.mpr ⟨pk_3_109, List.forall_mem_cons.mpr ⟨pk_3_112, List.forall_mem_cons.mpr ⟨pk_3_115, List.forall_mem_cons.mpr ⟨pk_3_118, List.forall_mem_cons.mpr ⟨pk_3_121, List.forall_mem_cons.mpr ⟨pk_3_124, List.forall_mem_cons.mpr ⟨pk_3_127, List.forall_mem_cons.mpr ⟨pk_3_131, List.forall_mem_cons.mpr ⟨pk_3_134, List.forall_mem_cons.mpr ⟨pk_3_138, List.forall_mem_cons.mpr ⟨pk_3_141, List.forall_mem_cons.mpr ⟨pk_3_143, List.forall_mem_cons.mpr ⟨pk_3_146, List.forall_mem_cons.mpr ⟨pk_3_147, List.forall_mem_cons.mpr ⟨pk_4_1, List.forall_mem_cons.mpr ⟨pk_4_7, List.forall_mem_cons.mpr ⟨pk_5_3, List.forall_mem_cons.mpr ⟨pk_5_11, List.forall_mem_cons.mpr ⟨pk_5_15, List.forall_mem_cons.mpr ⟨pk_5_19, List.forall_mem_cons.mpr ⟨pk_5_25, List.forall_mem_cons.mpr ⟨pk_5_27, List.forall_mem_cons.mpr ⟨pk_5_29, List.forall_mem_cons.mpr ⟨pk_5_32, List.forall_mem_cons.mpr ⟨pk_5_34, List.forall_mem_cons.mpr ⟨pk_6_1, List.forall_mem_cons.mpr ⟨pk_6_9, List.forall_mem_cons.mpr ⟨pk_6_13, List.forall_mem_cons.mpr ⟨pk_6_17, fun _ h => absurd h List.not_mem_nil⟩⟩⟩⟩⟩⟩⟩⟩⟩⟩⟩⟩⟩⟩⟩⟩⟩⟩⟩⟩⟩⟩⟩⟩⟩⟩⟩⟩⟩⟩⟩⟩⟩⟩⟩⟩⟩⟩⟩⟩
def ix_cpl_4 : List (Nat × Nat × Nat × Nat × Nat) := [(6, 21, 3, 6, 2), (6, 24, 4, 7, 0), (6, 26, 7, 74, 2), (6, 29, 3, 6, 3), (6, 33, 3, 6, 4), (6, 36, 3, 6, 5), (6, 39, 3, 6, 6), (6, 42, 6, 71, 2), (6, 46, 6, 65, 2), (6, 49, 3, 6, 8), (6, 54, 6, 61, 4), (6, 58, 3, 4, 0), (6, 63, 6, 75, 2), (6, 66, 6, 78, 1), (6, 69, 6, 80, 1), (6, 73, 6, 77, 2), (6, 76, 3, 7, 2), (6, 79, 11, 0, 2), (7, 1, 9, 0, 1), (7, 9, 1, 2147483647, 0), (7, 10, 3, 7, 2), (7, 14, 3, 7, 0), (7, 18, 3, 7, 1), (7, 21, 3, 4, 1), (7, 26, 6, 75, 2), (7, 30, 11, 0, 2), (8, 3, 9, 0, 1), (8, 9, 4, 1, 105), (8, 11, 3, 8, 7), (8, 17, 3, 8, 0), (8, 21, 12, 28, 1), (8, 22, 3, 8, 3), (8, 26, 3, 8, 4), (8, 30, 3, 4, 1), (8, 35, 3, 8, 5), (8, 38, 3, 8, 6), (8, 41, 3, 4, 0), (8, 44, 3, 8, 1), (8, 47, 8, 84, 3), (8, 51, 3, 8, 2)]
theorem cpl_4 : ∀ e ∈ ix_cpl_4, ix_pk e.1 e.2.1 e.2.2.1 e.2.2.2.1 e.2.2.2.2 := List.forall_mem_cons.mpr ⟨pk_6_21, List.forall_mem_cons.mpr ⟨pk_6_24, List.forall_mem_cons.mpr ⟨pk_6_26, List.forall_mem_cons.mpr ⟨pk_6_29, List.forall_mem_cons.mpr ⟨pk_6_33, List.forall_mem_cons.mpr ⟨pk_6_36, List.forall_mem_cons.mpr ⟨pk_6_39, List.forall_mem_cons.mpr ⟨pk_6_42, List.forall_mem_cons.mpr ⟨pk_6_46, List.forall_mem_cons.mpr ⟨pk_6_49, List.forall_mem_cons.mpr ⟨pk_6_54, List.forall_mem_cons.mpr ⟨pk_6_58, List.forall_mem_cons.mpr ⟨pk_6_63, List.forall_mem_cons.mpr ⟨pk_6_66, List.forall_mem_cons.mpr ⟨pk_6_69, List.forall_mem_cons.mpr ⟨pk_6_73, List.forall_mem_cons.mpr ⟨pk_6_76, List.forall_mem_cons.mpr ⟨pk_6_79, List.forall_mem_cons.mpr ⟨pk_7_1, List.forall_mem_cons.mpr ⟨pk_7_9, List.forall_mem_cons.mpr ⟨pk_7_10, List.forall_mem_cons.mpr ⟨pk_7_14, List.forall_mem_cons.mpr ⟨pk_7_18, List.forall_mem_cons.mpr ⟨pk_7_21, List.forall_mem_cons.mpr ⟨pk_7_26, List.forall_mem_cons.mpr ⟨pk_7_30, List.forall_mem_cons.mpr ⟨pk_8_3, List.forall_mem_cons.mpr ⟨pk_8_9, List.forall_mem_cons.mpr ⟨pk_8_11, List.forall_mem_cons.mpr ⟨pk_8_17, List.forall_mem_cons.mpr ⟨pk_8_21, List.forall_mem_cons.mpr ⟨pk_8_22, List.forall_mem_cons.mpr ⟨pk_8_26, List.forall_mem_cons.mpr ⟨pk_8_30, List.forall_mem_cons.mpr ⟨pk_8_35, List.forall_mem_cons.mpr ⟨pk_8_38, List.forall_mem_cons.mpr ⟨pk_8_41, List.forall_mem_cons.mpr ⟨pk_8_44, List.forall_mem_cons.mpr ⟨pk_8_47, List.forall_mem_cons.mpr ⟨pk_8_51, fun _ h => absurd h List.not_mem_nil⟩⟩⟩⟩⟩⟩⟩⟩⟩⟩⟩⟩⟩⟩⟩⟩⟩⟩⟩⟩⟩⟩⟩⟩⟩⟩⟩⟩⟩⟩⟩⟩⟩⟩⟩⟩⟩⟩⟩⟩
def ix_cpl_5 : List (Nat × Nat × Nat × Nat × Nat) := [(8, 54, 1, 2654435769, 0), (8, 55, 1, 2654435, 0), (8, 56, 3, 8, 8), (8, 59, 3, 1, 2), (8, 62, 6, 89, 2), (8, 66, 3, 1, 0), (8, 69, 3, 1, 3), (8, 72, 3, 1, 4), (8, 75, 6, 91, 2), (8, 79, 3, 1, 1), (8, 82, 6, 93, 2), (9, 1, 9, 0, 1), (9, 7, 3, 9, 3), (9, 13, 3, 9, 4), (9, 17, 3, 9, 5), (9, 20, 3, 9, 6), (9, 23, 3, 9, 7), (9, 26, 3, 9, 8), (9, 29, 3, 9, 9), (9, 32, 3, 9, 10), (9, 35, 3, 9, 11), (9, 38, 3, 9, 12), (9, 41, 3, 9, 14), (9, 44, 3, 9, 15), (9, 47, 3, 9, 16), (9, 50, 3, 9, 17), (9, 53, 3, 9, 18), (9, 56, 3, 9, 19), (9, 59, 3, 9, 20), (9, 62, 3, 9, 21), (9, 65, 3, 9, 22), (9, 68, 3, 9, 23), (9, 71, 3, 9, 24), (9, 74, 3, 9, 25), (9, 77, 3, 9, 26), (9, 80, 3, 9, 27), (9, 83, 3, 9, 29), (9, 87, 3, 9, 0), (9, 91, 3, 9, 2), (9, 94, 8, 95, 3)]
theorem cpl_5 : ∀ e ∈ ix_cpl_5, ix_pk e.1 e.2.1 e.2.2.1 e.2.2.2.1 e.2.2.2.2 := List.forall_mem_cons.mpr ⟨pk_8_54, List.forall_mem_cons.mpr ⟨pk_8_55, List.forall_mem_cons.mpr ⟨pk_8_56, List.forall_mem_cons.mpr ⟨pk_8_59, List.forall_mem_cons.mpr ⟨pk_8_62, List.forall_mem_cons.mpr ⟨pk_8_66, List.forall_mem_cons.mpr ⟨pk_8_69, List.forall_mem_cons.mpr ⟨pk_8_72, List.forall_mem_cons.mpr ⟨pk_8_75, List.forall_mem_cons.mpr ⟨pk_8_79, List.forall_mem_cons.mpr ⟨pk_8_82, List.forall_mem_cons.mpr ⟨pk_9_1, List.forall_mem_cons.mpr ⟨pk_9_7, List.forall_mem_cons.mpr ⟨pk_9_13, List.forall_mem_cons.mpr ⟨pk_9_17, List.forall_mem_cons.mpr ⟨pk_9_20, List.forall_mem_cons.mpr ⟨pk_9_23, List.forall_mem_cons.mpr ⟨pk_9_26, List.forall_mem_cons.mpr ⟨pk_9_29, List.forall_mem_cons.mpr ⟨pk_9_32, List.forall_mem_cons.mpr ⟨pk_9_35, List.forall_mem_cons.mpr ⟨pk_9_38, List.forall_mem_cons.mpr ⟨pk_9_41, List.forall_mem_cons.mpr ⟨pk_9_44, List.forall_mem_cons.mpr ⟨pk_9_47, List.forall_mem_cons.mpr ⟨pk_9_50, List.forall_mem_cons.mpr ⟨pk_9_53, List.forall_mem_cons.mpr ⟨pk_9_56, List.forall_mem_cons.mpr ⟨pk_9_59, List.forall_mem_cons.mpr ⟨pk_9_62, List.forall_mem_cons.mpr ⟨pk_9_65, List.forall_mem_cons.mpr ⟨pk_9_68, List.forall_mem_cons.mpr ⟨pk_9_71, List.forall_mem_cons.mpr ⟨pk_9_74, List.forall_mem_cons.mpr ⟨pk_9_77, List.forall_mem_cons.mpr ⟨pk_9_80, List.forall_mem_cons.mpr ⟨pk_9_83, List.forall_mem_cons.mpr ⟨pk_9_87, List.forall_mem_cons.mpr ⟨pk_9_91, List.forall_mem_cons.mpr ⟨pk_9_94, fun _ h => absurd h List.not_mem_nil⟩⟩⟩⟩⟩⟩⟩⟩⟩⟩⟩⟩⟩⟩⟩⟩⟩⟩⟩⟩⟩⟩⟩⟩⟩⟩⟩⟩⟩⟩⟩⟩⟩⟩⟩⟩⟩⟩⟩⟩
def ix_cpl_6 : List (Nat × Nat × Nat × Nat × Nat) := [(9, 98, 1, 69069, 0), (9, 99, 3, 9, 1), (9, 102, 1, 2654435769, 0), (9, 103, 1, 2654435, 0), (9, 104, 8, 98, 3), (9, 108, 6, 100, 3), (9, 112, 6, 101, 4), (9, 115, 6, 103, 2), (9, 119, 3, 9, 13), (9, 122, 6, 104, 3), (9, 126, 6, 105, 3), (9, 129, 2, 4, 0), (9, 131, 2, 8, 0), (9, 133, 3, 9, 30), (9, 136, 2, 1024, 0), (9, 138, 6, 107, 4), (9, 142, 6, 109, 2), (9, 146, 6, 108, 3), (9, 150, 6, 111, 3), (9, 153, 6, 115, 2), (9, 156, 6, 116, 3), (9, 159, 3, 9, 28), (9, 162, 8, 119, 2), (9, 165, 6, 112, 3), (9, 168, 6, 114, 3), (9, 171, 6, 118, 3), (9, 174, 6, 120, 2), (9, 178, 6, 123, 4), (9, 181, 6, 117, 3), (9, 184, 6, 137, 1), (9, 188, 6, 113, 4), (9, 191, 6, 110, 3), (9, 194, 6, 122, 4), (9, 197, 6, 129, 2), (9, 200, 6, 121, 3), (9, 203, 6, 130, 2), (9, 206, 6, 131, 3), (9, 209, 2, 18446744073709551615, 0), (10, 7, 4, 0, 0), (10, 9, 8, 140, 2)]
theorem cpl_6 : ∀ e ∈ ix_cpl_6, ix_pk e.1 e.2.1 e.2.2.1 e.2.2.2.1 e.2.2.2.2 := List.forall_mem_cons.mpr ⟨pk_9_98, List.forall_mem_cons.mpr ⟨pk_9_99, List.forall_mem_cons.mpr ⟨pk_9_102, List.forall_mem_cons.mpr ⟨pk_9_103, List.forall_mem_cons.mpr ⟨pk_9_104, List.forall_mem_cons.mpr ⟨pk_9_108, List.forall_mem_cons.mpr ⟨pk_9_112, List.forall_mem_cons.mpr ⟨pk_9_115, List.forall_mem_cons.mpr ⟨pk_9_119, List.forall_mem_cons.mpr ⟨pk_9_122, List.forall_mem_cons.mpr ⟨pk_9_126, List.forall_mem_cons.mpr ⟨pk_9_129, List.forall_mem_cons.mpr ⟨pk_9_131, List.forall_mem_cons.mpr ⟨pk_9_133, List.forall_mem_cons.mpr ⟨pk_9_136, List.forall_mem_cons.mpr ⟨pk_9_138, List.forall_mem_cons.mpr ⟨pk_9_142, List.forall_mem_cons.mpr ⟨pk_9_146, List.forall_mem_cons.mpr ⟨pk_9_150, List.forall_mem_cons.mpr ⟨pk_9_153, List.forall_mem_cons.mpr ⟨pk_9_156, List.forall_mem_cons.mpr ⟨pk_9_159, List.forall_mem_cons.mpr ⟨pk_9_162, List.forall_mem_cons.mpr ⟨pk_9_165, List.forall_mem_cons.mpr ⟨pk_9_168, List.forall_mem_cons.mpr ⟨pk_9_171, List.forall_mem_cons.mpr ⟨pk_9_174, List.forall_mem_cons.mpr ⟨pk_9_178, List.forall_mem_cons.mpr ⟨pk_9_181, List.forall_mem_cons.mpr ⟨pk_9_184, List.forall_mem_cons.mpr ⟨pk_9_188, List.forall_mem_cons.mpr ⟨pk_9_191, List.forall_mem_cons.mpr ⟨pk_9_194, List.forall_mem_cons.mpr ⟨pk_9_197, List.forall_mem_cons.mpr ⟨pk_9_200, List.forall_mem_cons.mpr ⟨pk_9_203, List.forall_mem_cons.mpr ⟨pk_9_206, List.forall_mem_cons.mpr ⟨pk_9_209, List.forall_mem_cons.mpr ⟨pk_10_7, List.forall_mem_cons.mpr ⟨pk_10_9, fun _ h => absurd h List.not_mem_nil⟩⟩⟩⟩⟩⟩⟩⟩⟩⟩⟩⟩⟩⟩⟩⟩⟩⟩⟩⟩⟩⟩⟩⟩⟩⟩⟩⟩⟩⟩⟩⟩⟩⟩⟩⟩⟩⟩⟩⟩
def ix_cpl_7 : List (Nat × Nat × Nat × Nat × Nat) := [(10, 15, 7, 0, 3), (10, 18, 4, 9, 0), (10, 20, 7, 94, 3), (10, 21, 6, 1, 3), (10, 25, 6, 96, 3), (10, 26, 6, 2, 2), (10, 30, 6, 97, 2), (10, 31, 6, 3, 4), (10, 35, 6, 99, 4), (10, 36, 6, 4, 6), (10, 40, 6, 102, 6), (10, 41, 6, 5, 2), (10, 44, 6, 103, 2), (10, 45, 6, 6, 3), (10, 49, 6, 106, 3), (10, 50, 6, 7, 5), (10, 54, 6, 124, 5), (10, 55, 6, 8, 4), (10, 59, 6, 125, 4), (10, 60, 6, 9, 3), (10, 63, 6, 126, 3), (10, 64, 6, 10, 2), (10, 67, 6, 127, 2), (10, 68, 6, 11, 2), (10, 72, 6, 128, 2), (10, 73, 6, 12, 2), (10, 76, 6, 132, 2), (10, 77, 6, 13, 1), (10, 81, 6, 133, 1), (10, 82, 6, 14, 2), (10, 85, 6, 134, 2), (10, 86, 6, 15, 3), (10, 89, 6, 135, 3), (10, 90, 6, 16, 3), (10, 93, 6, 136, 3), (10, 94, 6, 17, 1), (10, 97, 6, 137, 1), (10, 98, 6, 18, 1), (10, 101, 6, 138, 1), (10, 102, 6, 19, 2)]
theorem cpl_7 : ∀ e ∈ ix_cpl_7, ix_pk e.1 e.2.1 e.2.2.1 e.2.2.2.1 e.2.2.2.2 := List.forall_mem_cons.mpr ⟨pk_10_15, List.forall_mem_cons.mpr ⟨pk_10_18, List.forall_mem_cons.mpr ⟨pk_10_20, List.forall_mem_cons.mpr ⟨pk_10_21, List.forall_mem_cons.mpr ⟨pk_10_25, List.forall_mem_cons.mpr ⟨pk_10_26, List.forall_mem_cons.mpr ⟨pk_10_30, List.forall_mem_cons.mpr ⟨pk_10_31, List.forall_mem_cons.mpr ⟨pk_10_35, List.forall_mem_cons.mpr ⟨pk_10_36, List.forall_mem_cons.mpr ⟨pk_10_40, List.forall_mem_cons.mpr ⟨pk_10_41, List.forall_mem_cons.mpr ⟨pk_10_44, List.forall_mem_cons.mpr ⟨pk_10_45, List.forall_mem_cons.mpr ⟨pk_10_49, List.forall_mem_cons.mpr ⟨pk_10_50, List.forall_mem_cons.mpr ⟨pk_10_54, List.forall_mem_cons.mpr ⟨pk_10_55, List.forall_mem_cons.mpr ⟨pk_10_59, List.forall_mem_cons.mpr ⟨pk_10_60, List.forall_mem_cons.mpr ⟨pk_10_63, List.forall_mem_cons.mpr ⟨pk_10_64, List.forall_mem_cons.mpr ⟨pk_10_67, List.forall_mem_cons.mpr ⟨pk_10_68, List.forall_mem_cons.mpr ⟨pk_10_72, List.forall_mem_cons.mpr ⟨pk_10_73, List.forall_mem_cons.mpr ⟨pk_10_76, List.forall_mem_cons.mpr ⟨pk_10_77, List.forall_mem_cons.mpr ⟨pk_10_81, List.forall_mem_cons.mpr ⟨pk_10_82, List.forall_mem_cons.mpr ⟨pk_10_85, List.forall_mem_cons.mpr ⟨pk_10_86, List.forall_mem_cons.mpr ⟨pk_10_89, List.forall_mem_cons.mpr ⟨pk_10_90, List.forall_mem_cons.mpr ⟨pk_10_93, List.forall_mem_cons.mpr ⟨pk_10_94, List.forall_mem_cons.mpr ⟨pk_10_97, List.forall_mem_cons.mpr ⟨pk_10_98, List.forall_mem_cons.mpr ⟨pk_10_101, List.forall_mem_cons.mpr ⟨pk_10_102, fun _ h => absurd h List.not_mem_nil⟩⟩⟩⟩⟩⟩⟩⟩⟩⟩⟩⟩⟩⟩⟩⟩⟩⟩⟩⟩⟩⟩⟩⟩⟩⟩⟩⟩⟩⟩⟩⟩⟩⟩⟩⟩⟩⟩⟩⟩
def ix_cpl_8 : List (Nat × Nat × Nat × Nat × Nat) := [(10, 106, 6, 139, 2)]
theorem cpl_8 : ∀ e ∈ ix_cpl_8, ix_pk e.1 e.2.1 e.2.2.1 e.2.2.2.1 e.2.2.2.2 := List.forall_mem_cons.mpr ⟨pk_10_106, fun _ h => absurd h List.not_mem_nil⟩
def ix_cpl : List (Nat × Nat × Nat × Nat × Nat) := ix_cpl_0 ++ (ix_cpl_1 ++ (ix_cpl_2 ++ (ix_cpl_3 ++ (ix_cpl_4 ++ (ix_cpl_5 ++ (ix_cpl_6 ++ (ix_cpl_7 ++ (ix_cpl_8))))))))
theorem cpl_ok : ∀ e ∈ ix_cpl, ix_pk e.1 e.2.1 e.2.2.1 e.2.2.2.1 e.2.2.2.2 := List.forall_mem_append.mpr ⟨cpl_0, List.forall_mem_append.mpr ⟨cpl_1, List.forall_mem_append.mpr ⟨cpl_2, List.forall_mem_append.mpr ⟨cpl_3, List.forall_mem_append.mpr ⟨cpl_4, List.forall_mem_append.mpr ⟨cpl_5, List.forall_mem_append.mpr ⟨cpl_6, List.forall_mem_append.mpr ⟨cpl_7, cpl_8⟩⟩⟩⟩⟩⟩⟩⟩
def ix_cpo (o x : Nat) : Nat × Nat × Nat := match ix_cpl.find? (fun e => Nat.beq e.1 o && Nat.beq e.2.1 x) with
  | some e => e.2.2
  | none => (0, 0, 0)
def ix_cp (k x : Nat) : Nat × Nat × Nat := ix_cpo (ix_on k) x
theorem cp_of {k o x : Nat} {q : Nat × Nat × Nat} (h : ix_on k = o) (hq : ix_cpo o x = q) : ix_cp k x = q := by
  unfold ix_cp
  rw [h]
  exact hq
theorem cp_pk {k x : Nat} (h : ¬ (ix_cp k x).1 = 0) : ix_pk (ix_on k) x (ix_cp k x).1 (ix_cp k x).2.1 (ix_cp k x).2.2 := by
  unfold ix_cp ix_cpo at h ⊢
  cases hf : ix_cpl.find? (fun e => Nat.beq e.1 (ix_on k) && Nat.beq e.2.1 x) with
  | none => rw [hf] at h; exact absurd rfl h
  | some e =>
    have h1 := cpl_ok e (List.mem_of_find?_eq_some hf)
    have h2 := List.find?_some hf
    simp only [Bool.and_eq_true] at h2
    rw [Nat.eq_of_beq_eq_true h2.1, Nat.eq_of_beq_eq_true h2.2] at h1
    exact h1
theorem cp_z {k x z : Nat} (h : (ix_cp k x).1 = z) (hz : ¬ z = 0) : ix_pk (ix_on k) x z (ix_cp k x).2.1 (ix_cp k x).2.2 := by
  have := cp_pk (k := k) (x := x) (by rw [h]; exact hz)
  rw [h] at this
  exact this
def ix_at (a : Jvm.ClassFile.ArrayType) : Nat := match a with | .int => 100 | .boolean => 101 | .long => 102 | _ => 0
theorem aw_in {a : Jvm.ClassFile.ArrayType} (h : ¬ ix_at a = 0) : Cond.arrayClass (newarray.typeOf a) ∈ Tw := by
  cases a with
  | int => exact tw_4 (List.mem_of_getElem? (i := 39) rfl) rfl
  | boolean => exact tw_4 (List.mem_of_getElem? (i := 40) rfl) rfl
  | long => exact tw_1 (List.mem_of_getElem? (i := 62) rfl) rfl
  | _ => exact absurd rfl h
theorem tz_ge : 103 ≤ ix_tz := by decide
theorem tz_le : ix_tz ≤ 9999 := by decide
theorem aty_len : ix_aty.length = ix_tz - 100 := rfl
theorem aty_0 : ix_aty[100 - 100]? = some .int := rfl
theorem aty_1 : ix_aty[101 - 100]? = some .boolean := rfl
theorem aty_2 : ix_aty[102 - 100]? = some .long := rfl
theorem ar_ref {t : Nat} (h1 : 103 ≤ t) (h2 : t < ix_tz) : ix_okc (ix_co t) ∧ ix_aty[t - 100]? = some (.object (ix_cl (ix_co t)).1) := by
  have h3 : t < 107 := h2
  rcases (show t = 103 ∨ t = 104 ∨ t = 105 ∨ t = 106 by omega) with rfl | rfl | rfl | rfl
  · exact ⟨okc_8, rfl⟩
  · exact ⟨okc_3, rfl⟩
  · exact ⟨okc_1, rfl⟩
  · exact ⟨okc_2, rfl⟩
theorem rok_0 {r : Option FieldType} {k : Nat} (h : ix_rok r k) (hk : k = 0) : r = none := by
  rcases h with ⟨_, h⟩ | ⟨a, _⟩ | ⟨a, _⟩ | ⟨a, _⟩ | ⟨a, _⟩ <;> first | exact h | omega
theorem rok_1 {r : Option FieldType} {k : Nat} (h : ix_rok r k) (hk : k = 1) : r = some .int := by
  rcases h with ⟨a, _⟩ | ⟨_, h⟩ | ⟨a, _⟩ | ⟨a, _⟩ | ⟨a, _⟩ <;> first | exact h | omega
theorem rok_2 {r : Option FieldType} {k : Nat} (h : ix_rok r k) (hk : k = 2) : r = some .boolean := by
  rcases h with ⟨a, _⟩ | ⟨a, _⟩ | ⟨_, h⟩ | ⟨a, _⟩ | ⟨a, _⟩ <;> first | exact h | omega
theorem rok_3 {r : Option FieldType} {k : Nat} (h : ix_rok r k) (hk : k = 3) : r = some .long := by
  rcases h with ⟨a, _⟩ | ⟨a, _⟩ | ⟨a, _⟩ | ⟨_, h⟩ | ⟨a, _⟩ <;> first | exact h | omega
theorem rok_4 {r : Option FieldType} {k : Nat} (h : ix_rok r k) (hk : k = 4) : ∃ rt, r = some rt ∧ ((∃ n, rt = .object n) ∨ ∃ t, rt = .array t) := by
  rcases h with ⟨a, _⟩ | ⟨a, _⟩ | ⟨a, _⟩ | ⟨a, _⟩ | ⟨_, h⟩ <;> first | exact h | omega
