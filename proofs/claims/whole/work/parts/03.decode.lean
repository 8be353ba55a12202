theorem dX8_init_0 : decode cX8_init 0 = .ok (.aload_n 0, 1) := by decide +kernel
theorem dX8_init_1 : decode cX8_init 1 = .ok (.invokespecial 1, 3) := by decide +kernel
theorem dX8_init_4 : decode cX8_init 4 = .ok (.aload_n 0, 1) := by decide +kernel
theorem dX8_init_5 : decode cX8_init 5 = .ok (.bipush 8, 2) := by decide +kernel
theorem dX8_init_7 : decode cX8_init 7 = .ok (.newarray .int, 2) := by decide +kernel
theorem dX8_init_9 : decode cX8_init 9 = .ok (.putfield 7, 3) := by decide +kernel
theorem dX8_init_12 : decode cX8_init 12 = .ok (.aload_n 0, 1) := by decide +kernel
theorem dX8_init_13 : decode cX8_init 13 = .ok (.bipush 7, 2) := by decide +kernel
theorem dX8_init_15 : decode cX8_init 15 = .ok (.newarray .int, 2) := by decide +kernel
theorem dX8_init_17 : decode cX8_init 17 = .ok (.putfield 13, 3) := by decide +kernel
theorem dX8_init_20 : decode cX8_init 20 = .ok (.aload_n 0, 1) := by decide +kernel
theorem dX8_init_21 : decode cX8_init 21 = .ok (.bipush 10, 2) := by decide +kernel
theorem dX8_init_23 : decode cX8_init 23 = .ok (.newarray .int, 2) := by decide +kernel
theorem dX8_init_25 : decode cX8_init 25 = .ok (.putfield 16, 3) := by decide +kernel
theorem dX8_init_28 : decode cX8_init 28 = .ok (.aload_n 0, 1) := by decide +kernel
theorem dX8_init_29 : decode cX8_init 29 = .ok (.bipush 10, 2) := by decide +kernel
theorem dX8_init_31 : decode cX8_init 31 = .ok (.newarray .int, 2) := by decide +kernel
theorem dX8_init_33 : decode cX8_init 33 = .ok (.putfield 19, 3) := by decide +kernel
theorem dX8_init_36 : decode cX8_init 36 = .ok (.aload_n 0, 1) := by decide +kernel
theorem dX8_init_37 : decode cX8_init 37 = .ok (.bipush 10, 2) := by decide +kernel
theorem dX8_init_39 : decode cX8_init 39 = .ok (.newarray .int, 2) := by decide +kernel
theorem dX8_init_41 : decode cX8_init 41 = .ok (.putfield 22, 3) := by decide +kernel
theorem dX8_init_44 : decode cX8_init 44 = .ok (.aload_n 0, 1) := by decide +kernel
theorem dX8_init_45 : decode cX8_init 45 = .ok (.iconst 5, 1) := by decide +kernel
theorem dX8_init_46 : decode cX8_init 46 = .ok (.newarray .int, 2) := by decide +kernel
theorem dX8_init_48 : decode cX8_init 48 = .ok (.putfield 25, 3) := by decide +kernel
theorem dX8_init_51 : decode cX8_init 51 = .ok (.aload_n 0, 1) := by decide +kernel
theorem dX8_init_52 : decode cX8_init 52 = .ok (.bipush 7, 2) := by decide +kernel
theorem dX8_init_54 : decode cX8_init 54 = .ok (.newarray .int, 2) := by decide +kernel
theorem dX8_init_56 : decode cX8_init 56 = .ok (.putfield 28, 3) := by decide +kernel
theorem dX8_init_59 : decode cX8_init 59 = .ok (.aload_n 0, 1) := by decide +kernel
theorem dX8_init_60 : decode cX8_init 60 = .ok (.bipush 84, 2) := by decide +kernel
theorem dX8_init_62 : decode cX8_init 62 = .ok (.newarray .int, 2) := by decide +kernel
theorem dX8_init_64 : decode cX8_init 64 = .ok (.putfield 31, 3) := by decide +kernel
theorem dX8_init_67 : decode cX8_init 67 = .ok (.aload_n 0, 1) := by decide +kernel
theorem dX8_init_68 : decode cX8_init 68 = .ok (.bipush 7, 2) := by decide +kernel
theorem dX8_init_70 : decode cX8_init 70 = .ok (.newarray .int, 2) := by decide +kernel
theorem dX8_init_72 : decode cX8_init 72 = .ok (.putfield 34, 3) := by decide +kernel
theorem dX8_init_75 : decode cX8_init 75 = .ok (.aload_n 0, 1) := by decide +kernel
theorem dX8_init_76 : decode cX8_init 76 = .ok (.bipush 84, 2) := by decide +kernel
theorem dX8_init_78 : decode cX8_init 78 = .ok (.newarray .int, 2) := by decide +kernel
theorem dX8_init_80 : decode cX8_init 80 = .ok (.putfield 37, 3) := by decide +kernel
theorem dX8_init_83 : decode cX8_init 83 = .ok (.aload_n 0, 1) := by decide +kernel
theorem dX8_init_84 : decode cX8_init 84 = .ok (.sipush 600, 3) := by decide +kernel
theorem dX8_init_87 : decode cX8_init 87 = .ok (.newarray .int, 2) := by decide +kernel
theorem dX8_init_89 : decode cX8_init 89 = .ok (.putfield 40, 3) := by decide +kernel
theorem dX8_init_92 : decode cX8_init 92 = .ok (.aload_n 0, 1) := by decide +kernel
theorem dX8_init_93 : decode cX8_init 93 = .ok (.iconst (-1), 1) := by decide +kernel
theorem dX8_init_94 : decode cX8_init 94 = .ok (.putfield 43, 3) := by decide +kernel
theorem dX8_init_97 : decode cX8_init 97 = .ok (.aload_n 0, 1) := by decide +kernel
theorem dX8_init_98 : decode cX8_init 98 = .ok (.bipush 70, 2) := by decide +kernel
theorem dX8_init_100 : decode cX8_init 100 = .ok (.newarray .int, 2) := by decide +kernel
theorem dX8_init_102 : decode cX8_init 102 = .ok (.putfield 47, 3) := by decide +kernel
theorem dX8_init_105 : decode cX8_init 105 = .ok (.aload_n 0, 1) := by decide +kernel
theorem dX8_init_106 : decode cX8_init 106 = .ok (.bipush 70, 2) := by decide +kernel
theorem dX8_init_108 : decode cX8_init 108 = .ok (.newarray .int, 2) := by decide +kernel
theorem dX8_init_110 : decode cX8_init 110 = .ok (.putfield 50, 3) := by decide +kernel
theorem dX8_init_113 : decode cX8_init 113 = .ok (.aload_n 0, 1) := by decide +kernel
theorem dX8_init_114 : decode cX8_init 114 = .ok (.bipush 70, 2) := by decide +kernel
theorem dX8_init_116 : decode cX8_init 116 = .ok (.newarray .int, 2) := by decide +kernel
theorem dX8_init_118 : decode cX8_init 118 = .ok (.putfield 53, 3) := by decide +kernel
theorem dX8_init_121 : decode cX8_init 121 = .ok (.aload_n 0, 1) := by decide +kernel
theorem dX8_init_122 : decode cX8_init 122 = .ok (.bipush 70, 2) := by decide +kernel
theorem dX8_init_124 : decode cX8_init 124 = .ok (.newarray .int, 2) := by decide +kernel
theorem dX8_init_126 : decode cX8_init 126 = .ok (.putfield 56, 3) := by decide +kernel
theorem dX8_init_129 : decode cX8_init 129 = .ok (.aload_n 0, 1) := by decide +kernel
theorem dX8_init_130 : decode cX8_init 130 = .ok (.bipush 7, 2) := by decide +kernel
theorem dX8_init_132 : decode cX8_init 132 = .ok (.newarray .int, 2) := by decide +kernel
theorem dX8_init_134 : decode cX8_init 134 = .ok (.putfield 59, 3) := by decide +kernel
theorem dX8_init_137 : decode cX8_init 137 = .ok (.aload_n 0, 1) := by decide +kernel
theorem dX8_init_138 : decode cX8_init 138 = .ok (.bipush 8, 2) := by decide +kernel
theorem dX8_init_140 : decode cX8_init 140 = .ok (.newarray .int, 2) := by decide +kernel
theorem dX8_init_142 : decode cX8_init 142 = .ok (.putfield 62, 3) := by decide +kernel
theorem dX8_init_145 : decode cX8_init 145 = .ok (.aload_n 0, 1) := by decide +kernel
theorem dX8_init_146 : decode cX8_init 146 = .ok (.bipush 8, 2) := by decide +kernel
theorem dX8_init_148 : decode cX8_init 148 = .ok (.newarray .int, 2) := by decide +kernel
theorem dX8_init_150 : decode cX8_init 150 = .ok (.putfield 65, 3) := by decide +kernel
theorem dX8_init_153 : decode cX8_init 153 = .ok (.aload_n 0, 1) := by decide +kernel
theorem dX8_init_154 : decode cX8_init 154 = .ok (.bipush 8, 2) := by decide +kernel
theorem dX8_init_156 : decode cX8_init 156 = .ok (.newarray .int, 2) := by decide +kernel
theorem dX8_init_158 : decode cX8_init 158 = .ok (.putfield 68, 3) := by decide +kernel
theorem dX8_init_161 : decode cX8_init 161 = .ok (.iconst 1, 1) := by decide +kernel
theorem dX8_init_162 : decode cX8_init 162 = .ok (.istore_n 1, 1) := by decide +kernel
theorem dX8_init_163 : decode cX8_init 163 = .ok (.iload_n 1, 1) := by decide +kernel
theorem dX8_init_164 : decode cX8_init 164 = .ok (.bipush 8, 2) := by decide +kernel
theorem dX8_init_166 : decode cX8_init 166 = .ok (.if_icmp .ge 17, 3) := by decide +kernel
theorem dX8_init_169 : decode cX8_init 169 = .ok (.aload_n 0, 1) := by decide +kernel
theorem dX8_init_170 : decode cX8_init 170 = .ok (.getfield 7, 3) := by decide +kernel
theorem dX8_init_173 : decode cX8_init 173 = .ok (.iload_n 1, 1) := by decide +kernel
theorem dX8_init_174 : decode cX8_init 174 = .ok (.bipush 100, 2) := by decide +kernel
theorem dX8_init_176 : decode cX8_init 176 = .ok (.iastore, 1) := by decide +kernel
theorem dX8_init_177 : decode cX8_init 177 = .ok (.iinc 1 1, 3) := by decide +kernel
theorem dX8_init_180 : decode cX8_init 180 = .ok (.goto (-17), 3) := by decide +kernel
theorem dX8_init_183 : decode cX8_init 183 = .ok (.iconst 0, 1) := by decide +kernel
theorem dX8_init_184 : decode cX8_init 184 = .ok (.istore_n 1, 1) := by decide +kernel
theorem dX8_init_185 : decode cX8_init 185 = .ok (.iload_n 1, 1) := by decide +kernel
theorem dX8_init_186 : decode cX8_init 186 = .ok (.bipush 7, 2) := by decide +kernel
theorem dX8_init_188 : decode cX8_init 188 = .ok (.if_icmp .ge 17, 3) := by decide +kernel
theorem dX8_init_191 : decode cX8_init 191 = .ok (.aload_n 0, 1) := by decide +kernel
theorem dX8_init_192 : decode cX8_init 192 = .ok (.getfield 13, 3) := by decide +kernel
theorem dX8_init_195 : decode cX8_init 195 = .ok (.iload_n 1, 1) := by decide +kernel
theorem dX8_init_196 : decode cX8_init 196 = .ok (.bipush 6, 2) := by decide +kernel
theorem dX8_init_198 : decode cX8_init 198 = .ok (.iastore, 1) := by decide +kernel
theorem dX8_init_199 : decode cX8_init 199 = .ok (.iinc 1 1, 3) := by decide +kernel
theorem dX8_init_202 : decode cX8_init 202 = .ok (.goto (-17), 3) := by decide +kernel
theorem dX8_init_205 : decode cX8_init 205 = .ok (.aload_n 0, 1) := by decide +kernel
theorem dX8_init_206 : decode cX8_init 206 = .ok (.getfield 25, 3) := by decide +kernel
theorem dX8_init_209 : decode cX8_init 209 = .ok (.iconst 0, 1) := by decide +kernel
theorem dX8_init_210 : decode cX8_init 210 = .ok (.bipush 60, 2) := by decide +kernel
theorem dX8_init_212 : decode cX8_init 212 = .ok (.iastore, 1) := by decide +kernel
theorem dX8_init_213 : decode cX8_init 213 = .ok (.aload_n 0, 1) := by decide +kernel
theorem dX8_init_214 : decode cX8_init 214 = .ok (.getfield 25, 3) := by decide +kernel
theorem dX8_init_217 : decode cX8_init 217 = .ok (.iconst 1, 1) := by decide +kernel
theorem dX8_init_218 : decode cX8_init 218 = .ok (.bipush 120, 2) := by decide +kernel
theorem dX8_init_220 : decode cX8_init 220 = .ok (.iastore, 1) := by decide +kernel
theorem dX8_init_221 : decode cX8_init 221 = .ok (.aload_n 0, 1) := by decide +kernel
theorem dX8_init_222 : decode cX8_init 222 = .ok (.getfield 25, 3) := by decide +kernel
theorem dX8_init_225 : decode cX8_init 225 = .ok (.iconst 2, 1) := by decide +kernel
theorem dX8_init_226 : decode cX8_init 226 = .ok (.bipush 60, 2) := by decide +kernel
theorem dX8_init_228 : decode cX8_init 228 = .ok (.iastore, 1) := by decide +kernel
theorem dX8_init_229 : decode cX8_init 229 = .ok (.aload_n 0, 1) := by decide +kernel
theorem dX8_init_230 : decode cX8_init 230 = .ok (.getfield 25, 3) := by decide +kernel
theorem dX8_init_233 : decode cX8_init 233 = .ok (.iconst 3, 1) := by decide +kernel
theorem dX8_init_234 : decode cX8_init 234 = .ok (.bipush 100, 2) := by decide +kernel
theorem dX8_init_236 : decode cX8_init 236 = .ok (.iastore, 1) := by decide +kernel
theorem dX8_init_237 : decode cX8_init 237 = .ok (.aload_n 0, 1) := by decide +kernel
theorem dX8_init_238 : decode cX8_init 238 = .ok (.getfield 25, 3) := by decide +kernel
theorem dX8_init_241 : decode cX8_init 241 = .ok (.iconst 4, 1) := by decide +kernel
theorem dX8_init_242 : decode cX8_init 242 = .ok (.bipush 10, 2) := by decide +kernel
theorem dX8_init_244 : decode cX8_init 244 = .ok (.iastore, 1) := by decide +kernel
theorem dX8_init_245 : decode cX8_init 245 = .ok (.return_, 1) := by decide +kernel
theorem dX8_isIn_0 : decode cX8_isIn 0 = .ok (.iload_n 0, 1) := by decide +kernel
theorem dX8_isIn_1 : decode cX8_isIn 1 = .ok (.iload_n 1, 1) := by decide +kernel
theorem dX8_isIn_2 : decode cX8_isIn 2 = .ok (.if_icmp .lt 12, 3) := by decide +kernel
theorem dX8_isIn_5 : decode cX8_isIn 5 = .ok (.iload_n 0, 1) := by decide +kernel
theorem dX8_isIn_6 : decode cX8_isIn 6 = .ok (.iload_n 2, 1) := by decide +kernel
theorem dX8_isIn_7 : decode cX8_isIn 7 = .ok (.if_icmp .gt 7, 3) := by decide +kernel
theorem dX8_isIn_10 : decode cX8_isIn 10 = .ok (.iconst 1, 1) := by decide +kernel
theorem dX8_isIn_11 : decode cX8_isIn 11 = .ok (.goto 4, 3) := by decide +kernel
theorem dX8_isIn_14 : decode cX8_isIn 14 = .ok (.iconst 0, 1) := by decide +kernel
theorem dX8_isIn_15 : decode cX8_isIn 15 = .ok (.ireturn, 1) := by decide +kernel
theorem dX8_isStage_0 : decode cX8_isStage 0 = .ok (.iload_n 0, 1) := by decide +kernel
theorem dX8_isStage_1 : decode cX8_isStage 1 = .ok (.iconst 0, 1) := by decide +kernel
theorem dX8_isStage_2 : decode cX8_isStage 2 = .ok (.bipush 6, 2) := by decide +kernel
theorem dX8_isStage_4 : decode cX8_isStage 4 = .ok (.invokestatic 71, 3) := by decide +kernel
theorem dX8_isStage_7 : decode cX8_isStage 7 = .ok (.ireturn, 1) := by decide +kernel
theorem dX8_isCamp_0 : decode cX8_isCamp 0 = .ok (.iload_n 0, 1) := by decide +kernel
theorem dX8_isCamp_1 : decode cX8_isCamp 1 = .ok (.iconst 1, 1) := by decide +kernel
theorem dX8_isCamp_2 : decode cX8_isCamp 2 = .ok (.bipush 7, 2) := by decide +kernel
theorem dX8_isCamp_4 : decode cX8_isCamp 4 = .ok (.invokestatic 71, 3) := by decide +kernel
theorem dX8_isCamp_7 : decode cX8_isCamp 7 = .ok (.ireturn, 1) := by decide +kernel
theorem dX8_isRacer_0 : decode cX8_isRacer 0 = .ok (.iload_n 1, 1) := by decide +kernel
theorem dX8_isRacer_1 : decode cX8_isRacer 1 = .ok (.iconst 0, 1) := by decide +kernel
theorem dX8_isRacer_2 : decode cX8_isRacer 2 = .ok (.aload_n 0, 1) := by decide +kernel
theorem dX8_isRacer_3 : decode cX8_isRacer 3 = .ok (.getfield 75, 3) := by decide +kernel
theorem dX8_isRacer_6 : decode cX8_isRacer 6 = .ok (.iconst 1, 1) := by decide +kernel
theorem dX8_isRacer_7 : decode cX8_isRacer 7 = .ok (.isub, 1) := by decide +kernel
theorem dX8_isRacer_8 : decode cX8_isRacer 8 = .ok (.invokestatic 71, 3) := by decide +kernel
theorem dX8_isRacer_11 : decode cX8_isRacer 11 = .ok (.ireturn, 1) := by decide +kernel
theorem dX8_length_0 : decode cX8_length 0 = .ok (.aload_n 0, 1) := by decide +kernel
theorem dX8_length_1 : decode cX8_length 1 = .ok (.getfield 7, 3) := by decide +kernel
theorem dX8_length_4 : decode cX8_length 4 = .ok (.iload_n 1, 1) := by decide +kernel
theorem dX8_length_5 : decode cX8_length 5 = .ok (.iconst 1, 1) := by decide +kernel
theorem dX8_length_6 : decode cX8_length 6 = .ok (.iadd, 1) := by decide +kernel
theorem dX8_length_7 : decode cX8_length 7 = .ok (.iaload, 1) := by decide +kernel
theorem dX8_length_8 : decode cX8_length 8 = .ok (.ireturn, 1) := by decide +kernel
theorem dX8_camp_0 : decode cX8_camp 0 = .ok (.iload_n 1, 1) := by decide +kernel
theorem dX8_camp_1 : decode cX8_camp 1 = .ok (.invokestatic 78, 3) := by decide +kernel
theorem dX8_camp_4 : decode cX8_camp 4 = .ok (.ifCond .eq 14, 3) := by decide +kernel
theorem dX8_camp_7 : decode cX8_camp 7 = .ok (.iload_n 2, 1) := by decide +kernel
theorem dX8_camp_8 : decode cX8_camp 8 = .ok (.iconst 1, 1) := by decide +kernel
theorem dX8_camp_9 : decode cX8_camp 9 = .ok (.sipush 900, 3) := by decide +kernel
theorem dX8_camp_12 : decode cX8_camp 12 = .ok (.invokestatic 71, 3) := by decide +kernel
theorem dX8_camp_15 : decode cX8_camp 15 = .ok (.ifCond .ne 5, 3) := by decide +kernel
theorem dX8_camp_18 : decode cX8_camp 18 = .ok (.iconst 0, 1) := by decide +kernel
theorem dX8_camp_19 : decode cX8_camp 19 = .ok (.ireturn, 1) := by decide +kernel
theorem dX8_camp_20 : decode cX8_camp 20 = .ok (.aload_n 0, 1) := by decide +kernel
theorem dX8_camp_21 : decode cX8_camp 21 = .ok (.getfield 7, 3) := by decide +kernel
theorem dX8_camp_24 : decode cX8_camp 24 = .ok (.iload_n 1, 1) := by decide +kernel
theorem dX8_camp_25 : decode cX8_camp 25 = .ok (.iload_n 2, 1) := by decide +kernel
theorem dX8_camp_26 : decode cX8_camp 26 = .ok (.iastore, 1) := by decide +kernel
theorem dX8_camp_27 : decode cX8_camp 27 = .ok (.iconst 0, 1) := by decide +kernel
theorem dX8_camp_28 : decode cX8_camp 28 = .ok (.istore_n 3, 1) := by decide +kernel
theorem dX8_camp_29 : decode cX8_camp 29 = .ok (.iload_n 3, 1) := by decide +kernel
theorem dX8_camp_30 : decode cX8_camp 30 = .ok (.aload_n 0, 1) := by decide +kernel
theorem dX8_camp_31 : decode cX8_camp 31 = .ok (.getfield 75, 3) := by decide +kernel
theorem dX8_camp_34 : decode cX8_camp 34 = .ok (.if_icmp .ge 38, 3) := by decide +kernel
theorem dX8_camp_37 : decode cX8_camp 37 = .ok (.aload_n 0, 1) := by decide +kernel
theorem dX8_camp_38 : decode cX8_camp 38 = .ok (.getfield 19, 3) := by decide +kernel
theorem dX8_camp_41 : decode cX8_camp 41 = .ok (.iload_n 3, 1) := by decide +kernel
theorem dX8_camp_42 : decode cX8_camp 42 = .ok (.iaload, 1) := by decide +kernel
theorem dX8_camp_43 : decode cX8_camp 43 = .ok (.iload_n 1, 1) := by decide +kernel
theorem dX8_camp_44 : decode cX8_camp 44 = .ok (.iconst 1, 1) := by decide +kernel
theorem dX8_camp_45 : decode cX8_camp 45 = .ok (.isub, 1) := by decide +kernel
theorem dX8_camp_46 : decode cX8_camp 46 = .ok (.if_icmp .ne 20, 3) := by decide +kernel
theorem dX8_camp_49 : decode cX8_camp 49 = .ok (.aload_n 0, 1) := by decide +kernel
theorem dX8_camp_50 : decode cX8_camp 50 = .ok (.getfield 22, 3) := by decide +kernel
theorem dX8_camp_53 : decode cX8_camp 53 = .ok (.iload_n 3, 1) := by decide +kernel
theorem dX8_camp_54 : decode cX8_camp 54 = .ok (.iaload, 1) := by decide +kernel
theorem dX8_camp_55 : decode cX8_camp 55 = .ok (.iload_n 2, 1) := by decide +kernel
theorem dX8_camp_56 : decode cX8_camp 56 = .ok (.if_icmp .lt 10, 3) := by decide +kernel
theorem dX8_camp_59 : decode cX8_camp 59 = .ok (.aload_n 0, 1) := by decide +kernel
theorem dX8_camp_60 : decode cX8_camp 60 = .ok (.getfield 19, 3) := by decide +kernel
theorem dX8_camp_63 : decode cX8_camp 63 = .ok (.iload_n 3, 1) := by decide +kernel
theorem dX8_camp_64 : decode cX8_camp 64 = .ok (.iconst (-1), 1) := by decide +kernel
theorem dX8_camp_65 : decode cX8_camp 65 = .ok (.iastore, 1) := by decide +kernel
theorem dX8_camp_66 : decode cX8_camp 66 = .ok (.iinc 3 1, 3) := by decide +kernel
theorem dX8_camp_69 : decode cX8_camp 69 = .ok (.goto (-40), 3) := by decide +kernel
theorem dX8_camp_72 : decode cX8_camp 72 = .ok (.iconst 1, 1) := by decide +kernel
theorem dX8_camp_73 : decode cX8_camp 73 = .ok (.ireturn, 1) := by decide +kernel
theorem dX8_hour_0 : decode cX8_hour 0 = .ok (.iload_n 1, 1) := by decide +kernel
theorem dX8_hour_1 : decode cX8_hour 1 = .ok (.invokestatic 82, 3) := by decide +kernel
theorem dX8_hour_4 : decode cX8_hour 4 = .ok (.ifCond .eq 13, 3) := by decide +kernel
theorem dX8_hour_7 : decode cX8_hour 7 = .ok (.iload_n 2, 1) := by decide +kernel
theorem dX8_hour_8 : decode cX8_hour 8 = .ok (.iconst 0, 1) := by decide +kernel
theorem dX8_hour_9 : decode cX8_hour 9 = .ok (.bipush 23, 2) := by decide +kernel
theorem dX8_hour_11 : decode cX8_hour 11 = .ok (.invokestatic 71, 3) := by decide +kernel
theorem dX8_hour_14 : decode cX8_hour 14 = .ok (.ifCond .ne 5, 3) := by decide +kernel
theorem dX8_hour_17 : decode cX8_hour 17 = .ok (.iconst 0, 1) := by decide +kernel
theorem dX8_hour_18 : decode cX8_hour 18 = .ok (.ireturn, 1) := by decide +kernel
theorem dX8_hour_19 : decode cX8_hour 19 = .ok (.aload_n 0, 1) := by decide +kernel
theorem dX8_hour_20 : decode cX8_hour 20 = .ok (.getfield 13, 3) := by decide +kernel
theorem dX8_hour_23 : decode cX8_hour 23 = .ok (.iload_n 1, 1) := by decide +kernel
theorem dX8_hour_24 : decode cX8_hour 24 = .ok (.iload_n 2, 1) := by decide +kernel
theorem dX8_hour_25 : decode cX8_hour 25 = .ok (.iastore, 1) := by decide +kernel
theorem dX8_hour_26 : decode cX8_hour 26 = .ok (.iconst 1, 1) := by decide +kernel
theorem dX8_hour_27 : decode cX8_hour 27 = .ok (.ireturn, 1) := by decide +kernel
theorem dX8_racer_0 : decode cX8_racer 0 = .ok (.iload_n 1, 1) := by decide +kernel
theorem dX8_racer_1 : decode cX8_racer 1 = .ok (.bipush 10, 2) := by decide +kernel
theorem dX8_racer_3 : decode cX8_racer 3 = .ok (.bipush 120, 2) := by decide +kernel
theorem dX8_racer_5 : decode cX8_racer 5 = .ok (.invokestatic 71, 3) := by decide +kernel
theorem dX8_racer_8 : decode cX8_racer 8 = .ok (.ifCond .eq 12, 3) := by decide +kernel
theorem dX8_racer_11 : decode cX8_racer 11 = .ok (.aload_n 0, 1) := by decide +kernel
theorem dX8_racer_12 : decode cX8_racer 12 = .ok (.getfield 75, 3) := by decide +kernel
theorem dX8_racer_15 : decode cX8_racer 15 = .ok (.bipush 10, 2) := by decide +kernel
theorem dX8_racer_17 : decode cX8_racer 17 = .ok (.if_icmp .ne 5, 3) := by decide +kernel
theorem dX8_racer_20 : decode cX8_racer 20 = .ok (.iconst (-1), 1) := by decide +kernel
theorem dX8_racer_21 : decode cX8_racer 21 = .ok (.ireturn, 1) := by decide +kernel
theorem dX8_racer_22 : decode cX8_racer 22 = .ok (.aload_n 0, 1) := by decide +kernel
theorem dX8_racer_23 : decode cX8_racer 23 = .ok (.getfield 16, 3) := by decide +kernel
theorem dX8_racer_26 : decode cX8_racer 26 = .ok (.aload_n 0, 1) := by decide +kernel
theorem dX8_racer_27 : decode cX8_racer 27 = .ok (.getfield 75, 3) := by decide +kernel
theorem dX8_racer_30 : decode cX8_racer 30 = .ok (.iload_n 1, 1) := by decide +kernel
theorem dX8_racer_31 : decode cX8_racer 31 = .ok (.iastore, 1) := by decide +kernel
theorem dX8_racer_32 : decode cX8_racer 32 = .ok (.aload_n 0, 1) := by decide +kernel
theorem dX8_racer_33 : decode cX8_racer 33 = .ok (.getfield 19, 3) := by decide +kernel
theorem dX8_racer_36 : decode cX8_racer 36 = .ok (.aload_n 0, 1) := by decide +kernel
theorem dX8_racer_37 : decode cX8_racer 37 = .ok (.getfield 75, 3) := by decide +kernel
theorem dX8_racer_40 : decode cX8_racer 40 = .ok (.iconst (-1), 1) := by decide +kernel
theorem dX8_racer_41 : decode cX8_racer 41 = .ok (.iastore, 1) := by decide +kernel
theorem dX8_racer_42 : decode cX8_racer 42 = .ok (.aload_n 0, 1) := by decide +kernel
theorem dX8_racer_43 : decode cX8_racer 43 = .ok (.dup, 1) := by decide +kernel
theorem dX8_racer_44 : decode cX8_racer 44 = .ok (.getfield 75, 3) := by decide +kernel
theorem dX8_racer_47 : decode cX8_racer 47 = .ok (.iconst 1, 1) := by decide +kernel
theorem dX8_racer_48 : decode cX8_racer 48 = .ok (.iadd, 1) := by decide +kernel
theorem dX8_racer_49 : decode cX8_racer 49 = .ok (.putfield 75, 3) := by decide +kernel
theorem dX8_racer_52 : decode cX8_racer 52 = .ok (.aload_n 0, 1) := by decide +kernel
theorem dX8_racer_53 : decode cX8_racer 53 = .ok (.getfield 75, 3) := by decide +kernel
theorem dX8_racer_56 : decode cX8_racer 56 = .ok (.iconst 1, 1) := by decide +kernel
theorem dX8_racer_57 : decode cX8_racer 57 = .ok (.isub, 1) := by decide +kernel
theorem dX8_racer_58 : decode cX8_racer 58 = .ok (.ireturn, 1) := by decide +kernel
theorem dX8_breaks_0 : decode cX8_breaks 0 = .ok (.aload_n 0, 1) := by decide +kernel
theorem dX8_breaks_1 : decode cX8_breaks 1 = .ok (.iload_n 1, 1) := by decide +kernel
theorem dX8_breaks_2 : decode cX8_breaks 2 = .ok (.invokevirtual 85, 3) := by decide +kernel
theorem dX8_breaks_5 : decode cX8_breaks 5 = .ok (.ifCond .eq 30, 3) := by decide +kernel
theorem dX8_breaks_8 : decode cX8_breaks 8 = .ok (.iload_n 2, 1) := by decide +kernel
theorem dX8_breaks_9 : decode cX8_breaks 9 = .ok (.iconst (-1), 1) := by decide +kernel
theorem dX8_breaks_10 : decode cX8_breaks 10 = .ok (.if_icmp .eq 27, 3) := by decide +kernel
theorem dX8_breaks_13 : decode cX8_breaks 13 = .ok (.iload_n 2, 1) := by decide +kernel
theorem dX8_breaks_14 : decode cX8_breaks 14 = .ok (.invokestatic 82, 3) := by decide +kernel
theorem dX8_breaks_17 : decode cX8_breaks 17 = .ok (.ifCond .eq 18, 3) := by decide +kernel
theorem dX8_breaks_20 : decode cX8_breaks 20 = .ok (.iload_n 3, 1) := by decide +kernel
theorem dX8_breaks_21 : decode cX8_breaks 21 = .ok (.iconst 0, 1) := by decide +kernel
theorem dX8_breaks_22 : decode cX8_breaks 22 = .ok (.aload_n 0, 1) := by decide +kernel
theorem dX8_breaks_23 : decode cX8_breaks 23 = .ok (.iload_n 2, 1) := by decide +kernel
theorem dX8_breaks_24 : decode cX8_breaks 24 = .ok (.invokevirtual 88, 3) := by decide +kernel
theorem dX8_breaks_27 : decode cX8_breaks 27 = .ok (.iconst 1, 1) := by decide +kernel
theorem dX8_breaks_28 : decode cX8_breaks 28 = .ok (.isub, 1) := by decide +kernel
theorem dX8_breaks_29 : decode cX8_breaks 29 = .ok (.invokestatic 71, 3) := by decide +kernel
theorem dX8_breaks_32 : decode cX8_breaks 32 = .ok (.ifCond .ne 5, 3) := by decide +kernel
theorem dX8_breaks_35 : decode cX8_breaks 35 = .ok (.iconst 0, 1) := by decide +kernel
theorem dX8_breaks_36 : decode cX8_breaks 36 = .ok (.ireturn, 1) := by decide +kernel
theorem dX8_breaks_37 : decode cX8_breaks 37 = .ok (.aload_n 0, 1) := by decide +kernel
theorem dX8_breaks_38 : decode cX8_breaks 38 = .ok (.getfield 19, 3) := by decide +kernel
theorem dX8_breaks_41 : decode cX8_breaks 41 = .ok (.iload_n 1, 1) := by decide +kernel
theorem dX8_breaks_42 : decode cX8_breaks 42 = .ok (.iload_n 2, 1) := by decide +kernel
theorem dX8_breaks_43 : decode cX8_breaks 43 = .ok (.iastore, 1) := by decide +kernel
theorem dX8_breaks_44 : decode cX8_breaks 44 = .ok (.aload_n 0, 1) := by decide +kernel
theorem dX8_breaks_45 : decode cX8_breaks 45 = .ok (.getfield 22, 3) := by decide +kernel
theorem dX8_breaks_48 : decode cX8_breaks 48 = .ok (.iload_n 1, 1) := by decide +kernel
theorem dX8_breaks_49 : decode cX8_breaks 49 = .ok (.iload_n 3, 1) := by decide +kernel
theorem dX8_breaks_50 : decode cX8_breaks 50 = .ok (.iastore, 1) := by decide +kernel
theorem dX8_breaks_51 : decode cX8_breaks 51 = .ok (.iconst 1, 1) := by decide +kernel
theorem dX8_breaks_52 : decode cX8_breaks 52 = .ok (.ireturn, 1) := by decide +kernel
theorem dX8_set_0 : decode cX8_set 0 = .ok (.iload_n 1, 1) := by decide +kernel
theorem dX8_set_1 : decode cX8_set 1 = .ok (.ifCond .eq 8, 3) := by decide +kernel
theorem dX8_set_4 : decode cX8_set 4 = .ok (.iload_n 1, 1) := by decide +kernel
theorem dX8_set_5 : decode cX8_set 5 = .ok (.iconst 1, 1) := by decide +kernel
theorem dX8_set_6 : decode cX8_set 6 = .ok (.if_icmp .ne 14, 3) := by decide +kernel
theorem dX8_set_9 : decode cX8_set 9 = .ok (.iload_n 2, 1) := by decide +kernel
theorem dX8_set_10 : decode cX8_set 10 = .ok (.iconst 0, 1) := by decide +kernel
theorem dX8_set_11 : decode cX8_set 11 = .ok (.sipush 600, 3) := by decide +kernel
theorem dX8_set_14 : decode cX8_set 14 = .ok (.invokestatic 71, 3) := by decide +kernel
theorem dX8_set_17 : decode cX8_set 17 = .ok (.goto 55, 3) := by decide +kernel
theorem dX8_set_20 : decode cX8_set 20 = .ok (.iload_n 1, 1) := by decide +kernel
theorem dX8_set_21 : decode cX8_set 21 = .ok (.iconst 2, 1) := by decide +kernel
theorem dX8_set_22 : decode cX8_set 22 = .ok (.if_icmp .ne 14, 3) := by decide +kernel
theorem dX8_set_25 : decode cX8_set 25 = .ok (.iload_n 2, 1) := by decide +kernel
theorem dX8_set_26 : decode cX8_set 26 = .ok (.bipush 10, 2) := by decide +kernel
theorem dX8_set_28 : decode cX8_set 28 = .ok (.bipush 120, 2) := by decide +kernel
theorem dX8_set_30 : decode cX8_set 30 = .ok (.invokestatic 71, 3) := by decide +kernel
theorem dX8_set_33 : decode cX8_set 33 = .ok (.goto 39, 3) := by decide +kernel
theorem dX8_set_36 : decode cX8_set 36 = .ok (.iload_n 1, 1) := by decide +kernel
theorem dX8_set_37 : decode cX8_set 37 = .ok (.iconst 3, 1) := by decide +kernel
theorem dX8_set_38 : decode cX8_set 38 = .ok (.if_icmp .ne 14, 3) := by decide +kernel
theorem dX8_set_41 : decode cX8_set 41 = .ok (.iload_n 2, 1) := by decide +kernel
theorem dX8_set_42 : decode cX8_set 42 = .ok (.iconst 0, 1) := by decide +kernel
theorem dX8_set_43 : decode cX8_set 43 = .ok (.sipush 5000, 3) := by decide +kernel
theorem dX8_set_46 : decode cX8_set 46 = .ok (.invokestatic 71, 3) := by decide +kernel
theorem dX8_set_49 : decode cX8_set 49 = .ok (.goto 23, 3) := by decide +kernel
theorem dX8_set_52 : decode cX8_set 52 = .ok (.iload_n 1, 1) := by decide +kernel
theorem dX8_set_53 : decode cX8_set 53 = .ok (.iconst 4, 1) := by decide +kernel
theorem dX8_set_54 : decode cX8_set 54 = .ok (.if_icmp .ne 17, 3) := by decide +kernel
theorem dX8_set_57 : decode cX8_set 57 = .ok (.iload_n 2, 1) := by decide +kernel
theorem dX8_set_58 : decode cX8_set 58 = .ok (.iconst 0, 1) := by decide +kernel
theorem dX8_set_59 : decode cX8_set 59 = .ok (.bipush 50, 2) := by decide +kernel
theorem dX8_set_61 : decode cX8_set 61 = .ok (.invokestatic 71, 3) := by decide +kernel
theorem dX8_set_64 : decode cX8_set 64 = .ok (.ifCond .eq 7, 3) := by decide +kernel
theorem dX8_set_67 : decode cX8_set 67 = .ok (.iconst 1, 1) := by decide +kernel
theorem dX8_set_68 : decode cX8_set 68 = .ok (.goto 4, 3) := by decide +kernel
theorem dX8_set_71 : decode cX8_set 71 = .ok (.iconst 0, 1) := by decide +kernel
theorem dX8_set_72 : decode cX8_set 72 = .ok (.istore_n 3, 1) := by decide +kernel
theorem dX8_set_73 : decode cX8_set 73 = .ok (.iload_n 3, 1) := by decide +kernel
theorem dX8_set_74 : decode cX8_set 74 = .ok (.ifCond .eq 10, 3) := by decide +kernel
theorem dX8_set_77 : decode cX8_set 77 = .ok (.aload_n 0, 1) := by decide +kernel
theorem dX8_set_78 : decode cX8_set 78 = .ok (.getfield 25, 3) := by decide +kernel
theorem dX8_set_81 : decode cX8_set 81 = .ok (.iload_n 1, 1) := by decide +kernel
theorem dX8_set_82 : decode cX8_set 82 = .ok (.iload_n 2, 1) := by decide +kernel
theorem dX8_set_83 : decode cX8_set 83 = .ok (.iastore, 1) := by decide +kernel
theorem dX8_set_84 : decode cX8_set 84 = .ok (.iload_n 3, 1) := by decide +kernel
theorem dX8_set_85 : decode cX8_set 85 = .ok (.ireturn, 1) := by decide +kernel
theorem dX8_feed_0 : decode cX8_feed 0 = .ok (.aload_n 0, 1) := by decide +kernel
theorem dX8_feed_1 : decode cX8_feed 1 = .ok (.getfield 92, 3) := by decide +kernel
theorem dX8_feed_4 : decode cX8_feed 4 = .ok (.bipush 20, 2) := by decide +kernel
theorem dX8_feed_6 : decode cX8_feed 6 = .ok (.iadd, 1) := by decide +kernel
theorem dX8_feed_7 : decode cX8_feed 7 = .ok (.sipush 600, 3) := by decide +kernel
theorem dX8_feed_10 : decode cX8_feed 10 = .ok (.if_icmp .le 5, 3) := by decide +kernel
theorem dX8_feed_13 : decode cX8_feed 13 = .ok (.iconst (-1), 1) := by decide +kernel
theorem dX8_feed_14 : decode cX8_feed 14 = .ok (.ireturn, 1) := by decide +kernel
theorem dX8_feed_15 : decode cX8_feed 15 = .ok (.iconst 0, 1) := by decide +kernel
theorem dX8_feed_16 : decode cX8_feed 16 = .ok (.istore 6, 2) := by decide +kernel
theorem dX8_feed_18 : decode cX8_feed 18 = .ok (.iload 6, 2) := by decide +kernel
theorem dX8_feed_20 : decode cX8_feed 20 = .ok (.bipush 20, 2) := by decide +kernel
theorem dX8_feed_22 : decode cX8_feed 22 = .ok (.if_icmp .ge 93, 3) := by decide +kernel
theorem dX8_feed_25 : decode cX8_feed 25 = .ok (.iload 6, 2) := by decide +kernel
theorem dX8_feed_27 : decode cX8_feed 27 = .ok (.iconst 4, 1) := by decide +kernel
theorem dX8_feed_28 : decode cX8_feed 28 = .ok (.if_icmp .ge 7, 3) := by decide +kernel
theorem dX8_feed_31 : decode cX8_feed 31 = .ok (.iload_n 1, 1) := by decide +kernel
theorem dX8_feed_32 : decode cX8_feed 32 = .ok (.goto 39, 3) := by decide +kernel
theorem dX8_feed_35 : decode cX8_feed 35 = .ok (.iload 6, 2) := by decide +kernel
theorem dX8_feed_37 : decode cX8_feed 37 = .ok (.bipush 8, 2) := by decide +kernel
theorem dX8_feed_39 : decode cX8_feed 39 = .ok (.if_icmp .ge 7, 3) := by decide +kernel
theorem dX8_feed_42 : decode cX8_feed 42 = .ok (.iload_n 2, 1) := by decide +kernel
theorem dX8_feed_43 : decode cX8_feed 43 = .ok (.goto 28, 3) := by decide +kernel
theorem dX8_feed_46 : decode cX8_feed 46 = .ok (.iload 6, 2) := by decide +kernel
theorem dX8_feed_48 : decode cX8_feed 48 = .ok (.bipush 12, 2) := by decide +kernel
theorem dX8_feed_50 : decode cX8_feed 50 = .ok (.if_icmp .ge 7, 3) := by decide +kernel
theorem dX8_feed_53 : decode cX8_feed 53 = .ok (.iload_n 3, 1) := by decide +kernel
theorem dX8_feed_54 : decode cX8_feed 54 = .ok (.goto 17, 3) := by decide +kernel
theorem dX8_feed_57 : decode cX8_feed 57 = .ok (.iload 6, 2) := by decide +kernel
theorem dX8_feed_59 : decode cX8_feed 59 = .ok (.bipush 16, 2) := by decide +kernel
theorem dX8_feed_61 : decode cX8_feed 61 = .ok (.if_icmp .ge 8, 3) := by decide +kernel
theorem dX8_feed_64 : decode cX8_feed 64 = .ok (.iload 4, 2) := by decide +kernel
theorem dX8_feed_66 : decode cX8_feed 66 = .ok (.goto 5, 3) := by decide +kernel
theorem dX8_feed_69 : decode cX8_feed 69 = .ok (.iload 5, 2) := by decide +kernel
theorem dX8_feed_71 : decode cX8_feed 71 = .ok (.istore 7, 2) := by decide +kernel
theorem dX8_feed_73 : decode cX8_feed 73 = .ok (.aload_n 0, 1) := by decide +kernel
theorem dX8_feed_74 : decode cX8_feed 74 = .ok (.getfield 40, 3) := by decide +kernel
theorem dX8_feed_77 : decode cX8_feed 77 = .ok (.aload_n 0, 1) := by decide +kernel
theorem dX8_feed_78 : decode cX8_feed 78 = .ok (.getfield 92, 3) := by decide +kernel
theorem dX8_feed_81 : decode cX8_feed 81 = .ok (.iload 7, 2) := by decide +kernel
theorem dX8_feed_83 : decode cX8_feed 83 = .ok (.bipush 24, 2) := by decide +kernel
theorem dX8_feed_85 : decode cX8_feed 85 = .ok (.bipush 8, 2) := by decide +kernel
theorem dX8_feed_87 : decode cX8_feed 87 = .ok (.iload 6, 2) := by decide +kernel
theorem dX8_feed_89 : decode cX8_feed 89 = .ok (.iconst 4, 1) := by decide +kernel
theorem dX8_feed_90 : decode cX8_feed 90 = .ok (.irem, 1) := by decide +kernel
theorem dX8_feed_91 : decode cX8_feed 91 = .ok (.imul, 1) := by decide +kernel
theorem dX8_feed_92 : decode cX8_feed 92 = .ok (.isub, 1) := by decide +kernel
theorem dX8_feed_93 : decode cX8_feed 93 = .ok (.ishr, 1) := by decide +kernel
theorem dX8_feed_94 : decode cX8_feed 94 = .ok (.sipush 255, 3) := by decide +kernel
theorem dX8_feed_97 : decode cX8_feed 97 = .ok (.iand, 1) := by decide +kernel
theorem dX8_feed_98 : decode cX8_feed 98 = .ok (.iastore, 1) := by decide +kernel
theorem dX8_feed_99 : decode cX8_feed 99 = .ok (.aload_n 0, 1) := by decide +kernel
theorem dX8_feed_100 : decode cX8_feed 100 = .ok (.dup, 1) := by decide +kernel
theorem dX8_feed_101 : decode cX8_feed 101 = .ok (.getfield 92, 3) := by decide +kernel
theorem dX8_feed_104 : decode cX8_feed 104 = .ok (.iconst 1, 1) := by decide +kernel
theorem dX8_feed_105 : decode cX8_feed 105 = .ok (.iadd, 1) := by decide +kernel
theorem dX8_feed_106 : decode cX8_feed 106 = .ok (.putfield 92, 3) := by decide +kernel
theorem dX8_feed_109 : decode cX8_feed 109 = .ok (.iinc 6 1, 3) := by decide +kernel
theorem dX8_feed_112 : decode cX8_feed 112 = .ok (.goto (-94), 3) := by decide +kernel
theorem dX8_feed_115 : decode cX8_feed 115 = .ok (.aload_n 0, 1) := by decide +kernel
theorem dX8_feed_116 : decode cX8_feed 116 = .ok (.getfield 92, 3) := by decide +kernel
theorem dX8_feed_119 : decode cX8_feed 119 = .ok (.ireturn, 1) := by decide +kernel
theorem dX8_end_0 : decode cX8_end 0 = .ok (.iload_n 1, 1) := by decide +kernel
theorem dX8_end_1 : decode cX8_end 1 = .ok (.iconst 0, 1) := by decide +kernel
theorem dX8_end_2 : decode cX8_end 2 = .ok (.aload_n 0, 1) := by decide +kernel
theorem dX8_end_3 : decode cX8_end 3 = .ok (.getfield 92, 3) := by decide +kernel
theorem dX8_end_6 : decode cX8_end 6 = .ok (.invokestatic 71, 3) := by decide +kernel
theorem dX8_end_9 : decode cX8_end 9 = .ok (.ifCond .ne 5, 3) := by decide +kernel
theorem dX8_end_12 : decode cX8_end 12 = .ok (.iconst 0, 1) := by decide +kernel
theorem dX8_end_13 : decode cX8_end 13 = .ok (.ireturn, 1) := by decide +kernel
theorem dX8_end_14 : decode cX8_end 14 = .ok (.aload_n 0, 1) := by decide +kernel
theorem dX8_end_15 : decode cX8_end 15 = .ok (.iload_n 1, 1) := by decide +kernel
theorem dX8_end_16 : decode cX8_end 16 = .ok (.putfield 92, 3) := by decide +kernel
theorem dX8_end_19 : decode cX8_end 19 = .ok (.iconst 1, 1) := by decide +kernel
theorem dX8_end_20 : decode cX8_end 20 = .ok (.ireturn, 1) := by decide +kernel
theorem dX8_see_0 : decode cX8_see 0 = .ok (.iload_n 1, 1) := by decide +kernel
theorem dX8_see_1 : decode cX8_see 1 = .ok (.aload_n 0, 1) := by decide +kernel
theorem dX8_see_2 : decode cX8_see 2 = .ok (.getfield 92, 3) := by decide +kernel
theorem dX8_see_5 : decode cX8_see 5 = .ok (.if_icmp .ge 12, 3) := by decide +kernel
theorem dX8_see_8 : decode cX8_see 8 = .ok (.aload_n 0, 1) := by decide +kernel
theorem dX8_see_9 : decode cX8_see 9 = .ok (.getfield 40, 3) := by decide +kernel
theorem dX8_see_12 : decode cX8_see 12 = .ok (.iload_n 1, 1) := by decide +kernel
theorem dX8_see_13 : decode cX8_see 13 = .ok (.iaload, 1) := by decide +kernel
theorem dX8_see_14 : decode cX8_see 14 = .ok (.goto 4, 3) := by decide +kernel
theorem dX8_see_17 : decode cX8_see 17 = .ok (.iconst (-1), 1) := by decide +kernel
theorem dX8_see_18 : decode cX8_see 18 = .ok (.ireturn, 1) := by decide +kernel
theorem dX8_isLetter_0 : decode cX8_isLetter 0 = .ok (.iload_n 0, 1) := by decide +kernel
theorem dX8_isLetter_1 : decode cX8_isLetter 1 = .ok (.bipush 97, 2) := by decide +kernel
theorem dX8_isLetter_3 : decode cX8_isLetter 3 = .ok (.bipush 122, 2) := by decide +kernel
theorem dX8_isLetter_5 : decode cX8_isLetter 5 = .ok (.invokestatic 71, 3) := by decide +kernel
theorem dX8_isLetter_8 : decode cX8_isLetter 8 = .ok (.ifCond .ne 14, 3) := by decide +kernel
theorem dX8_isLetter_11 : decode cX8_isLetter 11 = .ok (.iload_n 0, 1) := by decide +kernel
theorem dX8_isLetter_12 : decode cX8_isLetter 12 = .ok (.bipush 65, 2) := by decide +kernel
theorem dX8_isLetter_14 : decode cX8_isLetter 14 = .ok (.bipush 90, 2) := by decide +kernel
theorem dX8_isLetter_16 : decode cX8_isLetter 16 = .ok (.invokestatic 71, 3) := by decide +kernel
theorem dX8_isLetter_19 : decode cX8_isLetter 19 = .ok (.ifCond .eq 7, 3) := by decide +kernel
theorem dX8_isLetter_22 : decode cX8_isLetter 22 = .ok (.iconst 1, 1) := by decide +kernel
theorem dX8_isLetter_23 : decode cX8_isLetter 23 = .ok (.goto 4, 3) := by decide +kernel
theorem dX8_isLetter_26 : decode cX8_isLetter 26 = .ok (.iconst 0, 1) := by decide +kernel
theorem dX8_isLetter_27 : decode cX8_isLetter 27 = .ok (.ireturn, 1) := by decide +kernel
theorem dX8_isDigit_0 : decode cX8_isDigit 0 = .ok (.iload_n 0, 1) := by decide +kernel
theorem dX8_isDigit_1 : decode cX8_isDigit 1 = .ok (.bipush 48, 2) := by decide +kernel
theorem dX8_isDigit_3 : decode cX8_isDigit 3 = .ok (.bipush 57, 2) := by decide +kernel
theorem dX8_isDigit_5 : decode cX8_isDigit 5 = .ok (.invokestatic 71, 3) := by decide +kernel
theorem dX8_isDigit_8 : decode cX8_isDigit 8 = .ok (.ireturn, 1) := by decide +kernel
theorem dX8_word_0 : decode cX8_word 0 = .ok (.lload_n 0, 1) := by decide +kernel
theorem dX8_word_1 : decode cX8_word 1 = .ok (.ldc2_w 95, 3) := by decide +kernel
theorem dX8_word_4 : decode cX8_word 4 = .ok (.lcmp, 1) := by decide +kernel
theorem dX8_word_5 : decode cX8_word 5 = .ok (.ifCond .ne 5, 3) := by decide +kernel
theorem dX8_word_8 : decode cX8_word 8 = .ok (.iconst 3, 1) := by decide +kernel
theorem dX8_word_9 : decode cX8_word 9 = .ok (.ireturn, 1) := by decide +kernel
theorem dX8_word_10 : decode cX8_word 10 = .ok (.lload_n 0, 1) := by decide +kernel
theorem dX8_word_11 : decode cX8_word 11 = .ok (.ldc2_w 97, 3) := by decide +kernel
theorem dX8_word_14 : decode cX8_word 14 = .ok (.lcmp, 1) := by decide +kernel
theorem dX8_word_15 : decode cX8_word 15 = .ok (.ifCond .ne 5, 3) := by decide +kernel
theorem dX8_word_18 : decode cX8_word 18 = .ok (.iconst 4, 1) := by decide +kernel
theorem dX8_word_19 : decode cX8_word 19 = .ok (.ireturn, 1) := by decide +kernel
theorem dX8_word_20 : decode cX8_word 20 = .ok (.lload_n 0, 1) := by decide +kernel
theorem dX8_word_21 : decode cX8_word 21 = .ok (.ldc2_w 99, 3) := by decide +kernel
theorem dX8_word_24 : decode cX8_word 24 = .ok (.lcmp, 1) := by decide +kernel
theorem dX8_word_25 : decode cX8_word 25 = .ok (.ifCond .ne 5, 3) := by decide +kernel
theorem dX8_word_28 : decode cX8_word 28 = .ok (.iconst 5, 1) := by decide +kernel
theorem dX8_word_29 : decode cX8_word 29 = .ok (.ireturn, 1) := by decide +kernel
theorem dX8_word_30 : decode cX8_word 30 = .ok (.lload_n 0, 1) := by decide +kernel
theorem dX8_word_31 : decode cX8_word 31 = .ok (.ldc2_w 101, 3) := by decide +kernel
theorem dX8_word_34 : decode cX8_word 34 = .ok (.lcmp, 1) := by decide +kernel
theorem dX8_word_35 : decode cX8_word 35 = .ok (.ifCond .ne 8, 3) := by decide +kernel
theorem dX8_word_38 : decode cX8_word 38 = .ok (.bipush 6, 2) := by decide +kernel
theorem dX8_word_40 : decode cX8_word 40 = .ok (.goto 4, 3) := by decide +kernel
theorem dX8_word_43 : decode cX8_word 43 = .ok (.iconst 1, 1) := by decide +kernel
theorem dX8_word_44 : decode cX8_word 44 = .ok (.ireturn, 1) := by decide +kernel
theorem dX8_next0_0 : decode cX8_next0 0 = .ok (.aload_n 0, 1) := by decide +kernel
theorem dX8_next0_1 : decode cX8_next0 1 = .ok (.aload_n 0, 1) := by decide +kernel
theorem dX8_next0_2 : decode cX8_next0 2 = .ok (.getfield 103, 3) := by decide +kernel
theorem dX8_next0_5 : decode cX8_next0 5 = .ok (.invokevirtual 106, 3) := by decide +kernel
theorem dX8_next0_8 : decode cX8_next0 8 = .ok (.bipush 32, 2) := by decide +kernel
theorem dX8_next0_10 : decode cX8_next0 10 = .ok (.if_icmp .eq 16, 3) := by decide +kernel
theorem dX8_next0_13 : decode cX8_next0 13 = .ok (.aload_n 0, 1) := by decide +kernel
theorem dX8_next0_14 : decode cX8_next0 14 = .ok (.aload_n 0, 1) := by decide +kernel
theorem dX8_next0_15 : decode cX8_next0 15 = .ok (.getfield 103, 3) := by decide +kernel
theorem dX8_next0_18 : decode cX8_next0 18 = .ok (.invokevirtual 106, 3) := by decide +kernel
theorem dX8_next0_21 : decode cX8_next0 21 = .ok (.bipush 10, 2) := by decide +kernel
theorem dX8_next0_23 : decode cX8_next0 23 = .ok (.if_icmp .ne 16, 3) := by decide +kernel
theorem dX8_next0_26 : decode cX8_next0 26 = .ok (.aload_n 0, 1) := by decide +kernel
theorem dX8_next0_27 : decode cX8_next0 27 = .ok (.dup, 1) := by decide +kernel
theorem dX8_next0_28 : decode cX8_next0 28 = .ok (.getfield 103, 3) := by decide +kernel
theorem dX8_next0_31 : decode cX8_next0 31 = .ok (.iconst 1, 1) := by decide +kernel
theorem dX8_next0_32 : decode cX8_next0 32 = .ok (.iadd, 1) := by decide +kernel
theorem dX8_next0_33 : decode cX8_next0 33 = .ok (.putfield 103, 3) := by decide +kernel
theorem dX8_next0_36 : decode cX8_next0 36 = .ok (.goto (-36), 3) := by decide +kernel
theorem dX8_next0_39 : decode cX8_next0 39 = .ok (.aload_n 0, 1) := by decide +kernel
theorem dX8_next0_40 : decode cX8_next0 40 = .ok (.aload_n 0, 1) := by decide +kernel
theorem dX8_next0_41 : decode cX8_next0 41 = .ok (.getfield 103, 3) := by decide +kernel
theorem dX8_next0_44 : decode cX8_next0 44 = .ok (.putfield 109, 3) := by decide +kernel
theorem dX8_next0_47 : decode cX8_next0 47 = .ok (.aload_n 0, 1) := by decide +kernel
theorem dX8_next0_48 : decode cX8_next0 48 = .ok (.aload_n 0, 1) := by decide +kernel
theorem dX8_next0_49 : decode cX8_next0 49 = .ok (.getfield 103, 3) := by decide +kernel
theorem dX8_next0_52 : decode cX8_next0 52 = .ok (.invokevirtual 106, 3) := by decide +kernel
theorem dX8_next0_55 : decode cX8_next0 55 = .ok (.istore_n 1, 1) := by decide +kernel
theorem dX8_next0_56 : decode cX8_next0 56 = .ok (.iconst 0, 1) := by decide +kernel
theorem dX8_next0_57 : decode cX8_next0 57 = .ok (.istore_n 2, 1) := by decide +kernel
theorem dX8_next0_58 : decode cX8_next0 58 = .ok (.iload_n 1, 1) := by decide +kernel
theorem dX8_next0_59 : decode cX8_next0 59 = .ok (.iconst (-1), 1) := by decide +kernel
theorem dX8_next0_60 : decode cX8_next0 60 = .ok (.if_icmp .ne 11, 3) := by decide +kernel
theorem dX8_next0_63 : decode cX8_next0 63 = .ok (.aload_n 0, 1) := by decide +kernel
theorem dX8_next0_64 : decode cX8_next0 64 = .ok (.iconst 0, 1) := by decide +kernel
theorem dX8_next0_65 : decode cX8_next0 65 = .ok (.putfield 112, 3) := by decide +kernel
theorem dX8_next0_68 : decode cX8_next0 68 = .ok (.goto 194, 3) := by decide +kernel
theorem dX8_next0_71 : decode cX8_next0 71 = .ok (.iload_n 1, 1) := by decide +kernel
theorem dX8_next0_72 : decode cX8_next0 72 = .ok (.invokestatic 115, 3) := by decide +kernel
theorem dX8_next0_75 : decode cX8_next0 75 = .ok (.ifCond .eq 75, 3) := by decide +kernel
theorem dX8_next0_78 : decode cX8_next0 78 = .ok (.lconst 0, 1) := by decide +kernel
theorem dX8_next0_79 : decode cX8_next0 79 = .ok (.lstore_n 3, 1) := by decide +kernel
theorem dX8_next0_80 : decode cX8_next0 80 = .ok (.aload_n 0, 1) := by decide +kernel
theorem dX8_next0_81 : decode cX8_next0 81 = .ok (.aload_n 0, 1) := by decide +kernel
theorem dX8_next0_82 : decode cX8_next0 82 = .ok (.getfield 103, 3) := by decide +kernel
theorem dX8_next0_85 : decode cX8_next0 85 = .ok (.invokevirtual 106, 3) := by decide +kernel
theorem dX8_next0_88 : decode cX8_next0 88 = .ok (.invokestatic 115, 3) := by decide +kernel
theorem dX8_next0_91 : decode cX8_next0 91 = .ok (.ifCond .eq 39, 3) := by decide +kernel
theorem dX8_next0_94 : decode cX8_next0 94 = .ok (.iload_n 2, 1) := by decide +kernel
theorem dX8_next0_95 : decode cX8_next0 95 = .ok (.iconst 5, 1) := by decide +kernel
theorem dX8_next0_96 : decode cX8_next0 96 = .ok (.if_icmp .ge 18, 3) := by decide +kernel
theorem dX8_next0_99 : decode cX8_next0 99 = .ok (.lload_n 3, 1) := by decide +kernel
theorem dX8_next0_100 : decode cX8_next0 100 = .ok (.bipush 8, 2) := by decide +kernel
theorem dX8_next0_102 : decode cX8_next0 102 = .ok (.lshl, 1) := by decide +kernel
theorem dX8_next0_103 : decode cX8_next0 103 = .ok (.aload_n 0, 1) := by decide +kernel
theorem dX8_next0_104 : decode cX8_next0 104 = .ok (.aload_n 0, 1) := by decide +kernel
theorem dX8_next0_105 : decode cX8_next0 105 = .ok (.getfield 103, 3) := by decide +kernel
theorem dX8_next0_108 : decode cX8_next0 108 = .ok (.invokevirtual 106, 3) := by decide +kernel
theorem dX8_next0_111 : decode cX8_next0 111 = .ok (.i2l, 1) := by decide +kernel
theorem dX8_next0_112 : decode cX8_next0 112 = .ok (.lor, 1) := by decide +kernel
theorem dX8_next0_113 : decode cX8_next0 113 = .ok (.lstore_n 3, 1) := by decide +kernel
theorem dX8_next0_114 : decode cX8_next0 114 = .ok (.iinc 2 1, 3) := by decide +kernel
theorem dX8_next0_117 : decode cX8_next0 117 = .ok (.aload_n 0, 1) := by decide +kernel
theorem dX8_next0_118 : decode cX8_next0 118 = .ok (.dup, 1) := by decide +kernel
theorem dX8_next0_119 : decode cX8_next0 119 = .ok (.getfield 103, 3) := by decide +kernel
theorem dX8_next0_122 : decode cX8_next0 122 = .ok (.iconst 1, 1) := by decide +kernel
theorem dX8_next0_123 : decode cX8_next0 123 = .ok (.iadd, 1) := by decide +kernel
theorem dX8_next0_124 : decode cX8_next0 124 = .ok (.putfield 103, 3) := by decide +kernel
theorem dX8_next0_127 : decode cX8_next0 127 = .ok (.goto (-47), 3) := by decide +kernel
theorem dX8_next0_130 : decode cX8_next0 130 = .ok (.aload_n 0, 1) := by decide +kernel
theorem dX8_next0_131 : decode cX8_next0 131 = .ok (.iload_n 2, 1) := by decide +kernel
theorem dX8_next0_132 : decode cX8_next0 132 = .ok (.iconst 5, 1) := by decide +kernel
theorem dX8_next0_133 : decode cX8_next0 133 = .ok (.if_icmp .ge 10, 3) := by decide +kernel
theorem dX8_next0_136 : decode cX8_next0 136 = .ok (.lload_n 3, 1) := by decide +kernel
theorem dX8_next0_137 : decode cX8_next0 137 = .ok (.invokestatic 118, 3) := by decide +kernel
theorem dX8_next0_140 : decode cX8_next0 140 = .ok (.goto 4, 3) := by decide +kernel
theorem dX8_next0_143 : decode cX8_next0 143 = .ok (.iconst 1, 1) := by decide +kernel
theorem dX8_next0_144 : decode cX8_next0 144 = .ok (.putfield 112, 3) := by decide +kernel
theorem dX8_next0_147 : decode cX8_next0 147 = .ok (.goto 115, 3) := by decide +kernel
theorem dX8_next0_150 : decode cX8_next0 150 = .ok (.iload_n 1, 1) := by decide +kernel
theorem dX8_next0_151 : decode cX8_next0 151 = .ok (.invokestatic 122, 3) := by decide +kernel
theorem dX8_next0_154 : decode cX8_next0 154 = .ok (.ifCond .eq 83, 3) := by decide +kernel
theorem dX8_next0_157 : decode cX8_next0 157 = .ok (.aload_n 0, 1) := by decide +kernel
theorem dX8_next0_158 : decode cX8_next0 158 = .ok (.iconst 0, 1) := by decide +kernel
theorem dX8_next0_159 : decode cX8_next0 159 = .ok (.putfield 125, 3) := by decide +kernel
theorem dX8_next0_162 : decode cX8_next0 162 = .ok (.aload_n 0, 1) := by decide +kernel
theorem dX8_next0_163 : decode cX8_next0 163 = .ok (.aload_n 0, 1) := by decide +kernel
theorem dX8_next0_164 : decode cX8_next0 164 = .ok (.getfield 103, 3) := by decide +kernel
theorem dX8_next0_167 : decode cX8_next0 167 = .ok (.invokevirtual 106, 3) := by decide +kernel
theorem dX8_next0_170 : decode cX8_next0 170 = .ok (.invokestatic 122, 3) := by decide +kernel
theorem dX8_next0_173 : decode cX8_next0 173 = .ok (.ifCond .eq 47, 3) := by decide +kernel
theorem dX8_next0_176 : decode cX8_next0 176 = .ok (.iload_n 2, 1) := by decide +kernel
theorem dX8_next0_177 : decode cX8_next0 177 = .ok (.iconst 3, 1) := by decide +kernel
theorem dX8_next0_178 : decode cX8_next0 178 = .ok (.if_icmp .ge 26, 3) := by decide +kernel
theorem dX8_next0_181 : decode cX8_next0 181 = .ok (.aload_n 0, 1) := by decide +kernel
theorem dX8_next0_182 : decode cX8_next0 182 = .ok (.bipush 10, 2) := by decide +kernel
theorem dX8_next0_184 : decode cX8_next0 184 = .ok (.aload_n 0, 1) := by decide +kernel
theorem dX8_next0_185 : decode cX8_next0 185 = .ok (.getfield 125, 3) := by decide +kernel
theorem dX8_next0_188 : decode cX8_next0 188 = .ok (.imul, 1) := by decide +kernel
theorem dX8_next0_189 : decode cX8_next0 189 = .ok (.aload_n 0, 1) := by decide +kernel
theorem dX8_next0_190 : decode cX8_next0 190 = .ok (.aload_n 0, 1) := by decide +kernel
theorem dX8_next0_191 : decode cX8_next0 191 = .ok (.getfield 103, 3) := by decide +kernel
theorem dX8_next0_194 : decode cX8_next0 194 = .ok (.invokevirtual 106, 3) := by decide +kernel
theorem dX8_next0_197 : decode cX8_next0 197 = .ok (.iadd, 1) := by decide +kernel
theorem dX8_next0_198 : decode cX8_next0 198 = .ok (.bipush 48, 2) := by decide +kernel
theorem dX8_next0_200 : decode cX8_next0 200 = .ok (.isub, 1) := by decide +kernel
theorem dX8_next0_201 : decode cX8_next0 201 = .ok (.putfield 125, 3) := by decide +kernel
theorem dX8_next0_204 : decode cX8_next0 204 = .ok (.iinc 2 1, 3) := by decide +kernel
theorem dX8_next0_207 : decode cX8_next0 207 = .ok (.aload_n 0, 1) := by decide +kernel
theorem dX8_next0_208 : decode cX8_next0 208 = .ok (.dup, 1) := by decide +kernel
theorem dX8_next0_209 : decode cX8_next0 209 = .ok (.getfield 103, 3) := by decide +kernel
theorem dX8_next0_212 : decode cX8_next0 212 = .ok (.iconst 1, 1) := by decide +kernel
theorem dX8_next0_213 : decode cX8_next0 213 = .ok (.iadd, 1) := by decide +kernel
theorem dX8_next0_214 : decode cX8_next0 214 = .ok (.putfield 103, 3) := by decide +kernel
theorem dX8_next0_217 : decode cX8_next0 217 = .ok (.goto (-55), 3) := by decide +kernel
theorem dX8_next0_220 : decode cX8_next0 220 = .ok (.aload_n 0, 1) := by decide +kernel
theorem dX8_next0_221 : decode cX8_next0 221 = .ok (.iload_n 2, 1) := by decide +kernel
theorem dX8_next0_222 : decode cX8_next0 222 = .ok (.iconst 4, 1) := by decide +kernel
theorem dX8_next0_223 : decode cX8_next0 223 = .ok (.if_icmp .ge 7, 3) := by decide +kernel
theorem dX8_next0_226 : decode cX8_next0 226 = .ok (.iconst 2, 1) := by decide +kernel
theorem dX8_next0_227 : decode cX8_next0 227 = .ok (.goto 4, 3) := by decide +kernel
theorem dX8_next0_230 : decode cX8_next0 230 = .ok (.iconst 1, 1) := by decide +kernel
theorem dX8_next0_231 : decode cX8_next0 231 = .ok (.putfield 112, 3) := by decide +kernel
theorem dX8_next0_234 : decode cX8_next0 234 = .ok (.goto 28, 3) := by decide +kernel
theorem dX8_next0_237 : decode cX8_next0 237 = .ok (.aload_n 0, 1) := by decide +kernel
theorem dX8_next0_238 : decode cX8_next0 238 = .ok (.dup, 1) := by decide +kernel
theorem dX8_next0_239 : decode cX8_next0 239 = .ok (.getfield 103, 3) := by decide +kernel
theorem dX8_next0_242 : decode cX8_next0 242 = .ok (.iconst 1, 1) := by decide +kernel
theorem dX8_next0_243 : decode cX8_next0 243 = .ok (.iadd, 1) := by decide +kernel
theorem dX8_next0_244 : decode cX8_next0 244 = .ok (.putfield 103, 3) := by decide +kernel
theorem dX8_next0_247 : decode cX8_next0 247 = .ok (.aload_n 0, 1) := by decide +kernel
theorem dX8_next0_248 : decode cX8_next0 248 = .ok (.iload_n 1, 1) := by decide +kernel
theorem dX8_next0_249 : decode cX8_next0 249 = .ok (.bipush 59, 2) := by decide +kernel
theorem dX8_next0_251 : decode cX8_next0 251 = .ok (.if_icmp .ne 7, 3) := by decide +kernel
theorem dX8_next0_254 : decode cX8_next0 254 = .ok (.iload_n 1, 1) := by decide +kernel
theorem dX8_next0_255 : decode cX8_next0 255 = .ok (.goto 4, 3) := by decide +kernel
theorem dX8_next0_258 : decode cX8_next0 258 = .ok (.iconst 1, 1) := by decide +kernel
theorem dX8_next0_259 : decode cX8_next0 259 = .ok (.putfield 112, 3) := by decide +kernel
theorem dX8_next0_262 : decode cX8_next0 262 = .ok (.return_, 1) := by decide +kernel
theorem dX8_bad_0 : decode cX8_bad 0 = .ok (.aload_n 0, 1) := by decide +kernel
theorem dX8_bad_1 : decode cX8_bad 1 = .ok (.iload_n 1, 1) := by decide +kernel
theorem dX8_bad_2 : decode cX8_bad 2 = .ok (.putfield 128, 3) := by decide +kernel
theorem dX8_bad_5 : decode cX8_bad 5 = .ok (.aload_n 0, 1) := by decide +kernel
theorem dX8_bad_6 : decode cX8_bad 6 = .ok (.aload_n 0, 1) := by decide +kernel
theorem dX8_bad_7 : decode cX8_bad 7 = .ok (.getfield 109, 3) := by decide +kernel
theorem dX8_bad_10 : decode cX8_bad 10 = .ok (.putfield 131, 3) := by decide +kernel
theorem dX8_bad_13 : decode cX8_bad 13 = .ok (.iconst 0, 1) := by decide +kernel
theorem dX8_bad_14 : decode cX8_bad 14 = .ok (.ireturn, 1) := by decide +kernel
theorem dX8_need_0 : decode cX8_need 0 = .ok (.aload_n 0, 1) := by decide +kernel
theorem dX8_need_1 : decode cX8_need 1 = .ok (.getfield 112, 3) := by decide +kernel
theorem dX8_need_4 : decode cX8_need 4 = .ok (.iload_n 1, 1) := by decide +kernel
theorem dX8_need_5 : decode cX8_need 5 = .ok (.if_icmp .eq 9, 3) := by decide +kernel
theorem dX8_need_8 : decode cX8_need 8 = .ok (.aload_n 0, 1) := by decide +kernel
theorem dX8_need_9 : decode cX8_need 9 = .ok (.iconst 1, 1) := by decide +kernel
theorem dX8_need_10 : decode cX8_need 10 = .ok (.invokevirtual 134, 3) := by decide +kernel
theorem dX8_need_13 : decode cX8_need 13 = .ok (.ireturn, 1) := by decide +kernel
theorem dX8_need_14 : decode cX8_need 14 = .ok (.aload_n 0, 1) := by decide +kernel
theorem dX8_need_15 : decode cX8_need 15 = .ok (.invokevirtual 137, 3) := by decide +kernel
theorem dX8_need_18 : decode cX8_need 18 = .ok (.iconst 1, 1) := by decide +kernel
theorem dX8_need_19 : decode cX8_need 19 = .ok (.ireturn, 1) := by decide +kernel
theorem dX8_aNumber_0 : decode cX8_aNumber 0 = .ok (.aload_n 0, 1) := by decide +kernel
theorem dX8_aNumber_1 : decode cX8_aNumber 1 = .ok (.getfield 112, 3) := by decide +kernel
theorem dX8_aNumber_4 : decode cX8_aNumber 4 = .ok (.iconst 2, 1) := by decide +kernel
theorem dX8_aNumber_5 : decode cX8_aNumber 5 = .ok (.if_icmp .eq 9, 3) := by decide +kernel
theorem dX8_aNumber_8 : decode cX8_aNumber 8 = .ok (.aload_n 0, 1) := by decide +kernel
theorem dX8_aNumber_9 : decode cX8_aNumber 9 = .ok (.iconst 1, 1) := by decide +kernel
theorem dX8_aNumber_10 : decode cX8_aNumber 10 = .ok (.invokevirtual 134, 3) := by decide +kernel
theorem dX8_aNumber_13 : decode cX8_aNumber 13 = .ok (.ireturn, 1) := by decide +kernel
theorem dX8_aNumber_14 : decode cX8_aNumber 14 = .ok (.aload_n 0, 1) := by decide +kernel
theorem dX8_aNumber_15 : decode cX8_aNumber 15 = .ok (.getfield 125, 3) := by decide +kernel
theorem dX8_aNumber_18 : decode cX8_aNumber 18 = .ok (.iload_n 1, 1) := by decide +kernel
theorem dX8_aNumber_19 : decode cX8_aNumber 19 = .ok (.iload_n 2, 1) := by decide +kernel
theorem dX8_aNumber_20 : decode cX8_aNumber 20 = .ok (.invokestatic 71, 3) := by decide +kernel
theorem dX8_aNumber_23 : decode cX8_aNumber 23 = .ok (.ifCond .ne 9, 3) := by decide +kernel
theorem dX8_aNumber_26 : decode cX8_aNumber 26 = .ok (.aload_n 0, 1) := by decide +kernel
theorem dX8_aNumber_27 : decode cX8_aNumber 27 = .ok (.iconst 2, 1) := by decide +kernel
theorem dX8_aNumber_28 : decode cX8_aNumber 28 = .ok (.invokevirtual 134, 3) := by decide +kernel
theorem dX8_aNumber_31 : decode cX8_aNumber 31 = .ok (.ireturn, 1) := by decide +kernel
theorem dX8_aNumber_32 : decode cX8_aNumber 32 = .ok (.aload_n 0, 1) := by decide +kernel
theorem dX8_aNumber_33 : decode cX8_aNumber 33 = .ok (.aload_n 0, 1) := by decide +kernel
theorem dX8_aNumber_34 : decode cX8_aNumber 34 = .ok (.getfield 125, 3) := by decide +kernel
theorem dX8_aNumber_37 : decode cX8_aNumber 37 = .ok (.putfield 140, 3) := by decide +kernel
theorem dX8_aNumber_40 : decode cX8_aNumber 40 = .ok (.aload_n 0, 1) := by decide +kernel
theorem dX8_aNumber_41 : decode cX8_aNumber 41 = .ok (.invokevirtual 137, 3) := by decide +kernel
theorem dX8_aNumber_44 : decode cX8_aNumber 44 = .ok (.iconst 1, 1) := by decide +kernel
theorem dX8_aNumber_45 : decode cX8_aNumber 45 = .ok (.ireturn, 1) := by decide +kernel
theorem dX8_aZone_0 : decode cX8_aZone 0 = .ok (.aload_n 0, 1) := by decide +kernel
theorem dX8_aZone_1 : decode cX8_aZone 1 = .ok (.iconst 3, 1) := by decide +kernel
theorem dX8_aZone_2 : decode cX8_aZone 2 = .ok (.invokevirtual 143, 3) := by decide +kernel
theorem dX8_aZone_5 : decode cX8_aZone 5 = .ok (.ifCond .ne 5, 3) := by decide +kernel
theorem dX8_aZone_8 : decode cX8_aZone 8 = .ok (.iconst 0, 1) := by decide +kernel
theorem dX8_aZone_9 : decode cX8_aZone 9 = .ok (.ireturn, 1) := by decide +kernel
theorem dX8_aZone_10 : decode cX8_aZone 10 = .ok (.aload_n 0, 1) := by decide +kernel
theorem dX8_aZone_11 : decode cX8_aZone 11 = .ok (.getfield 112, 3) := by decide +kernel
theorem dX8_aZone_14 : decode cX8_aZone 14 = .ok (.iconst 2, 1) := by decide +kernel
theorem dX8_aZone_15 : decode cX8_aZone 15 = .ok (.if_icmp .ne 32, 3) := by decide +kernel
theorem dX8_aZone_18 : decode cX8_aZone 18 = .ok (.aload_n 0, 1) := by decide +kernel
theorem dX8_aZone_19 : decode cX8_aZone 19 = .ok (.getfield 125, 3) := by decide +kernel
theorem dX8_aZone_22 : decode cX8_aZone 22 = .ok (.invokestatic 82, 3) := by decide +kernel
theorem dX8_aZone_25 : decode cX8_aZone 25 = .ok (.ifCond .eq 22, 3) := by decide +kernel
theorem dX8_aZone_28 : decode cX8_aZone 28 = .ok (.aload_n 0, 1) := by decide +kernel
theorem dX8_aZone_29 : decode cX8_aZone 29 = .ok (.getfield 34, 3) := by decide +kernel
theorem dX8_aZone_32 : decode cX8_aZone 32 = .ok (.aload_n 0, 1) := by decide +kernel
theorem dX8_aZone_33 : decode cX8_aZone 33 = .ok (.getfield 125, 3) := by decide +kernel
theorem dX8_aZone_36 : decode cX8_aZone 36 = .ok (.iaload, 1) := by decide +kernel
theorem dX8_aZone_37 : decode cX8_aZone 37 = .ok (.iconst 4, 1) := by decide +kernel
theorem dX8_aZone_38 : decode cX8_aZone 38 = .ok (.if_icmp .ne 9, 3) := by decide +kernel
theorem dX8_aZone_41 : decode cX8_aZone 41 = .ok (.aload_n 0, 1) := by decide +kernel
theorem dX8_aZone_42 : decode cX8_aZone 42 = .ok (.iconst 3, 1) := by decide +kernel
theorem dX8_aZone_43 : decode cX8_aZone 43 = .ok (.invokevirtual 134, 3) := by decide +kernel
theorem dX8_aZone_46 : decode cX8_aZone 46 = .ok (.ireturn, 1) := by decide +kernel
theorem dX8_aZone_47 : decode cX8_aZone 47 = .ok (.aload_n 0, 1) := by decide +kernel
theorem dX8_aZone_48 : decode cX8_aZone 48 = .ok (.iconst 0, 1) := by decide +kernel
theorem dX8_aZone_49 : decode cX8_aZone 49 = .ok (.bipush 6, 2) := by decide +kernel
theorem dX8_aZone_51 : decode cX8_aZone 51 = .ok (.invokevirtual 146, 3) := by decide +kernel
theorem dX8_aZone_54 : decode cX8_aZone 54 = .ok (.ifCond .ne 5, 3) := by decide +kernel
theorem dX8_aZone_57 : decode cX8_aZone 57 = .ok (.iconst 0, 1) := by decide +kernel
theorem dX8_aZone_58 : decode cX8_aZone 58 = .ok (.ireturn, 1) := by decide +kernel
theorem dX8_aZone_59 : decode cX8_aZone 59 = .ok (.aload_n 0, 1) := by decide +kernel
theorem dX8_aZone_60 : decode cX8_aZone 60 = .ok (.getfield 140, 3) := by decide +kernel
theorem dX8_aZone_63 : decode cX8_aZone 63 = .ok (.istore_n 1, 1) := by decide +kernel
theorem dX8_aZone_64 : decode cX8_aZone 64 = .ok (.bipush 12, 2) := by decide +kernel
theorem dX8_aZone_66 : decode cX8_aZone 66 = .ok (.iload_n 1, 1) := by decide +kernel
theorem dX8_aZone_67 : decode cX8_aZone 67 = .ok (.imul, 1) := by decide +kernel
theorem dX8_aZone_68 : decode cX8_aZone 68 = .ok (.iconst 3, 1) := by decide +kernel
theorem dX8_aZone_69 : decode cX8_aZone 69 = .ok (.aload_n 0, 1) := by decide +kernel
theorem dX8_aZone_70 : decode cX8_aZone 70 = .ok (.getfield 34, 3) := by decide +kernel
theorem dX8_aZone_73 : decode cX8_aZone 73 = .ok (.iload_n 1, 1) := by decide +kernel
theorem dX8_aZone_74 : decode cX8_aZone 74 = .ok (.iaload, 1) := by decide +kernel
theorem dX8_aZone_75 : decode cX8_aZone 75 = .ok (.imul, 1) := by decide +kernel
theorem dX8_aZone_76 : decode cX8_aZone 76 = .ok (.iadd, 1) := by decide +kernel
theorem dX8_aZone_77 : decode cX8_aZone 77 = .ok (.istore_n 2, 1) := by decide +kernel
theorem dX8_aZone_78 : decode cX8_aZone 78 = .ok (.aload_n 0, 1) := by decide +kernel
theorem dX8_aZone_79 : decode cX8_aZone 79 = .ok (.iconst 4, 1) := by decide +kernel
theorem dX8_aZone_80 : decode cX8_aZone 80 = .ok (.invokevirtual 143, 3) := by decide +kernel
theorem dX8_aZone_83 : decode cX8_aZone 83 = .ok (.ifCond .eq 34, 3) := by decide +kernel
theorem dX8_aZone_86 : decode cX8_aZone 86 = .ok (.aload_n 0, 1) := by decide +kernel
theorem dX8_aZone_87 : decode cX8_aZone 87 = .ok (.aload_n 0, 1) := by decide +kernel
theorem dX8_aZone_88 : decode cX8_aZone 88 = .ok (.getfield 34, 3) := by decide +kernel
theorem dX8_aZone_91 : decode cX8_aZone 91 = .ok (.iload_n 1, 1) := by decide +kernel
theorem dX8_aZone_92 : decode cX8_aZone 92 = .ok (.iaload, 1) := by decide +kernel
theorem dX8_aZone_93 : decode cX8_aZone 93 = .ok (.ifCond .ne 7, 3) := by decide +kernel
theorem dX8_aZone_96 : decode cX8_aZone 96 = .ok (.iconst 0, 1) := by decide +kernel
theorem dX8_aZone_97 : decode cX8_aZone 97 = .ok (.goto 11, 3) := by decide +kernel
theorem dX8_aZone_100 : decode cX8_aZone 100 = .ok (.aload_n 0, 1) := by decide +kernel
theorem dX8_aZone_101 : decode cX8_aZone 101 = .ok (.getfield 37, 3) := by decide +kernel
theorem dX8_aZone_104 : decode cX8_aZone 104 = .ok (.iload_n 2, 1) := by decide +kernel
theorem dX8_aZone_105 : decode cX8_aZone 105 = .ok (.iconst 2, 1) := by decide +kernel
theorem dX8_aZone_106 : decode cX8_aZone 106 = .ok (.isub, 1) := by decide +kernel
theorem dX8_aZone_107 : decode cX8_aZone 107 = .ok (.iaload, 1) := by decide +kernel
theorem dX8_aZone_108 : decode cX8_aZone 108 = .ok (.sipush 899, 3) := by decide +kernel
theorem dX8_aZone_111 : decode cX8_aZone 111 = .ok (.invokevirtual 146, 3) := by decide +kernel
theorem dX8_aZone_114 : decode cX8_aZone 114 = .ok (.ifCond .ne 5, 3) := by decide +kernel
theorem dX8_aZone_117 : decode cX8_aZone 117 = .ok (.iconst 0, 1) := by decide +kernel
theorem dX8_aZone_118 : decode cX8_aZone 118 = .ok (.ireturn, 1) := by decide +kernel
theorem dX8_aZone_119 : decode cX8_aZone 119 = .ok (.aload_n 0, 1) := by decide +kernel
theorem dX8_aZone_120 : decode cX8_aZone 120 = .ok (.getfield 37, 3) := by decide +kernel
theorem dX8_aZone_123 : decode cX8_aZone 123 = .ok (.iload_n 2, 1) := by decide +kernel
theorem dX8_aZone_124 : decode cX8_aZone 124 = .ok (.aload_n 0, 1) := by decide +kernel
theorem dX8_aZone_125 : decode cX8_aZone 125 = .ok (.getfield 140, 3) := by decide +kernel
theorem dX8_aZone_128 : decode cX8_aZone 128 = .ok (.iastore, 1) := by decide +kernel
theorem dX8_aZone_129 : decode cX8_aZone 129 = .ok (.aload_n 0, 1) := by decide +kernel
theorem dX8_aZone_130 : decode cX8_aZone 130 = .ok (.iconst 5, 1) := by decide +kernel
theorem dX8_aZone_131 : decode cX8_aZone 131 = .ok (.invokevirtual 143, 3) := by decide +kernel
theorem dX8_aZone_134 : decode cX8_aZone 134 = .ok (.ifCond .eq 21, 3) := by decide +kernel
theorem dX8_aZone_137 : decode cX8_aZone 137 = .ok (.aload_n 0, 1) := by decide +kernel
theorem dX8_aZone_138 : decode cX8_aZone 138 = .ok (.aload_n 0, 1) := by decide +kernel
theorem dX8_aZone_139 : decode cX8_aZone 139 = .ok (.getfield 37, 3) := by decide +kernel
theorem dX8_aZone_142 : decode cX8_aZone 142 = .ok (.iload_n 2, 1) := by decide +kernel
theorem dX8_aZone_143 : decode cX8_aZone 143 = .ok (.iaload, 1) := by decide +kernel
theorem dX8_aZone_144 : decode cX8_aZone 144 = .ok (.iconst 1, 1) := by decide +kernel
theorem dX8_aZone_145 : decode cX8_aZone 145 = .ok (.iadd, 1) := by decide +kernel
theorem dX8_aZone_146 : decode cX8_aZone 146 = .ok (.sipush 900, 3) := by decide +kernel
theorem dX8_aZone_149 : decode cX8_aZone 149 = .ok (.invokevirtual 146, 3) := by decide +kernel
theorem dX8_aZone_152 : decode cX8_aZone 152 = .ok (.ifCond .ne 5, 3) := by decide +kernel
theorem dX8_aZone_155 : decode cX8_aZone 155 = .ok (.iconst 0, 1) := by decide +kernel
theorem dX8_aZone_156 : decode cX8_aZone 156 = .ok (.ireturn, 1) := by decide +kernel
theorem dX8_aZone_157 : decode cX8_aZone 157 = .ok (.aload_n 0, 1) := by decide +kernel
theorem dX8_aZone_158 : decode cX8_aZone 158 = .ok (.getfield 37, 3) := by decide +kernel
theorem dX8_aZone_161 : decode cX8_aZone 161 = .ok (.iload_n 2, 1) := by decide +kernel
theorem dX8_aZone_162 : decode cX8_aZone 162 = .ok (.iconst 1, 1) := by decide +kernel
theorem dX8_aZone_163 : decode cX8_aZone 163 = .ok (.iadd, 1) := by decide +kernel
theorem dX8_aZone_164 : decode cX8_aZone 164 = .ok (.aload_n 0, 1) := by decide +kernel
theorem dX8_aZone_165 : decode cX8_aZone 165 = .ok (.getfield 140, 3) := by decide +kernel
theorem dX8_aZone_168 : decode cX8_aZone 168 = .ok (.iastore, 1) := by decide +kernel
theorem dX8_aZone_169 : decode cX8_aZone 169 = .ok (.aload_n 0, 1) := by decide +kernel
theorem dX8_aZone_170 : decode cX8_aZone 170 = .ok (.bipush 6, 2) := by decide +kernel
theorem dX8_aZone_172 : decode cX8_aZone 172 = .ok (.invokevirtual 143, 3) := by decide +kernel
theorem dX8_aZone_175 : decode cX8_aZone 175 = .ok (.ifCond .eq 14, 3) := by decide +kernel
theorem dX8_aZone_178 : decode cX8_aZone 178 = .ok (.aload_n 0, 1) := by decide +kernel
theorem dX8_aZone_179 : decode cX8_aZone 179 = .ok (.bipush 10, 2) := by decide +kernel
theorem dX8_aZone_181 : decode cX8_aZone 181 = .ok (.bipush 99, 2) := by decide +kernel
theorem dX8_aZone_183 : decode cX8_aZone 183 = .ok (.invokevirtual 146, 3) := by decide +kernel
theorem dX8_aZone_186 : decode cX8_aZone 186 = .ok (.ifCond .ne 5, 3) := by decide +kernel
theorem dX8_aZone_189 : decode cX8_aZone 189 = .ok (.iconst 0, 1) := by decide +kernel
theorem dX8_aZone_190 : decode cX8_aZone 190 = .ok (.ireturn, 1) := by decide +kernel
theorem dX8_aZone_191 : decode cX8_aZone 191 = .ok (.aload_n 0, 1) := by decide +kernel
theorem dX8_aZone_192 : decode cX8_aZone 192 = .ok (.getfield 37, 3) := by decide +kernel
theorem dX8_aZone_195 : decode cX8_aZone 195 = .ok (.iload_n 2, 1) := by decide +kernel
theorem dX8_aZone_196 : decode cX8_aZone 196 = .ok (.iconst 2, 1) := by decide +kernel
theorem dX8_aZone_197 : decode cX8_aZone 197 = .ok (.iadd, 1) := by decide +kernel
theorem dX8_aZone_198 : decode cX8_aZone 198 = .ok (.aload_n 0, 1) := by decide +kernel
theorem dX8_aZone_199 : decode cX8_aZone 199 = .ok (.getfield 140, 3) := by decide +kernel
theorem dX8_aZone_202 : decode cX8_aZone 202 = .ok (.iastore, 1) := by decide +kernel
theorem dX8_aZone_203 : decode cX8_aZone 203 = .ok (.aload_n 0, 1) := by decide +kernel
theorem dX8_aZone_204 : decode cX8_aZone 204 = .ok (.getfield 34, 3) := by decide +kernel
theorem dX8_aZone_207 : decode cX8_aZone 207 = .ok (.iload_n 1, 1) := by decide +kernel
theorem dX8_aZone_208 : decode cX8_aZone 208 = .ok (.dup2, 1) := by decide +kernel
theorem dX8_aZone_209 : decode cX8_aZone 209 = .ok (.iaload, 1) := by decide +kernel
theorem dX8_aZone_210 : decode cX8_aZone 210 = .ok (.iconst 1, 1) := by decide +kernel
theorem dX8_aZone_211 : decode cX8_aZone 211 = .ok (.iadd, 1) := by decide +kernel
theorem dX8_aZone_212 : decode cX8_aZone 212 = .ok (.iastore, 1) := by decide +kernel
theorem dX8_aZone_213 : decode cX8_aZone 213 = .ok (.aload_n 0, 1) := by decide +kernel
theorem dX8_aZone_214 : decode cX8_aZone 214 = .ok (.bipush 59, 2) := by decide +kernel
theorem dX8_aZone_216 : decode cX8_aZone 216 = .ok (.invokevirtual 143, 3) := by decide +kernel
theorem dX8_aZone_219 : decode cX8_aZone 219 = .ok (.ireturn, 1) := by decide +kernel
theorem dX8_book_0 : decode cX8_book 0 = .ok (.aload_n 0, 1) := by decide +kernel
theorem dX8_book_1 : decode cX8_book 1 = .ok (.iconst 0, 1) := by decide +kernel
theorem dX8_book_2 : decode cX8_book 2 = .ok (.putfield 128, 3) := by decide +kernel
theorem dX8_book_5 : decode cX8_book 5 = .ok (.aload_n 0, 1) := by decide +kernel
theorem dX8_book_6 : decode cX8_book 6 = .ok (.iconst 0, 1) := by decide +kernel
theorem dX8_book_7 : decode cX8_book 7 = .ok (.putfield 103, 3) := by decide +kernel
theorem dX8_book_10 : decode cX8_book 10 = .ok (.iconst 0, 1) := by decide +kernel
theorem dX8_book_11 : decode cX8_book 11 = .ok (.istore_n 1, 1) := by decide +kernel
theorem dX8_book_12 : decode cX8_book 12 = .ok (.iload_n 1, 1) := by decide +kernel
theorem dX8_book_13 : decode cX8_book 13 = .ok (.bipush 7, 2) := by decide +kernel
theorem dX8_book_15 : decode cX8_book 15 = .ok (.if_icmp .ge 16, 3) := by decide +kernel
theorem dX8_book_18 : decode cX8_book 18 = .ok (.aload_n 0, 1) := by decide +kernel
theorem dX8_book_19 : decode cX8_book 19 = .ok (.getfield 34, 3) := by decide +kernel
theorem dX8_book_22 : decode cX8_book 22 = .ok (.iload_n 1, 1) := by decide +kernel
theorem dX8_book_23 : decode cX8_book 23 = .ok (.iconst 0, 1) := by decide +kernel
theorem dX8_book_24 : decode cX8_book 24 = .ok (.iastore, 1) := by decide +kernel
theorem dX8_book_25 : decode cX8_book 25 = .ok (.iinc 1 1, 3) := by decide +kernel
theorem dX8_book_28 : decode cX8_book 28 = .ok (.goto (-16), 3) := by decide +kernel
theorem dX8_book_31 : decode cX8_book 31 = .ok (.aload_n 0, 1) := by decide +kernel
theorem dX8_book_32 : decode cX8_book 32 = .ok (.invokevirtual 137, 3) := by decide +kernel
theorem dX8_book_35 : decode cX8_book 35 = .ok (.iconst 1, 1) := by decide +kernel
theorem dX8_book_36 : decode cX8_book 36 = .ok (.istore_n 1, 1) := by decide +kernel
theorem dX8_book_37 : decode cX8_book 37 = .ok (.iload_n 1, 1) := by decide +kernel
theorem dX8_book_38 : decode cX8_book 38 = .ok (.ifCond .eq 18, 3) := by decide +kernel
theorem dX8_book_41 : decode cX8_book 41 = .ok (.aload_n 0, 1) := by decide +kernel
theorem dX8_book_42 : decode cX8_book 42 = .ok (.getfield 112, 3) := by decide +kernel
theorem dX8_book_45 : decode cX8_book 45 = .ok (.ifCond .eq 11, 3) := by decide +kernel
theorem dX8_book_48 : decode cX8_book 48 = .ok (.aload_n 0, 1) := by decide +kernel
theorem dX8_book_49 : decode cX8_book 49 = .ok (.invokevirtual 150, 3) := by decide +kernel
theorem dX8_book_52 : decode cX8_book 52 = .ok (.istore_n 1, 1) := by decide +kernel
theorem dX8_book_53 : decode cX8_book 53 = .ok (.goto (-16), 3) := by decide +kernel
theorem dX8_book_56 : decode cX8_book 56 = .ok (.aload_n 0, 1) := by decide +kernel
theorem dX8_book_57 : decode cX8_book 57 = .ok (.iconst 0, 1) := by decide +kernel
theorem dX8_book_58 : decode cX8_book 58 = .ok (.putfield 92, 3) := by decide +kernel
theorem dX8_book_61 : decode cX8_book 61 = .ok (.aload_n 0, 1) := by decide +kernel
theorem dX8_book_62 : decode cX8_book 62 = .ok (.aload_n 0, 1) := by decide +kernel
theorem dX8_book_63 : decode cX8_book 63 = .ok (.getfield 128, 3) := by decide +kernel
theorem dX8_book_66 : decode cX8_book 66 = .ok (.putfield 154, 3) := by decide +kernel
theorem dX8_book_69 : decode cX8_book 69 = .ok (.aload_n 0, 1) := by decide +kernel
theorem dX8_book_70 : decode cX8_book 70 = .ok (.iload_n 1, 1) := by decide +kernel
theorem dX8_book_71 : decode cX8_book 71 = .ok (.ifCond .eq 7, 3) := by decide +kernel
theorem dX8_book_74 : decode cX8_book 74 = .ok (.iconst (-1), 1) := by decide +kernel
theorem dX8_book_75 : decode cX8_book 75 = .ok (.goto 7, 3) := by decide +kernel
theorem dX8_book_78 : decode cX8_book 78 = .ok (.aload_n 0, 1) := by decide +kernel
theorem dX8_book_79 : decode cX8_book 79 = .ok (.getfield 131, 3) := by decide +kernel
theorem dX8_book_82 : decode cX8_book 82 = .ok (.putfield 43, 3) := by decide +kernel
theorem dX8_book_85 : decode cX8_book 85 = .ok (.iload_n 1, 1) := by decide +kernel
theorem dX8_book_86 : decode cX8_book 86 = .ok (.ifCond .ne 5, 3) := by decide +kernel
theorem dX8_book_89 : decode cX8_book 89 = .ok (.iconst (-1), 1) := by decide +kernel
theorem dX8_book_90 : decode cX8_book 90 = .ok (.ireturn, 1) := by decide +kernel
theorem dX8_book_91 : decode cX8_book 91 = .ok (.iconst 0, 1) := by decide +kernel
theorem dX8_book_92 : decode cX8_book 92 = .ok (.istore_n 2, 1) := by decide +kernel
theorem dX8_book_93 : decode cX8_book 93 = .ok (.iload_n 2, 1) := by decide +kernel
theorem dX8_book_94 : decode cX8_book 94 = .ok (.bipush 7, 2) := by decide +kernel
theorem dX8_book_96 : decode cX8_book 96 = .ok (.if_icmp .ge 21, 3) := by decide +kernel
theorem dX8_book_99 : decode cX8_book 99 = .ok (.aload_n 0, 1) := by decide +kernel
theorem dX8_book_100 : decode cX8_book 100 = .ok (.getfield 28, 3) := by decide +kernel
theorem dX8_book_103 : decode cX8_book 103 = .ok (.iload_n 2, 1) := by decide +kernel
theorem dX8_book_104 : decode cX8_book 104 = .ok (.aload_n 0, 1) := by decide +kernel
theorem dX8_book_105 : decode cX8_book 105 = .ok (.getfield 34, 3) := by decide +kernel
theorem dX8_book_108 : decode cX8_book 108 = .ok (.iload_n 2, 1) := by decide +kernel
theorem dX8_book_109 : decode cX8_book 109 = .ok (.iaload, 1) := by decide +kernel
theorem dX8_book_110 : decode cX8_book 110 = .ok (.iastore, 1) := by decide +kernel
theorem dX8_book_111 : decode cX8_book 111 = .ok (.iinc 2 1, 3) := by decide +kernel
theorem dX8_book_114 : decode cX8_book 114 = .ok (.goto (-21), 3) := by decide +kernel
theorem dX8_book_117 : decode cX8_book 117 = .ok (.iconst 0, 1) := by decide +kernel
theorem dX8_book_118 : decode cX8_book 118 = .ok (.istore_n 2, 1) := by decide +kernel
theorem dX8_book_119 : decode cX8_book 119 = .ok (.iload_n 2, 1) := by decide +kernel
theorem dX8_book_120 : decode cX8_book 120 = .ok (.bipush 84, 2) := by decide +kernel
theorem dX8_book_122 : decode cX8_book 122 = .ok (.if_icmp .ge 21, 3) := by decide +kernel
theorem dX8_book_125 : decode cX8_book 125 = .ok (.aload_n 0, 1) := by decide +kernel
theorem dX8_book_126 : decode cX8_book 126 = .ok (.getfield 31, 3) := by decide +kernel
theorem dX8_book_129 : decode cX8_book 129 = .ok (.iload_n 2, 1) := by decide +kernel
theorem dX8_book_130 : decode cX8_book 130 = .ok (.aload_n 0, 1) := by decide +kernel
theorem dX8_book_131 : decode cX8_book 131 = .ok (.getfield 37, 3) := by decide +kernel
theorem dX8_book_134 : decode cX8_book 134 = .ok (.iload_n 2, 1) := by decide +kernel
theorem dX8_book_135 : decode cX8_book 135 = .ok (.iaload, 1) := by decide +kernel
theorem dX8_book_136 : decode cX8_book 136 = .ok (.iastore, 1) := by decide +kernel
theorem dX8_book_137 : decode cX8_book 137 = .ok (.iinc 2 1, 3) := by decide +kernel
theorem dX8_book_140 : decode cX8_book 140 = .ok (.goto (-21), 3) := by decide +kernel
theorem dX8_book_143 : decode cX8_book 143 = .ok (.aload_n 0, 1) := by decide +kernel
theorem dX8_book_144 : decode cX8_book 144 = .ok (.invokevirtual 157, 3) := by decide +kernel
theorem dX8_book_147 : decode cX8_book 147 = .ok (.ireturn, 1) := by decide +kernel
theorem dX8_all_0 : decode cX8_all 0 = .ok (.iconst 0, 1) := by decide +kernel
theorem dX8_all_1 : decode cX8_all 1 = .ok (.istore_n 1, 1) := by decide +kernel
theorem dX8_all_2 : decode cX8_all 2 = .ok (.iconst 0, 1) := by decide +kernel
theorem dX8_all_3 : decode cX8_all 3 = .ok (.istore_n 2, 1) := by decide +kernel
theorem dX8_all_4 : decode cX8_all 4 = .ok (.iload_n 2, 1) := by decide +kernel
theorem dX8_all_5 : decode cX8_all 5 = .ok (.bipush 7, 2) := by decide +kernel
theorem dX8_all_7 : decode cX8_all 7 = .ok (.if_icmp .ge 18, 3) := by decide +kernel
theorem dX8_all_10 : decode cX8_all 10 = .ok (.iload_n 1, 1) := by decide +kernel
theorem dX8_all_11 : decode cX8_all 11 = .ok (.aload_n 0, 1) := by decide +kernel
theorem dX8_all_12 : decode cX8_all 12 = .ok (.getfield 28, 3) := by decide +kernel
theorem dX8_all_15 : decode cX8_all 15 = .ok (.iload_n 2, 1) := by decide +kernel
theorem dX8_all_16 : decode cX8_all 16 = .ok (.iaload, 1) := by decide +kernel
theorem dX8_all_17 : decode cX8_all 17 = .ok (.iadd, 1) := by decide +kernel
theorem dX8_all_18 : decode cX8_all 18 = .ok (.istore_n 1, 1) := by decide +kernel
theorem dX8_all_19 : decode cX8_all 19 = .ok (.iinc 2 1, 3) := by decide +kernel
theorem dX8_all_22 : decode cX8_all 22 = .ok (.goto (-18), 3) := by decide +kernel
theorem dX8_all_25 : decode cX8_all 25 = .ok (.iload_n 1, 1) := by decide +kernel
theorem dX8_all_26 : decode cX8_all 26 = .ok (.ireturn, 1) := by decide +kernel
theorem dX8_fault_0 : decode cX8_fault 0 = .ok (.iload_n 1, 1) := by decide +kernel
theorem dX8_fault_1 : decode cX8_fault 1 = .ok (.ifCond .ne 10, 3) := by decide +kernel
theorem dX8_fault_4 : decode cX8_fault 4 = .ok (.aload_n 0, 1) := by decide +kernel
theorem dX8_fault_5 : decode cX8_fault 5 = .ok (.getfield 154, 3) := by decide +kernel
theorem dX8_fault_8 : decode cX8_fault 8 = .ok (.goto 16, 3) := by decide +kernel
theorem dX8_fault_11 : decode cX8_fault 11 = .ok (.iload_n 1, 1) := by decide +kernel
theorem dX8_fault_12 : decode cX8_fault 12 = .ok (.iconst 1, 1) := by decide +kernel
theorem dX8_fault_13 : decode cX8_fault 13 = .ok (.if_icmp .ne 10, 3) := by decide +kernel
theorem dX8_fault_16 : decode cX8_fault 16 = .ok (.aload_n 0, 1) := by decide +kernel
theorem dX8_fault_17 : decode cX8_fault 17 = .ok (.getfield 43, 3) := by decide +kernel
theorem dX8_fault_20 : decode cX8_fault 20 = .ok (.goto 4, 3) := by decide +kernel
theorem dX8_fault_23 : decode cX8_fault 23 = .ok (.iconst (-1), 1) := by decide +kernel
theorem dX8_fault_24 : decode cX8_fault 24 = .ok (.ireturn, 1) := by decide +kernel
theorem dX8_look_0 : decode cX8_look 0 = .ok (.iconst 0, 1) := by decide +kernel
theorem dX8_look_1 : decode cX8_look 1 = .ok (.istore_n 2, 1) := by decide +kernel
theorem dX8_look_2 : decode cX8_look 2 = .ok (.iload_n 1, 1) := by decide +kernel
theorem dX8_look_3 : decode cX8_look 3 = .ok (.tableswitch 60 0 2 #[25, 30, 35], 25) := by decide +kernel
theorem dX8_look_28 : decode cX8_look 28 = .ok (.aload_n 0, 1) := by decide +kernel
theorem dX8_look_29 : decode cX8_look 29 = .ok (.getfield 75, 3) := by decide +kernel
theorem dX8_look_32 : decode cX8_look 32 = .ok (.ireturn, 1) := by decide +kernel
theorem dX8_look_33 : decode cX8_look 33 = .ok (.aload_n 0, 1) := by decide +kernel
theorem dX8_look_34 : decode cX8_look 34 = .ok (.invokevirtual 157, 3) := by decide +kernel
theorem dX8_look_37 : decode cX8_look 37 = .ok (.ireturn, 1) := by decide +kernel
theorem dX8_look_38 : decode cX8_look 38 = .ok (.iconst 1, 1) := by decide +kernel
theorem dX8_look_39 : decode cX8_look 39 = .ok (.istore_n 3, 1) := by decide +kernel
theorem dX8_look_40 : decode cX8_look 40 = .ok (.iload_n 3, 1) := by decide +kernel
theorem dX8_look_41 : decode cX8_look 41 = .ok (.bipush 8, 2) := by decide +kernel
theorem dX8_look_43 : decode cX8_look 43 = .ok (.if_icmp .ge 18, 3) := by decide +kernel
theorem dX8_look_46 : decode cX8_look 46 = .ok (.iload_n 2, 1) := by decide +kernel
theorem dX8_look_47 : decode cX8_look 47 = .ok (.aload_n 0, 1) := by decide +kernel
theorem dX8_look_48 : decode cX8_look 48 = .ok (.getfield 7, 3) := by decide +kernel
theorem dX8_look_51 : decode cX8_look 51 = .ok (.iload_n 3, 1) := by decide +kernel
theorem dX8_look_52 : decode cX8_look 52 = .ok (.iaload, 1) := by decide +kernel
theorem dX8_look_53 : decode cX8_look 53 = .ok (.iadd, 1) := by decide +kernel
theorem dX8_look_54 : decode cX8_look 54 = .ok (.istore_n 2, 1) := by decide +kernel
theorem dX8_look_55 : decode cX8_look 55 = .ok (.iinc 3 1, 3) := by decide +kernel
theorem dX8_look_58 : decode cX8_look 58 = .ok (.goto (-18), 3) := by decide +kernel
theorem dX8_look_61 : decode cX8_look 61 = .ok (.iload_n 2, 1) := by decide +kernel
theorem dX8_look_62 : decode cX8_look 62 = .ok (.ireturn, 1) := by decide +kernel
theorem dX8_look_63 : decode cX8_look 63 = .ok (.iload_n 1, 1) := by decide +kernel
theorem dX8_look_64 : decode cX8_look 64 = .ok (.iconst 3, 1) := by decide +kernel
theorem dX8_look_65 : decode cX8_look 65 = .ok (.bipush 7, 2) := by decide +kernel
theorem dX8_look_67 : decode cX8_look 67 = .ok (.invokestatic 71, 3) := by decide +kernel
theorem dX8_look_70 : decode cX8_look 70 = .ok (.ifCond .eq 14, 3) := by decide +kernel
theorem dX8_look_73 : decode cX8_look 73 = .ok (.aload_n 0, 1) := by decide +kernel
theorem dX8_look_74 : decode cX8_look 74 = .ok (.getfield 25, 3) := by decide +kernel
theorem dX8_look_77 : decode cX8_look 77 = .ok (.iload_n 1, 1) := by decide +kernel
theorem dX8_look_78 : decode cX8_look 78 = .ok (.iconst 3, 1) := by decide +kernel
theorem dX8_look_79 : decode cX8_look 79 = .ok (.isub, 1) := by decide +kernel
theorem dX8_look_80 : decode cX8_look 80 = .ok (.iaload, 1) := by decide +kernel
theorem dX8_look_81 : decode cX8_look 81 = .ok (.goto 4, 3) := by decide +kernel
theorem dX8_look_84 : decode cX8_look 84 = .ok (.iconst (-1), 1) := by decide +kernel
theorem dX8_look_85 : decode cX8_look 85 = .ok (.ireturn, 1) := by decide +kernel
theorem dX8_lesser_0 : decode cX8_lesser 0 = .ok (.iload_n 0, 1) := by decide +kernel
theorem dX8_lesser_1 : decode cX8_lesser 1 = .ok (.iload_n 1, 1) := by decide +kernel
theorem dX8_lesser_2 : decode cX8_lesser 2 = .ok (.if_icmp .ge 7, 3) := by decide +kernel
theorem dX8_lesser_5 : decode cX8_lesser 5 = .ok (.iload_n 0, 1) := by decide +kernel
theorem dX8_lesser_6 : decode cX8_lesser 6 = .ok (.goto 4, 3) := by decide +kernel
theorem dX8_lesser_9 : decode cX8_lesser 9 = .ok (.iload_n 1, 1) := by decide +kernel
theorem dX8_lesser_10 : decode cX8_lesser 10 = .ok (.ireturn, 1) := by decide +kernel
theorem dX8_timeOf_0 : decode cX8_timeOf 0 = .ok (.aload_n 0, 1) := by decide +kernel
theorem dX8_timeOf_1 : decode cX8_timeOf 1 = .ok (.iload_n 2, 1) := by decide +kernel
theorem dX8_timeOf_2 : decode cX8_timeOf 2 = .ok (.invokevirtual 88, 3) := by decide +kernel
theorem dX8_timeOf_5 : decode cX8_timeOf 5 = .ok (.istore_n 3, 1) := by decide +kernel
theorem dX8_timeOf_6 : decode cX8_timeOf 6 = .ok (.iload_n 3, 1) := by decide +kernel
theorem dX8_timeOf_7 : decode cX8_timeOf 7 = .ok (.istore 4, 2) := by decide +kernel
theorem dX8_timeOf_9 : decode cX8_timeOf 9 = .ok (.aload_n 0, 1) := by decide +kernel
theorem dX8_timeOf_10 : decode cX8_timeOf 10 = .ok (.getfield 16, 3) := by decide +kernel
theorem dX8_timeOf_13 : decode cX8_timeOf 13 = .ok (.iload_n 1, 1) := by decide +kernel
theorem dX8_timeOf_14 : decode cX8_timeOf 14 = .ok (.iaload, 1) := by decide +kernel
theorem dX8_timeOf_15 : decode cX8_timeOf 15 = .ok (.i2l, 1) := by decide +kernel
theorem dX8_timeOf_16 : decode cX8_timeOf 16 = .ok (.lstore 5, 2) := by decide +kernel
theorem dX8_timeOf_18 : decode cX8_timeOf 18 = .ok (.lconst 0, 1) := by decide +kernel
theorem dX8_timeOf_19 : decode cX8_timeOf 19 = .ok (.lstore 7, 2) := by decide +kernel
theorem dX8_timeOf_21 : decode cX8_timeOf 21 = .ok (.iconst 0, 1) := by decide +kernel
theorem dX8_timeOf_22 : decode cX8_timeOf 22 = .ok (.istore 9, 2) := by decide +kernel
theorem dX8_timeOf_24 : decode cX8_timeOf 24 = .ok (.iload 9, 2) := by decide +kernel
theorem dX8_timeOf_26 : decode cX8_timeOf 26 = .ok (.aload_n 0, 1) := by decide +kernel
theorem dX8_timeOf_27 : decode cX8_timeOf 27 = .ok (.getfield 28, 3) := by decide +kernel
theorem dX8_timeOf_30 : decode cX8_timeOf 30 = .ok (.iload_n 2, 1) := by decide +kernel
theorem dX8_timeOf_31 : decode cX8_timeOf 31 = .ok (.iaload, 1) := by decide +kernel
theorem dX8_timeOf_32 : decode cX8_timeOf 32 = .ok (.if_icmp .ge 121, 3) := by decide +kernel
theorem dX8_timeOf_35 : decode cX8_timeOf 35 = .ok (.bipush 12, 2) := by decide +kernel
theorem dX8_timeOf_37 : decode cX8_timeOf 37 = .ok (.iload_n 2, 1) := by decide +kernel
theorem dX8_timeOf_38 : decode cX8_timeOf 38 = .ok (.imul, 1) := by decide +kernel
theorem dX8_timeOf_39 : decode cX8_timeOf 39 = .ok (.iconst 3, 1) := by decide +kernel
theorem dX8_timeOf_40 : decode cX8_timeOf 40 = .ok (.iload 9, 2) := by decide +kernel
theorem dX8_timeOf_42 : decode cX8_timeOf 42 = .ok (.imul, 1) := by decide +kernel
theorem dX8_timeOf_43 : decode cX8_timeOf 43 = .ok (.iadd, 1) := by decide +kernel
theorem dX8_timeOf_44 : decode cX8_timeOf 44 = .ok (.istore 10, 2) := by decide +kernel
theorem dX8_timeOf_46 : decode cX8_timeOf 46 = .ok (.aload_n 0, 1) := by decide +kernel
theorem dX8_timeOf_47 : decode cX8_timeOf 47 = .ok (.getfield 31, 3) := by decide +kernel
theorem dX8_timeOf_50 : decode cX8_timeOf 50 = .ok (.iload 10, 2) := by decide +kernel
theorem dX8_timeOf_52 : decode cX8_timeOf 52 = .ok (.iconst 1, 1) := by decide +kernel
theorem dX8_timeOf_53 : decode cX8_timeOf 53 = .ok (.iadd, 1) := by decide +kernel
theorem dX8_timeOf_54 : decode cX8_timeOf 54 = .ok (.iaload, 1) := by decide +kernel
theorem dX8_timeOf_55 : decode cX8_timeOf 55 = .ok (.iload_n 3, 1) := by decide +kernel
theorem dX8_timeOf_56 : decode cX8_timeOf 56 = .ok (.invokestatic 161, 3) := by decide +kernel
theorem dX8_timeOf_59 : decode cX8_timeOf 59 = .ok (.aload_n 0, 1) := by decide +kernel
theorem dX8_timeOf_60 : decode cX8_timeOf 60 = .ok (.getfield 31, 3) := by decide +kernel
theorem dX8_timeOf_63 : decode cX8_timeOf 63 = .ok (.iload 10, 2) := by decide +kernel
theorem dX8_timeOf_65 : decode cX8_timeOf 65 = .ok (.iaload, 1) := by decide +kernel
theorem dX8_timeOf_66 : decode cX8_timeOf 66 = .ok (.iload_n 3, 1) := by decide +kernel
theorem dX8_timeOf_67 : decode cX8_timeOf 67 = .ok (.invokestatic 161, 3) := by decide +kernel
theorem dX8_timeOf_70 : decode cX8_timeOf 70 = .ok (.isub, 1) := by decide +kernel
theorem dX8_timeOf_71 : decode cX8_timeOf 71 = .ok (.istore 11, 2) := by decide +kernel
theorem dX8_timeOf_73 : decode cX8_timeOf 73 = .ok (.iload 11, 2) := by decide +kernel
theorem dX8_timeOf_75 : decode cX8_timeOf 75 = .ok (.ifCond .eq 72, 3) := by decide +kernel
theorem dX8_timeOf_78 : decode cX8_timeOf 78 = .ok (.aload_n 0, 1) := by decide +kernel
theorem dX8_timeOf_79 : decode cX8_timeOf 79 = .ok (.getfield 31, 3) := by decide +kernel
theorem dX8_timeOf_82 : decode cX8_timeOf 82 = .ok (.iload 10, 2) := by decide +kernel
theorem dX8_timeOf_84 : decode cX8_timeOf 84 = .ok (.iconst 2, 1) := by decide +kernel
theorem dX8_timeOf_85 : decode cX8_timeOf 85 = .ok (.iadd, 1) := by decide +kernel
theorem dX8_timeOf_86 : decode cX8_timeOf 86 = .ok (.iaload, 1) := by decide +kernel
theorem dX8_timeOf_87 : decode cX8_timeOf 87 = .ok (.aload_n 0, 1) := by decide +kernel
theorem dX8_timeOf_88 : decode cX8_timeOf 88 = .ok (.getfield 16, 3) := by decide +kernel
theorem dX8_timeOf_91 : decode cX8_timeOf 91 = .ok (.iload_n 1, 1) := by decide +kernel
theorem dX8_timeOf_92 : decode cX8_timeOf 92 = .ok (.iaload, 1) := by decide +kernel
theorem dX8_timeOf_93 : decode cX8_timeOf 93 = .ok (.if_icmp .lt 6, 3) := by decide +kernel
theorem dX8_timeOf_96 : decode cX8_timeOf 96 = .ok (.goto 51, 3) := by decide +kernel
theorem dX8_timeOf_99 : decode cX8_timeOf 99 = .ok (.iload 4, 2) := by decide +kernel
theorem dX8_timeOf_101 : decode cX8_timeOf 101 = .ok (.iload 11, 2) := by decide +kernel
theorem dX8_timeOf_103 : decode cX8_timeOf 103 = .ok (.isub, 1) := by decide +kernel
theorem dX8_timeOf_104 : decode cX8_timeOf 104 = .ok (.istore 4, 2) := by decide +kernel
theorem dX8_timeOf_106 : decode cX8_timeOf 106 = .ok (.lload 7, 2) := by decide +kernel
theorem dX8_timeOf_108 : decode cX8_timeOf 108 = .ok (.aload_n 0, 1) := by decide +kernel
theorem dX8_timeOf_109 : decode cX8_timeOf 109 = .ok (.getfield 31, 3) := by decide +kernel
theorem dX8_timeOf_112 : decode cX8_timeOf 112 = .ok (.iload 10, 2) := by decide +kernel
theorem dX8_timeOf_114 : decode cX8_timeOf 114 = .ok (.iconst 2, 1) := by decide +kernel
theorem dX8_timeOf_115 : decode cX8_timeOf 115 = .ok (.iadd, 1) := by decide +kernel
theorem dX8_timeOf_116 : decode cX8_timeOf 116 = .ok (.iaload, 1) := by decide +kernel
theorem dX8_timeOf_117 : decode cX8_timeOf 117 = .ok (.i2l, 1) := by decide +kernel
theorem dX8_timeOf_118 : decode cX8_timeOf 118 = .ok (.lmul, 1) := by decide +kernel
theorem dX8_timeOf_119 : decode cX8_timeOf 119 = .ok (.ldc2_w 165, 3) := by decide +kernel
theorem dX8_timeOf_122 : decode cX8_timeOf 122 = .ok (.iload 11, 2) := by decide +kernel
theorem dX8_timeOf_124 : decode cX8_timeOf 124 = .ok (.i2l, 1) := by decide +kernel
theorem dX8_timeOf_125 : decode cX8_timeOf 125 = .ok (.lmul, 1) := by decide +kernel
theorem dX8_timeOf_126 : decode cX8_timeOf 126 = .ok (.lload 5, 2) := by decide +kernel
theorem dX8_timeOf_128 : decode cX8_timeOf 128 = .ok (.lmul, 1) := by decide +kernel
theorem dX8_timeOf_129 : decode cX8_timeOf 129 = .ok (.ladd, 1) := by decide +kernel
theorem dX8_timeOf_130 : decode cX8_timeOf 130 = .ok (.lstore 7, 2) := by decide +kernel
theorem dX8_timeOf_132 : decode cX8_timeOf 132 = .ok (.lload 5, 2) := by decide +kernel
theorem dX8_timeOf_134 : decode cX8_timeOf 134 = .ok (.aload_n 0, 1) := by decide +kernel
theorem dX8_timeOf_135 : decode cX8_timeOf 135 = .ok (.getfield 31, 3) := by decide +kernel
theorem dX8_timeOf_138 : decode cX8_timeOf 138 = .ok (.iload 10, 2) := by decide +kernel
theorem dX8_timeOf_140 : decode cX8_timeOf 140 = .ok (.iconst 2, 1) := by decide +kernel
theorem dX8_timeOf_141 : decode cX8_timeOf 141 = .ok (.iadd, 1) := by decide +kernel
theorem dX8_timeOf_142 : decode cX8_timeOf 142 = .ok (.iaload, 1) := by decide +kernel
theorem dX8_timeOf_143 : decode cX8_timeOf 143 = .ok (.i2l, 1) := by decide +kernel
theorem dX8_timeOf_144 : decode cX8_timeOf 144 = .ok (.lmul, 1) := by decide +kernel
theorem dX8_timeOf_145 : decode cX8_timeOf 145 = .ok (.lstore 5, 2) := by decide +kernel
theorem dX8_timeOf_147 : decode cX8_timeOf 147 = .ok (.iinc 9 1, 3) := by decide +kernel
theorem dX8_timeOf_150 : decode cX8_timeOf 150 = .ok (.goto (-126), 3) := by decide +kernel
theorem dX8_timeOf_153 : decode cX8_timeOf 153 = .ok (.lload 7, 2) := by decide +kernel
theorem dX8_timeOf_155 : decode cX8_timeOf 155 = .ok (.ldc2_w 165, 3) := by decide +kernel
theorem dX8_timeOf_158 : decode cX8_timeOf 158 = .ok (.iload 4, 2) := by decide +kernel
theorem dX8_timeOf_160 : decode cX8_timeOf 160 = .ok (.i2l, 1) := by decide +kernel
theorem dX8_timeOf_161 : decode cX8_timeOf 161 = .ok (.lmul, 1) := by decide +kernel
theorem dX8_timeOf_162 : decode cX8_timeOf 162 = .ok (.lload 5, 2) := by decide +kernel
theorem dX8_timeOf_164 : decode cX8_timeOf 164 = .ok (.aload_n 0, 1) := by decide +kernel
theorem dX8_timeOf_165 : decode cX8_timeOf 165 = .ok (.getfield 16, 3) := by decide +kernel
theorem dX8_timeOf_168 : decode cX8_timeOf 168 = .ok (.iload_n 1, 1) := by decide +kernel
theorem dX8_timeOf_169 : decode cX8_timeOf 169 = .ok (.iaload, 1) := by decide +kernel
theorem dX8_timeOf_170 : decode cX8_timeOf 170 = .ok (.i2l, 1) := by decide +kernel
theorem dX8_timeOf_171 : decode cX8_timeOf 171 = .ok (.ldiv, 1) := by decide +kernel
theorem dX8_timeOf_172 : decode cX8_timeOf 172 = .ok (.lmul, 1) := by decide +kernel
theorem dX8_timeOf_173 : decode cX8_timeOf 173 = .ok (.ladd, 1) := by decide +kernel
theorem dX8_timeOf_174 : decode cX8_timeOf 174 = .ok (.lstore 7, 2) := by decide +kernel
theorem dX8_timeOf_176 : decode cX8_timeOf 176 = .ok (.lload 7, 2) := by decide +kernel
theorem dX8_timeOf_178 : decode cX8_timeOf 178 = .ok (.lload 5, 2) := by decide +kernel
theorem dX8_timeOf_180 : decode cX8_timeOf 180 = .ok (.ladd, 1) := by decide +kernel
theorem dX8_timeOf_181 : decode cX8_timeOf 181 = .ok (.lconst 1, 1) := by decide +kernel
theorem dX8_timeOf_182 : decode cX8_timeOf 182 = .ok (.lsub, 1) := by decide +kernel
theorem dX8_timeOf_183 : decode cX8_timeOf 183 = .ok (.lload 5, 2) := by decide +kernel
theorem dX8_timeOf_185 : decode cX8_timeOf 185 = .ok (.ldiv, 1) := by decide +kernel
theorem dX8_timeOf_186 : decode cX8_timeOf 186 = .ok (.l2i, 1) := by decide +kernel
theorem dX8_timeOf_187 : decode cX8_timeOf 187 = .ok (.ireturn, 1) := by decide +kernel
theorem dX8_time_0 : decode cX8_time 0 = .ok (.aload_n 0, 1) := by decide +kernel
theorem dX8_time_1 : decode cX8_time 1 = .ok (.iload_n 1, 1) := by decide +kernel
theorem dX8_time_2 : decode cX8_time 2 = .ok (.invokevirtual 85, 3) := by decide +kernel
theorem dX8_time_5 : decode cX8_time 5 = .ok (.ifCond .eq 19, 3) := by decide +kernel
theorem dX8_time_8 : decode cX8_time 8 = .ok (.iload_n 2, 1) := by decide +kernel
theorem dX8_time_9 : decode cX8_time 9 = .ok (.invokestatic 82, 3) := by decide +kernel
theorem dX8_time_12 : decode cX8_time 12 = .ok (.ifCond .eq 12, 3) := by decide +kernel
theorem dX8_time_15 : decode cX8_time 15 = .ok (.aload_n 0, 1) := by decide +kernel
theorem dX8_time_16 : decode cX8_time 16 = .ok (.iload_n 1, 1) := by decide +kernel
theorem dX8_time_17 : decode cX8_time 17 = .ok (.iload_n 2, 1) := by decide +kernel
theorem dX8_time_18 : decode cX8_time 18 = .ok (.invokevirtual 167, 3) := by decide +kernel
theorem dX8_time_21 : decode cX8_time 21 = .ok (.goto 4, 3) := by decide +kernel
theorem dX8_time_24 : decode cX8_time 24 = .ok (.iconst (-1), 1) := by decide +kernel
theorem dX8_time_25 : decode cX8_time 25 = .ok (.ireturn, 1) := by decide +kernel
theorem dX8_runs_0 : decode cX8_runs 0 = .ok (.iconst 0, 1) := by decide +kernel
theorem dX8_runs_1 : decode cX8_runs 1 = .ok (.istore_n 1, 1) := by decide +kernel
theorem dX8_runs_2 : decode cX8_runs 2 = .ok (.iload_n 1, 1) := by decide +kernel
theorem dX8_runs_3 : decode cX8_runs 3 = .ok (.bipush 7, 2) := by decide +kernel
theorem dX8_runs_5 : decode cX8_runs 5 = .ok (.if_icmp .ge 237, 3) := by decide +kernel
theorem dX8_runs_8 : decode cX8_runs 8 = .ok (.iconst 0, 1) := by decide +kernel
theorem dX8_runs_9 : decode cX8_runs 9 = .ok (.istore_n 2, 1) := by decide +kernel
theorem dX8_runs_10 : decode cX8_runs 10 = .ok (.iload_n 2, 1) := by decide +kernel
theorem dX8_runs_11 : decode cX8_runs 11 = .ok (.bipush 10, 2) := by decide +kernel
theorem dX8_runs_13 : decode cX8_runs 13 = .ok (.if_icmp .ge 33, 3) := by decide +kernel
theorem dX8_runs_16 : decode cX8_runs 16 = .ok (.aload_n 0, 1) := by decide +kernel
theorem dX8_runs_17 : decode cX8_runs 17 = .ok (.getfield 47, 3) := by decide +kernel
theorem dX8_runs_20 : decode cX8_runs 20 = .ok (.bipush 10, 2) := by decide +kernel
theorem dX8_runs_22 : decode cX8_runs 22 = .ok (.iload_n 1, 1) := by decide +kernel
theorem dX8_runs_23 : decode cX8_runs 23 = .ok (.imul, 1) := by decide +kernel
theorem dX8_runs_24 : decode cX8_runs 24 = .ok (.iload_n 2, 1) := by decide +kernel
theorem dX8_runs_25 : decode cX8_runs 25 = .ok (.iadd, 1) := by decide +kernel
theorem dX8_runs_26 : decode cX8_runs 26 = .ok (.iconst (-1), 1) := by decide +kernel
theorem dX8_runs_27 : decode cX8_runs 27 = .ok (.iastore, 1) := by decide +kernel
theorem dX8_runs_28 : decode cX8_runs 28 = .ok (.aload_n 0, 1) := by decide +kernel
theorem dX8_runs_29 : decode cX8_runs 29 = .ok (.getfield 50, 3) := by decide +kernel
theorem dX8_runs_32 : decode cX8_runs 32 = .ok (.bipush 10, 2) := by decide +kernel
theorem dX8_runs_34 : decode cX8_runs 34 = .ok (.iload_n 1, 1) := by decide +kernel
theorem dX8_runs_35 : decode cX8_runs 35 = .ok (.imul, 1) := by decide +kernel
theorem dX8_runs_36 : decode cX8_runs 36 = .ok (.iload_n 2, 1) := by decide +kernel
theorem dX8_runs_37 : decode cX8_runs 37 = .ok (.iadd, 1) := by decide +kernel
theorem dX8_runs_38 : decode cX8_runs 38 = .ok (.iconst (-1), 1) := by decide +kernel
theorem dX8_runs_39 : decode cX8_runs 39 = .ok (.iastore, 1) := by decide +kernel
theorem dX8_runs_40 : decode cX8_runs 40 = .ok (.iinc 2 1, 3) := by decide +kernel
theorem dX8_runs_43 : decode cX8_runs 43 = .ok (.goto (-33), 3) := by decide +kernel
theorem dX8_runs_46 : decode cX8_runs 46 = .ok (.iload_n 1, 1) := by decide +kernel
theorem dX8_runs_47 : decode cX8_runs 47 = .ok (.ifCond .ne 10, 3) := by decide +kernel
theorem dX8_runs_50 : decode cX8_runs 50 = .ok (.aload_n 0, 1) := by decide +kernel
theorem dX8_runs_51 : decode cX8_runs 51 = .ok (.getfield 75, 3) := by decide +kernel
theorem dX8_runs_54 : decode cX8_runs 54 = .ok (.goto 11, 3) := by decide +kernel
theorem dX8_runs_57 : decode cX8_runs 57 = .ok (.aload_n 0, 1) := by decide +kernel
theorem dX8_runs_58 : decode cX8_runs 58 = .ok (.getfield 59, 3) := by decide +kernel
theorem dX8_runs_61 : decode cX8_runs 61 = .ok (.iload_n 1, 1) := by decide +kernel
theorem dX8_runs_62 : decode cX8_runs 62 = .ok (.iconst 1, 1) := by decide +kernel
theorem dX8_runs_63 : decode cX8_runs 63 = .ok (.isub, 1) := by decide +kernel
theorem dX8_runs_64 : decode cX8_runs 64 = .ok (.iaload, 1) := by decide +kernel
theorem dX8_runs_65 : decode cX8_runs 65 = .ok (.istore_n 2, 1) := by decide +kernel
theorem dX8_runs_66 : decode cX8_runs 66 = .ok (.aload_n 0, 1) := by decide +kernel
theorem dX8_runs_67 : decode cX8_runs 67 = .ok (.getfield 59, 3) := by decide +kernel
theorem dX8_runs_70 : decode cX8_runs 70 = .ok (.iload_n 1, 1) := by decide +kernel
theorem dX8_runs_71 : decode cX8_runs 71 = .ok (.iconst 0, 1) := by decide +kernel
theorem dX8_runs_72 : decode cX8_runs 72 = .ok (.iastore, 1) := by decide +kernel
theorem dX8_runs_73 : decode cX8_runs 73 = .ok (.iconst 0, 1) := by decide +kernel
theorem dX8_runs_74 : decode cX8_runs 74 = .ok (.istore_n 3, 1) := by decide +kernel
theorem dX8_runs_75 : decode cX8_runs 75 = .ok (.iload_n 3, 1) := by decide +kernel
theorem dX8_runs_76 : decode cX8_runs 76 = .ok (.iload_n 2, 1) := by decide +kernel
theorem dX8_runs_77 : decode cX8_runs 77 = .ok (.if_icmp .ge 159, 3) := by decide +kernel
theorem dX8_runs_80 : decode cX8_runs 80 = .ok (.iload_n 1, 1) := by decide +kernel
theorem dX8_runs_81 : decode cX8_runs 81 = .ok (.ifCond .ne 7, 3) := by decide +kernel
theorem dX8_runs_84 : decode cX8_runs 84 = .ok (.iload_n 3, 1) := by decide +kernel
theorem dX8_runs_85 : decode cX8_runs 85 = .ok (.goto 17, 3) := by decide +kernel
theorem dX8_runs_88 : decode cX8_runs 88 = .ok (.aload_n 0, 1) := by decide +kernel
theorem dX8_runs_89 : decode cX8_runs 89 = .ok (.getfield 56, 3) := by decide +kernel
theorem dX8_runs_92 : decode cX8_runs 92 = .ok (.bipush 10, 2) := by decide +kernel
theorem dX8_runs_94 : decode cX8_runs 94 = .ok (.iload_n 1, 1) := by decide +kernel
theorem dX8_runs_95 : decode cX8_runs 95 = .ok (.imul, 1) := by decide +kernel
theorem dX8_runs_96 : decode cX8_runs 96 = .ok (.bipush 10, 2) := by decide +kernel
theorem dX8_runs_98 : decode cX8_runs 98 = .ok (.isub, 1) := by decide +kernel
theorem dX8_runs_99 : decode cX8_runs 99 = .ok (.iload_n 3, 1) := by decide +kernel
theorem dX8_runs_100 : decode cX8_runs 100 = .ok (.iadd, 1) := by decide +kernel
theorem dX8_runs_101 : decode cX8_runs 101 = .ok (.iaload, 1) := by decide +kernel
theorem dX8_runs_102 : decode cX8_runs 102 = .ok (.istore 4, 2) := by decide +kernel
theorem dX8_runs_104 : decode cX8_runs 104 = .ok (.aload_n 0, 1) := by decide +kernel
theorem dX8_runs_105 : decode cX8_runs 105 = .ok (.getfield 47, 3) := by decide +kernel
theorem dX8_runs_108 : decode cX8_runs 108 = .ok (.bipush 10, 2) := by decide +kernel
theorem dX8_runs_110 : decode cX8_runs 110 = .ok (.iload_n 1, 1) := by decide +kernel
theorem dX8_runs_111 : decode cX8_runs 111 = .ok (.imul, 1) := by decide +kernel
theorem dX8_runs_112 : decode cX8_runs 112 = .ok (.iload 4, 2) := by decide +kernel
theorem dX8_runs_114 : decode cX8_runs 114 = .ok (.iadd, 1) := by decide +kernel
theorem dX8_runs_115 : decode cX8_runs 115 = .ok (.sipush 1440, 3) := by decide +kernel
theorem dX8_runs_118 : decode cX8_runs 118 = .ok (.iload_n 1, 1) := by decide +kernel
theorem dX8_runs_119 : decode cX8_runs 119 = .ok (.imul, 1) := by decide +kernel
theorem dX8_runs_120 : decode cX8_runs 120 = .ok (.bipush 60, 2) := by decide +kernel
theorem dX8_runs_122 : decode cX8_runs 122 = .ok (.aload_n 0, 1) := by decide +kernel
theorem dX8_runs_123 : decode cX8_runs 123 = .ok (.getfield 13, 3) := by decide +kernel
theorem dX8_runs_126 : decode cX8_runs 126 = .ok (.iload_n 1, 1) := by decide +kernel
theorem dX8_runs_127 : decode cX8_runs 127 = .ok (.iaload, 1) := by decide +kernel
theorem dX8_runs_128 : decode cX8_runs 128 = .ok (.imul, 1) := by decide +kernel
theorem dX8_runs_129 : decode cX8_runs 129 = .ok (.iadd, 1) := by decide +kernel
theorem dX8_runs_130 : decode cX8_runs 130 = .ok (.iconst 2, 1) := by decide +kernel
theorem dX8_runs_131 : decode cX8_runs 131 = .ok (.iload_n 3, 1) := by decide +kernel
theorem dX8_runs_132 : decode cX8_runs 132 = .ok (.imul, 1) := by decide +kernel
theorem dX8_runs_133 : decode cX8_runs 133 = .ok (.iadd, 1) := by decide +kernel
theorem dX8_runs_134 : decode cX8_runs 134 = .ok (.iastore, 1) := by decide +kernel
theorem dX8_runs_135 : decode cX8_runs 135 = .ok (.aload_n 0, 1) := by decide +kernel
theorem dX8_runs_136 : decode cX8_runs 136 = .ok (.getfield 19, 3) := by decide +kernel
theorem dX8_runs_139 : decode cX8_runs 139 = .ok (.iload 4, 2) := by decide +kernel
theorem dX8_runs_141 : decode cX8_runs 141 = .ok (.iaload, 1) := by decide +kernel
theorem dX8_runs_142 : decode cX8_runs 142 = .ok (.iload_n 1, 1) := by decide +kernel
theorem dX8_runs_143 : decode cX8_runs 143 = .ok (.if_icmp .ne 6, 3) := by decide +kernel
theorem dX8_runs_146 : decode cX8_runs 146 = .ok (.goto 84, 3) := by decide +kernel
theorem dX8_runs_149 : decode cX8_runs 149 = .ok (.aload_n 0, 1) := by decide +kernel
theorem dX8_runs_150 : decode cX8_runs 150 = .ok (.iload 4, 2) := by decide +kernel
theorem dX8_runs_152 : decode cX8_runs 152 = .ok (.iload_n 1, 1) := by decide +kernel
theorem dX8_runs_153 : decode cX8_runs 153 = .ok (.invokevirtual 167, 3) := by decide +kernel
theorem dX8_runs_156 : decode cX8_runs 156 = .ok (.istore 5, 2) := by decide +kernel
theorem dX8_runs_158 : decode cX8_runs 158 = .ok (.aload_n 0, 1) := by decide +kernel
theorem dX8_runs_159 : decode cX8_runs 159 = .ok (.getfield 50, 3) := by decide +kernel
theorem dX8_runs_162 : decode cX8_runs 162 = .ok (.bipush 10, 2) := by decide +kernel
theorem dX8_runs_164 : decode cX8_runs 164 = .ok (.iload_n 1, 1) := by decide +kernel
theorem dX8_runs_165 : decode cX8_runs 165 = .ok (.imul, 1) := by decide +kernel
theorem dX8_runs_166 : decode cX8_runs 166 = .ok (.iload 4, 2) := by decide +kernel
theorem dX8_runs_168 : decode cX8_runs 168 = .ok (.iadd, 1) := by decide +kernel
theorem dX8_runs_169 : decode cX8_runs 169 = .ok (.aload_n 0, 1) := by decide +kernel
theorem dX8_runs_170 : decode cX8_runs 170 = .ok (.getfield 47, 3) := by decide +kernel
theorem dX8_runs_173 : decode cX8_runs 173 = .ok (.bipush 10, 2) := by decide +kernel
theorem dX8_runs_175 : decode cX8_runs 175 = .ok (.iload_n 1, 1) := by decide +kernel
theorem dX8_runs_176 : decode cX8_runs 176 = .ok (.imul, 1) := by decide +kernel
theorem dX8_runs_177 : decode cX8_runs 177 = .ok (.iload 4, 2) := by decide +kernel
theorem dX8_runs_179 : decode cX8_runs 179 = .ok (.iadd, 1) := by decide +kernel
theorem dX8_runs_180 : decode cX8_runs 180 = .ok (.iaload, 1) := by decide +kernel
theorem dX8_runs_181 : decode cX8_runs 181 = .ok (.iload 5, 2) := by decide +kernel
theorem dX8_runs_183 : decode cX8_runs 183 = .ok (.iadd, 1) := by decide +kernel
theorem dX8_runs_184 : decode cX8_runs 184 = .ok (.iastore, 1) := by decide +kernel
theorem dX8_runs_185 : decode cX8_runs 185 = .ok (.aload_n 0, 1) := by decide +kernel
theorem dX8_runs_186 : decode cX8_runs 186 = .ok (.getfield 53, 3) := by decide +kernel
theorem dX8_runs_189 : decode cX8_runs 189 = .ok (.bipush 10, 2) := by decide +kernel
theorem dX8_runs_191 : decode cX8_runs 191 = .ok (.iload_n 1, 1) := by decide +kernel
theorem dX8_runs_192 : decode cX8_runs 192 = .ok (.imul, 1) := by decide +kernel
theorem dX8_runs_193 : decode cX8_runs 193 = .ok (.iload 4, 2) := by decide +kernel
theorem dX8_runs_195 : decode cX8_runs 195 = .ok (.iadd, 1) := by decide +kernel
theorem dX8_runs_196 : decode cX8_runs 196 = .ok (.iload 5, 2) := by decide +kernel
theorem dX8_runs_198 : decode cX8_runs 198 = .ok (.iload_n 1, 1) := by decide +kernel
theorem dX8_runs_199 : decode cX8_runs 199 = .ok (.ifCond .ne 7, 3) := by decide +kernel
theorem dX8_runs_202 : decode cX8_runs 202 = .ok (.iconst 0, 1) := by decide +kernel
theorem dX8_runs_203 : decode cX8_runs 203 = .ok (.goto 18, 3) := by decide +kernel
theorem dX8_runs_206 : decode cX8_runs 206 = .ok (.aload_n 0, 1) := by decide +kernel
theorem dX8_runs_207 : decode cX8_runs 207 = .ok (.getfield 53, 3) := by decide +kernel
theorem dX8_runs_210 : decode cX8_runs 210 = .ok (.bipush 10, 2) := by decide +kernel
theorem dX8_runs_212 : decode cX8_runs 212 = .ok (.iload_n 1, 1) := by decide +kernel
theorem dX8_runs_213 : decode cX8_runs 213 = .ok (.imul, 1) := by decide +kernel
theorem dX8_runs_214 : decode cX8_runs 214 = .ok (.bipush 10, 2) := by decide +kernel
theorem dX8_runs_216 : decode cX8_runs 216 = .ok (.isub, 1) := by decide +kernel
theorem dX8_runs_217 : decode cX8_runs 217 = .ok (.iload 4, 2) := by decide +kernel
theorem dX8_runs_219 : decode cX8_runs 219 = .ok (.iadd, 1) := by decide +kernel
theorem dX8_runs_220 : decode cX8_runs 220 = .ok (.iaload, 1) := by decide +kernel
theorem dX8_runs_221 : decode cX8_runs 221 = .ok (.iadd, 1) := by decide +kernel
theorem dX8_runs_222 : decode cX8_runs 222 = .ok (.iastore, 1) := by decide +kernel
theorem dX8_runs_223 : decode cX8_runs 223 = .ok (.aload_n 0, 1) := by decide +kernel
theorem dX8_runs_224 : decode cX8_runs 224 = .ok (.iload_n 1, 1) := by decide +kernel
theorem dX8_runs_225 : decode cX8_runs 225 = .ok (.iload 4, 2) := by decide +kernel
theorem dX8_runs_227 : decode cX8_runs 227 = .ok (.invokevirtual 170, 3) := by decide +kernel
theorem dX8_runs_230 : decode cX8_runs 230 = .ok (.iinc 3 1, 3) := by decide +kernel
theorem dX8_runs_233 : decode cX8_runs 233 = .ok (.goto (-158), 3) := by decide +kernel
theorem dX8_runs_236 : decode cX8_runs 236 = .ok (.iinc 1 1, 3) := by decide +kernel
theorem dX8_runs_239 : decode cX8_runs 239 = .ok (.goto (-237), 3) := by decide +kernel
theorem dX8_runs_242 : decode cX8_runs 242 = .ok (.return_, 1) := by decide +kernel
theorem dX8_comes_0 : decode cX8_comes 0 = .ok (.aload_n 0, 1) := by decide +kernel
theorem dX8_comes_1 : decode cX8_comes 1 = .ok (.getfield 59, 3) := by decide +kernel
theorem dX8_comes_4 : decode cX8_comes 4 = .ok (.iload_n 1, 1) := by decide +kernel
theorem dX8_comes_5 : decode cX8_comes 5 = .ok (.iaload, 1) := by decide +kernel
theorem dX8_comes_6 : decode cX8_comes 6 = .ok (.istore_n 3, 1) := by decide +kernel
theorem dX8_comes_7 : decode cX8_comes 7 = .ok (.iload_n 3, 1) := by decide +kernel
theorem dX8_comes_8 : decode cX8_comes 8 = .ok (.ifCond .le 55, 3) := by decide +kernel
theorem dX8_comes_11 : decode cX8_comes 11 = .ok (.aload_n 0, 1) := by decide +kernel
theorem dX8_comes_12 : decode cX8_comes 12 = .ok (.iload_n 1, 1) := by decide +kernel
theorem dX8_comes_13 : decode cX8_comes 13 = .ok (.iload_n 2, 1) := by decide +kernel
theorem dX8_comes_14 : decode cX8_comes 14 = .ok (.aload_n 0, 1) := by decide +kernel
theorem dX8_comes_15 : decode cX8_comes 15 = .ok (.getfield 56, 3) := by decide +kernel
theorem dX8_comes_18 : decode cX8_comes 18 = .ok (.bipush 10, 2) := by decide +kernel
theorem dX8_comes_20 : decode cX8_comes 20 = .ok (.iload_n 1, 1) := by decide +kernel
theorem dX8_comes_21 : decode cX8_comes 21 = .ok (.imul, 1) := by decide +kernel
theorem dX8_comes_22 : decode cX8_comes 22 = .ok (.iload_n 3, 1) := by decide +kernel
theorem dX8_comes_23 : decode cX8_comes 23 = .ok (.iadd, 1) := by decide +kernel
theorem dX8_comes_24 : decode cX8_comes 24 = .ok (.iconst 1, 1) := by decide +kernel
theorem dX8_comes_25 : decode cX8_comes 25 = .ok (.isub, 1) := by decide +kernel
theorem dX8_comes_26 : decode cX8_comes 26 = .ok (.iaload, 1) := by decide +kernel
theorem dX8_comes_27 : decode cX8_comes 27 = .ok (.invokevirtual 174, 3) := by decide +kernel
theorem dX8_comes_30 : decode cX8_comes 30 = .ok (.ifCond .eq 33, 3) := by decide +kernel
theorem dX8_comes_33 : decode cX8_comes 33 = .ok (.aload_n 0, 1) := by decide +kernel
theorem dX8_comes_34 : decode cX8_comes 34 = .ok (.getfield 56, 3) := by decide +kernel
theorem dX8_comes_37 : decode cX8_comes 37 = .ok (.bipush 10, 2) := by decide +kernel
theorem dX8_comes_39 : decode cX8_comes 39 = .ok (.iload_n 1, 1) := by decide +kernel
theorem dX8_comes_40 : decode cX8_comes 40 = .ok (.imul, 1) := by decide +kernel
theorem dX8_comes_41 : decode cX8_comes 41 = .ok (.iload_n 3, 1) := by decide +kernel
theorem dX8_comes_42 : decode cX8_comes 42 = .ok (.iadd, 1) := by decide +kernel
theorem dX8_comes_43 : decode cX8_comes 43 = .ok (.aload_n 0, 1) := by decide +kernel
theorem dX8_comes_44 : decode cX8_comes 44 = .ok (.getfield 56, 3) := by decide +kernel
theorem dX8_comes_47 : decode cX8_comes 47 = .ok (.bipush 10, 2) := by decide +kernel
theorem dX8_comes_49 : decode cX8_comes 49 = .ok (.iload_n 1, 1) := by decide +kernel
theorem dX8_comes_50 : decode cX8_comes 50 = .ok (.imul, 1) := by decide +kernel
theorem dX8_comes_51 : decode cX8_comes 51 = .ok (.iload_n 3, 1) := by decide +kernel
theorem dX8_comes_52 : decode cX8_comes 52 = .ok (.iadd, 1) := by decide +kernel
theorem dX8_comes_53 : decode cX8_comes 53 = .ok (.iconst 1, 1) := by decide +kernel
theorem dX8_comes_54 : decode cX8_comes 54 = .ok (.isub, 1) := by decide +kernel
theorem dX8_comes_55 : decode cX8_comes 55 = .ok (.iaload, 1) := by decide +kernel
theorem dX8_comes_56 : decode cX8_comes 56 = .ok (.iastore, 1) := by decide +kernel
theorem dX8_comes_57 : decode cX8_comes 57 = .ok (.iinc 3 (-1), 3) := by decide +kernel
theorem dX8_comes_60 : decode cX8_comes 60 = .ok (.goto (-53), 3) := by decide +kernel
theorem dX8_comes_63 : decode cX8_comes 63 = .ok (.aload_n 0, 1) := by decide +kernel
theorem dX8_comes_64 : decode cX8_comes 64 = .ok (.getfield 56, 3) := by decide +kernel
theorem dX8_comes_67 : decode cX8_comes 67 = .ok (.bipush 10, 2) := by decide +kernel
theorem dX8_comes_69 : decode cX8_comes 69 = .ok (.iload_n 1, 1) := by decide +kernel
theorem dX8_comes_70 : decode cX8_comes 70 = .ok (.imul, 1) := by decide +kernel
theorem dX8_comes_71 : decode cX8_comes 71 = .ok (.iload_n 3, 1) := by decide +kernel
theorem dX8_comes_72 : decode cX8_comes 72 = .ok (.iadd, 1) := by decide +kernel
theorem dX8_comes_73 : decode cX8_comes 73 = .ok (.iload_n 2, 1) := by decide +kernel
theorem dX8_comes_74 : decode cX8_comes 74 = .ok (.iastore, 1) := by decide +kernel
theorem dX8_comes_75 : decode cX8_comes 75 = .ok (.aload_n 0, 1) := by decide +kernel
theorem dX8_comes_76 : decode cX8_comes 76 = .ok (.getfield 59, 3) := by decide +kernel
theorem dX8_comes_79 : decode cX8_comes 79 = .ok (.iload_n 1, 1) := by decide +kernel
theorem dX8_comes_80 : decode cX8_comes 80 = .ok (.dup2, 1) := by decide +kernel
theorem dX8_comes_81 : decode cX8_comes 81 = .ok (.iaload, 1) := by decide +kernel
theorem dX8_comes_82 : decode cX8_comes 82 = .ok (.iconst 1, 1) := by decide +kernel
theorem dX8_comes_83 : decode cX8_comes 83 = .ok (.iadd, 1) := by decide +kernel
theorem dX8_comes_84 : decode cX8_comes 84 = .ok (.iastore, 1) := by decide +kernel
theorem dX8_comes_85 : decode cX8_comes 85 = .ok (.return_, 1) := by decide +kernel
theorem dX8_isAhead_0 : decode cX8_isAhead 0 = .ok (.aload_n 0, 1) := by decide +kernel
theorem dX8_isAhead_1 : decode cX8_isAhead 1 = .ok (.getfield 53, 3) := by decide +kernel
theorem dX8_isAhead_4 : decode cX8_isAhead 4 = .ok (.bipush 10, 2) := by decide +kernel
theorem dX8_isAhead_6 : decode cX8_isAhead 6 = .ok (.iload_n 1, 1) := by decide +kernel
theorem dX8_isAhead_7 : decode cX8_isAhead 7 = .ok (.imul, 1) := by decide +kernel
theorem dX8_isAhead_8 : decode cX8_isAhead 8 = .ok (.iload_n 2, 1) := by decide +kernel
theorem dX8_isAhead_9 : decode cX8_isAhead 9 = .ok (.iadd, 1) := by decide +kernel
theorem dX8_isAhead_10 : decode cX8_isAhead 10 = .ok (.iaload, 1) := by decide +kernel
theorem dX8_isAhead_11 : decode cX8_isAhead 11 = .ok (.aload_n 0, 1) := by decide +kernel
theorem dX8_isAhead_12 : decode cX8_isAhead 12 = .ok (.getfield 53, 3) := by decide +kernel
theorem dX8_isAhead_15 : decode cX8_isAhead 15 = .ok (.bipush 10, 2) := by decide +kernel
theorem dX8_isAhead_17 : decode cX8_isAhead 17 = .ok (.iload_n 1, 1) := by decide +kernel
theorem dX8_isAhead_18 : decode cX8_isAhead 18 = .ok (.imul, 1) := by decide +kernel
theorem dX8_isAhead_19 : decode cX8_isAhead 19 = .ok (.iload_n 3, 1) := by decide +kernel
theorem dX8_isAhead_20 : decode cX8_isAhead 20 = .ok (.iadd, 1) := by decide +kernel
theorem dX8_isAhead_21 : decode cX8_isAhead 21 = .ok (.iaload, 1) := by decide +kernel
theorem dX8_isAhead_22 : decode cX8_isAhead 22 = .ok (.if_icmp .lt 33, 3) := by decide +kernel
theorem dX8_isAhead_25 : decode cX8_isAhead 25 = .ok (.aload_n 0, 1) := by decide +kernel
theorem dX8_isAhead_26 : decode cX8_isAhead 26 = .ok (.getfield 53, 3) := by decide +kernel
theorem dX8_isAhead_29 : decode cX8_isAhead 29 = .ok (.bipush 10, 2) := by decide +kernel
theorem dX8_isAhead_31 : decode cX8_isAhead 31 = .ok (.iload_n 1, 1) := by decide +kernel
theorem dX8_isAhead_32 : decode cX8_isAhead 32 = .ok (.imul, 1) := by decide +kernel
theorem dX8_isAhead_33 : decode cX8_isAhead 33 = .ok (.iload_n 2, 1) := by decide +kernel
theorem dX8_isAhead_34 : decode cX8_isAhead 34 = .ok (.iadd, 1) := by decide +kernel
theorem dX8_isAhead_35 : decode cX8_isAhead 35 = .ok (.iaload, 1) := by decide +kernel
theorem dX8_isAhead_36 : decode cX8_isAhead 36 = .ok (.aload_n 0, 1) := by decide +kernel
theorem dX8_isAhead_37 : decode cX8_isAhead 37 = .ok (.getfield 53, 3) := by decide +kernel
theorem dX8_isAhead_40 : decode cX8_isAhead 40 = .ok (.bipush 10, 2) := by decide +kernel
theorem dX8_isAhead_42 : decode cX8_isAhead 42 = .ok (.iload_n 1, 1) := by decide +kernel
theorem dX8_isAhead_43 : decode cX8_isAhead 43 = .ok (.imul, 1) := by decide +kernel
theorem dX8_isAhead_44 : decode cX8_isAhead 44 = .ok (.iload_n 3, 1) := by decide +kernel
theorem dX8_isAhead_45 : decode cX8_isAhead 45 = .ok (.iadd, 1) := by decide +kernel
theorem dX8_isAhead_46 : decode cX8_isAhead 46 = .ok (.iaload, 1) := by decide +kernel
theorem dX8_isAhead_47 : decode cX8_isAhead 47 = .ok (.if_icmp .ne 12, 3) := by decide +kernel
theorem dX8_isAhead_50 : decode cX8_isAhead 50 = .ok (.iload_n 2, 1) := by decide +kernel
theorem dX8_isAhead_51 : decode cX8_isAhead 51 = .ok (.iload_n 3, 1) := by decide +kernel
theorem dX8_isAhead_52 : decode cX8_isAhead 52 = .ok (.if_icmp .ge 7, 3) := by decide +kernel
theorem dX8_isAhead_55 : decode cX8_isAhead 55 = .ok (.iconst 1, 1) := by decide +kernel
theorem dX8_isAhead_56 : decode cX8_isAhead 56 = .ok (.goto 4, 3) := by decide +kernel
theorem dX8_isAhead_59 : decode cX8_isAhead 59 = .ok (.iconst 0, 1) := by decide +kernel
theorem dX8_isAhead_60 : decode cX8_isAhead 60 = .ok (.ireturn, 1) := by decide +kernel
theorem dX8_ran_0 : decode cX8_ran 0 = .ok (.aload_n 0, 1) := by decide +kernel
theorem dX8_ran_1 : decode cX8_ran 1 = .ok (.iload_n 1, 1) := by decide +kernel
theorem dX8_ran_2 : decode cX8_ran 2 = .ok (.invokevirtual 85, 3) := by decide +kernel
theorem dX8_ran_5 : decode cX8_ran 5 = .ok (.ifCond .eq 19, 3) := by decide +kernel
theorem dX8_ran_8 : decode cX8_ran 8 = .ok (.iload_n 2, 1) := by decide +kernel
theorem dX8_ran_9 : decode cX8_ran 9 = .ok (.invokestatic 82, 3) := by decide +kernel
theorem dX8_ran_12 : decode cX8_ran 12 = .ok (.ifCond .eq 12, 3) := by decide +kernel
theorem dX8_ran_15 : decode cX8_ran 15 = .ok (.iload_n 3, 1) := by decide +kernel
theorem dX8_ran_16 : decode cX8_ran 16 = .ok (.iconst 0, 1) := by decide +kernel
theorem dX8_ran_17 : decode cX8_ran 17 = .ok (.iconst 3, 1) := by decide +kernel
theorem dX8_ran_18 : decode cX8_ran 18 = .ok (.invokestatic 71, 3) := by decide +kernel
theorem dX8_ran_21 : decode cX8_ran 21 = .ok (.ifCond .ne 5, 3) := by decide +kernel
theorem dX8_ran_24 : decode cX8_ran 24 = .ok (.iconst (-1), 1) := by decide +kernel
theorem dX8_ran_25 : decode cX8_ran 25 = .ok (.ireturn, 1) := by decide +kernel
theorem dX8_ran_26 : decode cX8_ran 26 = .ok (.aload_n 0, 1) := by decide +kernel
theorem dX8_ran_27 : decode cX8_ran 27 = .ok (.invokevirtual 177, 3) := by decide +kernel
theorem dX8_ran_30 : decode cX8_ran 30 = .ok (.iload_n 3, 1) := by decide +kernel
theorem dX8_ran_31 : decode cX8_ran 31 = .ok (.ifCond .ne 15, 3) := by decide +kernel
theorem dX8_ran_34 : decode cX8_ran 34 = .ok (.aload_n 0, 1) := by decide +kernel
theorem dX8_ran_35 : decode cX8_ran 35 = .ok (.getfield 47, 3) := by decide +kernel
theorem dX8_ran_38 : decode cX8_ran 38 = .ok (.bipush 10, 2) := by decide +kernel
theorem dX8_ran_40 : decode cX8_ran 40 = .ok (.iload_n 2, 1) := by decide +kernel
theorem dX8_ran_41 : decode cX8_ran 41 = .ok (.imul, 1) := by decide +kernel
theorem dX8_ran_42 : decode cX8_ran 42 = .ok (.iload_n 1, 1) := by decide +kernel
theorem dX8_ran_43 : decode cX8_ran 43 = .ok (.iadd, 1) := by decide +kernel
theorem dX8_ran_44 : decode cX8_ran 44 = .ok (.iaload, 1) := by decide +kernel
theorem dX8_ran_45 : decode cX8_ran 45 = .ok (.ireturn, 1) := by decide +kernel
theorem dX8_ran_46 : decode cX8_ran 46 = .ok (.iload_n 3, 1) := by decide +kernel
theorem dX8_ran_47 : decode cX8_ran 47 = .ok (.iconst 1, 1) := by decide +kernel
theorem dX8_ran_48 : decode cX8_ran 48 = .ok (.if_icmp .eq 18, 3) := by decide +kernel
theorem dX8_ran_51 : decode cX8_ran 51 = .ok (.aload_n 0, 1) := by decide +kernel
theorem dX8_ran_52 : decode cX8_ran 52 = .ok (.getfield 50, 3) := by decide +kernel
theorem dX8_ran_55 : decode cX8_ran 55 = .ok (.bipush 10, 2) := by decide +kernel
theorem dX8_ran_57 : decode cX8_ran 57 = .ok (.iload_n 2, 1) := by decide +kernel
theorem dX8_ran_58 : decode cX8_ran 58 = .ok (.imul, 1) := by decide +kernel
theorem dX8_ran_59 : decode cX8_ran 59 = .ok (.iload_n 1, 1) := by decide +kernel
theorem dX8_ran_60 : decode cX8_ran 60 = .ok (.iadd, 1) := by decide +kernel
theorem dX8_ran_61 : decode cX8_ran 61 = .ok (.iaload, 1) := by decide +kernel
theorem dX8_ran_62 : decode cX8_ran 62 = .ok (.iconst (-1), 1) := by decide +kernel
theorem dX8_ran_63 : decode cX8_ran 63 = .ok (.if_icmp .ne 15, 3) := by decide +kernel
theorem dX8_ran_66 : decode cX8_ran 66 = .ok (.aload_n 0, 1) := by decide +kernel
theorem dX8_ran_67 : decode cX8_ran 67 = .ok (.getfield 50, 3) := by decide +kernel
theorem dX8_ran_70 : decode cX8_ran 70 = .ok (.bipush 10, 2) := by decide +kernel
theorem dX8_ran_72 : decode cX8_ran 72 = .ok (.iload_n 2, 1) := by decide +kernel
theorem dX8_ran_73 : decode cX8_ran 73 = .ok (.imul, 1) := by decide +kernel
theorem dX8_ran_74 : decode cX8_ran 74 = .ok (.iload_n 1, 1) := by decide +kernel
theorem dX8_ran_75 : decode cX8_ran 75 = .ok (.iadd, 1) := by decide +kernel
theorem dX8_ran_76 : decode cX8_ran 76 = .ok (.iaload, 1) := by decide +kernel
theorem dX8_ran_77 : decode cX8_ran 77 = .ok (.ireturn, 1) := by decide +kernel
theorem dX8_ran_78 : decode cX8_ran 78 = .ok (.iload_n 3, 1) := by decide +kernel
theorem dX8_ran_79 : decode cX8_ran 79 = .ok (.iconst 3, 1) := by decide +kernel
theorem dX8_ran_80 : decode cX8_ran 80 = .ok (.if_icmp .ne 15, 3) := by decide +kernel
theorem dX8_ran_83 : decode cX8_ran 83 = .ok (.aload_n 0, 1) := by decide +kernel
theorem dX8_ran_84 : decode cX8_ran 84 = .ok (.getfield 53, 3) := by decide +kernel
theorem dX8_ran_87 : decode cX8_ran 87 = .ok (.bipush 10, 2) := by decide +kernel
theorem dX8_ran_89 : decode cX8_ran 89 = .ok (.iload_n 2, 1) := by decide +kernel
theorem dX8_ran_90 : decode cX8_ran 90 = .ok (.imul, 1) := by decide +kernel
theorem dX8_ran_91 : decode cX8_ran 91 = .ok (.iload_n 1, 1) := by decide +kernel
theorem dX8_ran_92 : decode cX8_ran 92 = .ok (.iadd, 1) := by decide +kernel
theorem dX8_ran_93 : decode cX8_ran 93 = .ok (.iaload, 1) := by decide +kernel
theorem dX8_ran_94 : decode cX8_ran 94 = .ok (.ireturn, 1) := by decide +kernel
theorem dX8_ran_95 : decode cX8_ran 95 = .ok (.iconst 0, 1) := by decide +kernel
theorem dX8_ran_96 : decode cX8_ran 96 = .ok (.istore 4, 2) := by decide +kernel
theorem dX8_ran_98 : decode cX8_ran 98 = .ok (.aload_n 0, 1) := by decide +kernel
theorem dX8_ran_99 : decode cX8_ran 99 = .ok (.getfield 56, 3) := by decide +kernel
theorem dX8_ran_102 : decode cX8_ran 102 = .ok (.bipush 10, 2) := by decide +kernel
theorem dX8_ran_104 : decode cX8_ran 104 = .ok (.iload_n 2, 1) := by decide +kernel
theorem dX8_ran_105 : decode cX8_ran 105 = .ok (.imul, 1) := by decide +kernel
theorem dX8_ran_106 : decode cX8_ran 106 = .ok (.iload 4, 2) := by decide +kernel
theorem dX8_ran_108 : decode cX8_ran 108 = .ok (.iadd, 1) := by decide +kernel
theorem dX8_ran_109 : decode cX8_ran 109 = .ok (.iaload, 1) := by decide +kernel
theorem dX8_ran_110 : decode cX8_ran 110 = .ok (.iload_n 1, 1) := by decide +kernel
theorem dX8_ran_111 : decode cX8_ran 111 = .ok (.if_icmp .eq 9, 3) := by decide +kernel
theorem dX8_ran_114 : decode cX8_ran 114 = .ok (.iinc 4 1, 3) := by decide +kernel
theorem dX8_ran_117 : decode cX8_ran 117 = .ok (.goto (-19), 3) := by decide +kernel
theorem dX8_ran_120 : decode cX8_ran 120 = .ok (.iload 4, 2) := by decide +kernel
theorem dX8_ran_122 : decode cX8_ran 122 = .ok (.ireturn, 1) := by decide +kernel
theorem dX8_standing_0 : decode cX8_standing 0 = .ok (.iload_n 1, 1) := by decide +kernel
theorem dX8_standing_1 : decode cX8_standing 1 = .ok (.invokestatic 82, 3) := by decide +kernel
theorem dX8_standing_4 : decode cX8_standing 4 = .ok (.ifCond .ne 5, 3) := by decide +kernel
theorem dX8_standing_7 : decode cX8_standing 7 = .ok (.iconst (-1), 1) := by decide +kernel
theorem dX8_standing_8 : decode cX8_standing 8 = .ok (.ireturn, 1) := by decide +kernel
theorem dX8_standing_9 : decode cX8_standing 9 = .ok (.aload_n 0, 1) := by decide +kernel
theorem dX8_standing_10 : decode cX8_standing 10 = .ok (.invokevirtual 177, 3) := by decide +kernel
theorem dX8_standing_13 : decode cX8_standing 13 = .ok (.iload_n 2, 1) := by decide +kernel
theorem dX8_standing_14 : decode cX8_standing 14 = .ok (.iconst 0, 1) := by decide +kernel
theorem dX8_standing_15 : decode cX8_standing 15 = .ok (.aload_n 0, 1) := by decide +kernel
theorem dX8_standing_16 : decode cX8_standing 16 = .ok (.getfield 59, 3) := by decide +kernel
theorem dX8_standing_19 : decode cX8_standing 19 = .ok (.iload_n 1, 1) := by decide +kernel
theorem dX8_standing_20 : decode cX8_standing 20 = .ok (.iaload, 1) := by decide +kernel
theorem dX8_standing_21 : decode cX8_standing 21 = .ok (.iconst 1, 1) := by decide +kernel
theorem dX8_standing_22 : decode cX8_standing 22 = .ok (.isub, 1) := by decide +kernel
theorem dX8_standing_23 : decode cX8_standing 23 = .ok (.invokestatic 71, 3) := by decide +kernel
theorem dX8_standing_26 : decode cX8_standing 26 = .ok (.ifCond .eq 17, 3) := by decide +kernel
theorem dX8_standing_29 : decode cX8_standing 29 = .ok (.aload_n 0, 1) := by decide +kernel
theorem dX8_standing_30 : decode cX8_standing 30 = .ok (.getfield 56, 3) := by decide +kernel
theorem dX8_standing_33 : decode cX8_standing 33 = .ok (.bipush 10, 2) := by decide +kernel
theorem dX8_standing_35 : decode cX8_standing 35 = .ok (.iload_n 1, 1) := by decide +kernel
theorem dX8_standing_36 : decode cX8_standing 36 = .ok (.imul, 1) := by decide +kernel
theorem dX8_standing_37 : decode cX8_standing 37 = .ok (.iload_n 2, 1) := by decide +kernel
theorem dX8_standing_38 : decode cX8_standing 38 = .ok (.iadd, 1) := by decide +kernel
theorem dX8_standing_39 : decode cX8_standing 39 = .ok (.iaload, 1) := by decide +kernel
theorem dX8_standing_40 : decode cX8_standing 40 = .ok (.goto 4, 3) := by decide +kernel
theorem dX8_standing_43 : decode cX8_standing 43 = .ok (.iconst (-1), 1) := by decide +kernel
theorem dX8_standing_44 : decode cX8_standing 44 = .ok (.ireturn, 1) := by decide +kernel
theorem dX8_isNeeded_0 : decode cX8_isNeeded 0 = .ok (.aload_n 0, 1) := by decide +kernel
theorem dX8_isNeeded_1 : decode cX8_isNeeded 1 = .ok (.getfield 59, 3) := by decide +kernel
theorem dX8_isNeeded_4 : decode cX8_isNeeded 4 = .ok (.iload_n 1, 1) := by decide +kernel
theorem dX8_isNeeded_5 : decode cX8_isNeeded 5 = .ok (.iconst 1, 1) := by decide +kernel
theorem dX8_isNeeded_6 : decode cX8_isNeeded 6 = .ok (.isub, 1) := by decide +kernel
theorem dX8_isNeeded_7 : decode cX8_isNeeded 7 = .ok (.iaload, 1) := by decide +kernel
theorem dX8_isNeeded_8 : decode cX8_isNeeded 8 = .ok (.ifCond .le 7, 3) := by decide +kernel
theorem dX8_isNeeded_11 : decode cX8_isNeeded 11 = .ok (.iconst 1, 1) := by decide +kernel
theorem dX8_isNeeded_12 : decode cX8_isNeeded 12 = .ok (.goto 4, 3) := by decide +kernel
theorem dX8_isNeeded_15 : decode cX8_isNeeded 15 = .ok (.iconst 0, 1) := by decide +kernel
theorem dX8_isNeeded_16 : decode cX8_isNeeded 16 = .ok (.ireturn, 1) := by decide +kernel
theorem dX8_kitchens_0 : decode cX8_kitchens 0 = .ok (.aload_n 0, 1) := by decide +kernel
theorem dX8_kitchens_1 : decode cX8_kitchens 1 = .ok (.invokevirtual 177, 3) := by decide +kernel
theorem dX8_kitchens_4 : decode cX8_kitchens 4 = .ok (.iconst 1, 1) := by decide +kernel
theorem dX8_kitchens_5 : decode cX8_kitchens 5 = .ok (.istore_n 1, 1) := by decide +kernel
theorem dX8_kitchens_6 : decode cX8_kitchens 6 = .ok (.iload_n 1, 1) := by decide +kernel
theorem dX8_kitchens_7 : decode cX8_kitchens 7 = .ok (.bipush 8, 2) := by decide +kernel
theorem dX8_kitchens_9 : decode cX8_kitchens 9 = .ok (.if_icmp .ge 122, 3) := by decide +kernel
theorem dX8_kitchens_12 : decode cX8_kitchens 12 = .ok (.iconst (-1), 1) := by decide +kernel
theorem dX8_kitchens_13 : decode cX8_kitchens 13 = .ok (.istore_n 2, 1) := by decide +kernel
theorem dX8_kitchens_14 : decode cX8_kitchens 14 = .ok (.iconst (-1), 1) := by decide +kernel
theorem dX8_kitchens_15 : decode cX8_kitchens 15 = .ok (.istore_n 3, 1) := by decide +kernel
theorem dX8_kitchens_16 : decode cX8_kitchens 16 = .ok (.iconst 0, 1) := by decide +kernel
theorem dX8_kitchens_17 : decode cX8_kitchens 17 = .ok (.istore 4, 2) := by decide +kernel
theorem dX8_kitchens_19 : decode cX8_kitchens 19 = .ok (.iload 4, 2) := by decide +kernel
theorem dX8_kitchens_21 : decode cX8_kitchens 21 = .ok (.aload_n 0, 1) := by decide +kernel
theorem dX8_kitchens_22 : decode cX8_kitchens 22 = .ok (.getfield 59, 3) := by decide +kernel
theorem dX8_kitchens_25 : decode cX8_kitchens 25 = .ok (.iload_n 1, 1) := by decide +kernel
theorem dX8_kitchens_26 : decode cX8_kitchens 26 = .ok (.iconst 1, 1) := by decide +kernel
theorem dX8_kitchens_27 : decode cX8_kitchens 27 = .ok (.isub, 1) := by decide +kernel
theorem dX8_kitchens_28 : decode cX8_kitchens 28 = .ok (.iaload, 1) := by decide +kernel
theorem dX8_kitchens_29 : decode cX8_kitchens 29 = .ok (.if_icmp .ge 68, 3) := by decide +kernel
theorem dX8_kitchens_32 : decode cX8_kitchens 32 = .ok (.aload_n 0, 1) := by decide +kernel
theorem dX8_kitchens_33 : decode cX8_kitchens 33 = .ok (.getfield 50, 3) := by decide +kernel
theorem dX8_kitchens_36 : decode cX8_kitchens 36 = .ok (.bipush 10, 2) := by decide +kernel
theorem dX8_kitchens_38 : decode cX8_kitchens 38 = .ok (.iload_n 1, 1) := by decide +kernel
theorem dX8_kitchens_39 : decode cX8_kitchens 39 = .ok (.iconst 1, 1) := by decide +kernel
theorem dX8_kitchens_40 : decode cX8_kitchens 40 = .ok (.isub, 1) := by decide +kernel
theorem dX8_kitchens_41 : decode cX8_kitchens 41 = .ok (.imul, 1) := by decide +kernel
theorem dX8_kitchens_42 : decode cX8_kitchens 42 = .ok (.aload_n 0, 1) := by decide +kernel
theorem dX8_kitchens_43 : decode cX8_kitchens 43 = .ok (.getfield 56, 3) := by decide +kernel
theorem dX8_kitchens_46 : decode cX8_kitchens 46 = .ok (.bipush 10, 2) := by decide +kernel
theorem dX8_kitchens_48 : decode cX8_kitchens 48 = .ok (.iload_n 1, 1) := by decide +kernel
theorem dX8_kitchens_49 : decode cX8_kitchens 49 = .ok (.iconst 1, 1) := by decide +kernel
theorem dX8_kitchens_50 : decode cX8_kitchens 50 = .ok (.isub, 1) := by decide +kernel
theorem dX8_kitchens_51 : decode cX8_kitchens 51 = .ok (.imul, 1) := by decide +kernel
theorem dX8_kitchens_52 : decode cX8_kitchens 52 = .ok (.iload 4, 2) := by decide +kernel
theorem dX8_kitchens_54 : decode cX8_kitchens 54 = .ok (.iadd, 1) := by decide +kernel
theorem dX8_kitchens_55 : decode cX8_kitchens 55 = .ok (.iaload, 1) := by decide +kernel
theorem dX8_kitchens_56 : decode cX8_kitchens 56 = .ok (.iadd, 1) := by decide +kernel
theorem dX8_kitchens_57 : decode cX8_kitchens 57 = .ok (.iaload, 1) := by decide +kernel
theorem dX8_kitchens_58 : decode cX8_kitchens 58 = .ok (.istore 5, 2) := by decide +kernel
theorem dX8_kitchens_60 : decode cX8_kitchens 60 = .ok (.iload_n 2, 1) := by decide +kernel
theorem dX8_kitchens_61 : decode cX8_kitchens 61 = .ok (.iconst (-1), 1) := by decide +kernel
theorem dX8_kitchens_62 : decode cX8_kitchens 62 = .ok (.if_icmp .eq 9, 3) := by decide +kernel
theorem dX8_kitchens_65 : decode cX8_kitchens 65 = .ok (.iload 5, 2) := by decide +kernel
theorem dX8_kitchens_67 : decode cX8_kitchens 67 = .ok (.iload_n 2, 1) := by decide +kernel
theorem dX8_kitchens_68 : decode cX8_kitchens 68 = .ok (.if_icmp .ge 8, 3) := by decide +kernel
theorem dX8_kitchens_71 : decode cX8_kitchens 71 = .ok (.iload 5, 2) := by decide +kernel
theorem dX8_kitchens_73 : decode cX8_kitchens 73 = .ok (.goto 4, 3) := by decide +kernel
theorem dX8_kitchens_76 : decode cX8_kitchens 76 = .ok (.iload_n 2, 1) := by decide +kernel
theorem dX8_kitchens_77 : decode cX8_kitchens 77 = .ok (.istore_n 2, 1) := by decide +kernel
theorem dX8_kitchens_78 : decode cX8_kitchens 78 = .ok (.iload 5, 2) := by decide +kernel
theorem dX8_kitchens_80 : decode cX8_kitchens 80 = .ok (.iload_n 3, 1) := by decide +kernel
theorem dX8_kitchens_81 : decode cX8_kitchens 81 = .ok (.if_icmp .le 8, 3) := by decide +kernel
theorem dX8_kitchens_84 : decode cX8_kitchens 84 = .ok (.iload 5, 2) := by decide +kernel
theorem dX8_kitchens_86 : decode cX8_kitchens 86 = .ok (.goto 4, 3) := by decide +kernel
theorem dX8_kitchens_89 : decode cX8_kitchens 89 = .ok (.iload_n 3, 1) := by decide +kernel
theorem dX8_kitchens_90 : decode cX8_kitchens 90 = .ok (.istore_n 3, 1) := by decide +kernel
theorem dX8_kitchens_91 : decode cX8_kitchens 91 = .ok (.iinc 4 1, 3) := by decide +kernel
theorem dX8_kitchens_94 : decode cX8_kitchens 94 = .ok (.goto (-75), 3) := by decide +kernel
theorem dX8_kitchens_97 : decode cX8_kitchens 97 = .ok (.aload_n 0, 1) := by decide +kernel
theorem dX8_kitchens_98 : decode cX8_kitchens 98 = .ok (.getfield 62, 3) := by decide +kernel
theorem dX8_kitchens_101 : decode cX8_kitchens 101 = .ok (.iload_n 1, 1) := by decide +kernel
theorem dX8_kitchens_102 : decode cX8_kitchens 102 = .ok (.iload_n 2, 1) := by decide +kernel
theorem dX8_kitchens_103 : decode cX8_kitchens 103 = .ok (.aload_n 0, 1) := by decide +kernel
theorem dX8_kitchens_104 : decode cX8_kitchens 104 = .ok (.getfield 25, 3) := by decide +kernel
theorem dX8_kitchens_107 : decode cX8_kitchens 107 = .ok (.iconst 0, 1) := by decide +kernel
theorem dX8_kitchens_108 : decode cX8_kitchens 108 = .ok (.iaload, 1) := by decide +kernel
theorem dX8_kitchens_109 : decode cX8_kitchens 109 = .ok (.isub, 1) := by decide +kernel
theorem dX8_kitchens_110 : decode cX8_kitchens 110 = .ok (.iastore, 1) := by decide +kernel
theorem dX8_kitchens_111 : decode cX8_kitchens 111 = .ok (.aload_n 0, 1) := by decide +kernel
theorem dX8_kitchens_112 : decode cX8_kitchens 112 = .ok (.getfield 65, 3) := by decide +kernel
theorem dX8_kitchens_115 : decode cX8_kitchens 115 = .ok (.iload_n 1, 1) := by decide +kernel
theorem dX8_kitchens_116 : decode cX8_kitchens 116 = .ok (.iload_n 3, 1) := by decide +kernel
theorem dX8_kitchens_117 : decode cX8_kitchens 117 = .ok (.aload_n 0, 1) := by decide +kernel
theorem dX8_kitchens_118 : decode cX8_kitchens 118 = .ok (.getfield 25, 3) := by decide +kernel
theorem dX8_kitchens_121 : decode cX8_kitchens 121 = .ok (.iconst 1, 1) := by decide +kernel
theorem dX8_kitchens_122 : decode cX8_kitchens 122 = .ok (.iaload, 1) := by decide +kernel
theorem dX8_kitchens_123 : decode cX8_kitchens 123 = .ok (.iadd, 1) := by decide +kernel
theorem dX8_kitchens_124 : decode cX8_kitchens 124 = .ok (.iastore, 1) := by decide +kernel
theorem dX8_kitchens_125 : decode cX8_kitchens 125 = .ok (.iinc 1 1, 3) := by decide +kernel
theorem dX8_kitchens_128 : decode cX8_kitchens 128 = .ok (.goto (-122), 3) := by decide +kernel
theorem dX8_kitchens_131 : decode cX8_kitchens 131 = .ok (.return_, 1) := by decide +kernel
theorem dX8_between_0 : decode cX8_between 0 = .ok (.iconst 0, 1) := by decide +kernel
theorem dX8_between_1 : decode cX8_between 1 = .ok (.istore_n 3, 1) := by decide +kernel
theorem dX8_between_2 : decode cX8_between 2 = .ok (.iload_n 1, 1) := by decide +kernel
theorem dX8_between_3 : decode cX8_between 3 = .ok (.iconst 1, 1) := by decide +kernel
theorem dX8_between_4 : decode cX8_between 4 = .ok (.iadd, 1) := by decide +kernel
theorem dX8_between_5 : decode cX8_between 5 = .ok (.istore 4, 2) := by decide +kernel
theorem dX8_between_7 : decode cX8_between 7 = .ok (.iload 4, 2) := by decide +kernel
theorem dX8_between_9 : decode cX8_between 9 = .ok (.iload_n 2, 1) := by decide +kernel
theorem dX8_between_10 : decode cX8_between 10 = .ok (.if_icmp .gt 19, 3) := by decide +kernel
theorem dX8_between_13 : decode cX8_between 13 = .ok (.iload_n 3, 1) := by decide +kernel
theorem dX8_between_14 : decode cX8_between 14 = .ok (.aload_n 0, 1) := by decide +kernel
theorem dX8_between_15 : decode cX8_between 15 = .ok (.getfield 7, 3) := by decide +kernel
theorem dX8_between_18 : decode cX8_between 18 = .ok (.iload 4, 2) := by decide +kernel
theorem dX8_between_20 : decode cX8_between 20 = .ok (.iaload, 1) := by decide +kernel
theorem dX8_between_21 : decode cX8_between 21 = .ok (.iadd, 1) := by decide +kernel
theorem dX8_between_22 : decode cX8_between 22 = .ok (.istore_n 3, 1) := by decide +kernel
theorem dX8_between_23 : decode cX8_between 23 = .ok (.iinc 4 1, 3) := by decide +kernel
theorem dX8_between_26 : decode cX8_between 26 = .ok (.goto (-19), 3) := by decide +kernel
theorem dX8_between_29 : decode cX8_between 29 = .ok (.iload_n 3, 1) := by decide +kernel
theorem dX8_between_30 : decode cX8_between 30 = .ok (.ireturn, 1) := by decide +kernel
theorem dX8_lastOf_0 : decode cX8_lastOf 0 = .ok (.iconst (-1), 1) := by decide +kernel
theorem dX8_lastOf_1 : decode cX8_lastOf 1 = .ok (.istore_n 3, 1) := by decide +kernel
theorem dX8_lastOf_2 : decode cX8_lastOf 2 = .ok (.iconst 1, 1) := by decide +kernel
theorem dX8_lastOf_3 : decode cX8_lastOf 3 = .ok (.istore 4, 2) := by decide +kernel
theorem dX8_lastOf_5 : decode cX8_lastOf 5 = .ok (.iload 4, 2) := by decide +kernel
theorem dX8_lastOf_7 : decode cX8_lastOf 7 = .ok (.iload_n 2, 1) := by decide +kernel
theorem dX8_lastOf_8 : decode cX8_lastOf 8 = .ok (.if_icmp .ge 36, 3) := by decide +kernel
theorem dX8_lastOf_11 : decode cX8_lastOf 11 = .ok (.aload_n 0, 1) := by decide +kernel
theorem dX8_lastOf_12 : decode cX8_lastOf 12 = .ok (.iload 4, 2) := by decide +kernel
theorem dX8_lastOf_14 : decode cX8_lastOf 14 = .ok (.invokevirtual 180, 3) := by decide +kernel
theorem dX8_lastOf_17 : decode cX8_lastOf 17 = .ok (.ifCond .eq 19, 3) := by decide +kernel
theorem dX8_lastOf_20 : decode cX8_lastOf 20 = .ok (.aload_n 0, 1) := by decide +kernel
theorem dX8_lastOf_21 : decode cX8_lastOf 21 = .ok (.getfield 68, 3) := by decide +kernel
theorem dX8_lastOf_24 : decode cX8_lastOf 24 = .ok (.iload 4, 2) := by decide +kernel
theorem dX8_lastOf_26 : decode cX8_lastOf 26 = .ok (.iaload, 1) := by decide +kernel
theorem dX8_lastOf_27 : decode cX8_lastOf 27 = .ok (.iload_n 1, 1) := by decide +kernel
theorem dX8_lastOf_28 : decode cX8_lastOf 28 = .ok (.if_icmp .ne 8, 3) := by decide +kernel
theorem dX8_lastOf_31 : decode cX8_lastOf 31 = .ok (.iload 4, 2) := by decide +kernel
theorem dX8_lastOf_33 : decode cX8_lastOf 33 = .ok (.goto 4, 3) := by decide +kernel
theorem dX8_lastOf_36 : decode cX8_lastOf 36 = .ok (.iload_n 3, 1) := by decide +kernel
theorem dX8_lastOf_37 : decode cX8_lastOf 37 = .ok (.istore_n 3, 1) := by decide +kernel
theorem dX8_lastOf_38 : decode cX8_lastOf 38 = .ok (.iinc 4 1, 3) := by decide +kernel
theorem dX8_lastOf_41 : decode cX8_lastOf 41 = .ok (.goto (-36), 3) := by decide +kernel
theorem dX8_lastOf_44 : decode cX8_lastOf 44 = .ok (.iload_n 3, 1) := by decide +kernel
theorem dX8_lastOf_45 : decode cX8_lastOf 45 = .ok (.ireturn, 1) := by decide +kernel
theorem dX8_canDo_0 : decode cX8_canDo 0 = .ok (.aload_n 0, 1) := by decide +kernel
theorem dX8_canDo_1 : decode cX8_canDo 1 = .ok (.iload_n 1, 1) := by decide +kernel
theorem dX8_canDo_2 : decode cX8_canDo 2 = .ok (.iload_n 2, 1) := by decide +kernel
theorem dX8_canDo_3 : decode cX8_canDo 3 = .ok (.invokevirtual 183, 3) := by decide +kernel
theorem dX8_canDo_6 : decode cX8_canDo 6 = .ok (.istore_n 3, 1) := by decide +kernel
theorem dX8_canDo_7 : decode cX8_canDo 7 = .ok (.iload_n 3, 1) := by decide +kernel
theorem dX8_canDo_8 : decode cX8_canDo 8 = .ok (.iconst (-1), 1) := by decide +kernel
theorem dX8_canDo_9 : decode cX8_canDo 9 = .ok (.if_icmp .eq 44, 3) := by decide +kernel
theorem dX8_canDo_12 : decode cX8_canDo 12 = .ok (.aload_n 0, 1) := by decide +kernel
theorem dX8_canDo_13 : decode cX8_canDo 13 = .ok (.getfield 65, 3) := by decide +kernel
theorem dX8_canDo_16 : decode cX8_canDo 16 = .ok (.iload_n 3, 1) := by decide +kernel
theorem dX8_canDo_17 : decode cX8_canDo 17 = .ok (.iaload, 1) := by decide +kernel
theorem dX8_canDo_18 : decode cX8_canDo 18 = .ok (.bipush 60, 2) := by decide +kernel
theorem dX8_canDo_20 : decode cX8_canDo 20 = .ok (.aload_n 0, 1) := by decide +kernel
theorem dX8_canDo_21 : decode cX8_canDo 21 = .ok (.iload_n 3, 1) := by decide +kernel
theorem dX8_canDo_22 : decode cX8_canDo 22 = .ok (.iload_n 2, 1) := by decide +kernel
theorem dX8_canDo_23 : decode cX8_canDo 23 = .ok (.invokevirtual 186, 3) := by decide +kernel
theorem dX8_canDo_26 : decode cX8_canDo 26 = .ok (.imul, 1) := by decide +kernel
theorem dX8_canDo_27 : decode cX8_canDo 27 = .ok (.aload_n 0, 1) := by decide +kernel
theorem dX8_canDo_28 : decode cX8_canDo 28 = .ok (.getfield 25, 3) := by decide +kernel
theorem dX8_canDo_31 : decode cX8_canDo 31 = .ok (.iconst 2, 1) := by decide +kernel
theorem dX8_canDo_32 : decode cX8_canDo 32 = .ok (.iaload, 1) := by decide +kernel
theorem dX8_canDo_33 : decode cX8_canDo 33 = .ok (.iadd, 1) := by decide +kernel
theorem dX8_canDo_34 : decode cX8_canDo 34 = .ok (.iconst 1, 1) := by decide +kernel
theorem dX8_canDo_35 : decode cX8_canDo 35 = .ok (.isub, 1) := by decide +kernel
theorem dX8_canDo_36 : decode cX8_canDo 36 = .ok (.aload_n 0, 1) := by decide +kernel
theorem dX8_canDo_37 : decode cX8_canDo 37 = .ok (.getfield 25, 3) := by decide +kernel
theorem dX8_canDo_40 : decode cX8_canDo 40 = .ok (.iconst 2, 1) := by decide +kernel
theorem dX8_canDo_41 : decode cX8_canDo 41 = .ok (.iaload, 1) := by decide +kernel
theorem dX8_canDo_42 : decode cX8_canDo 42 = .ok (.idiv, 1) := by decide +kernel
theorem dX8_canDo_43 : decode cX8_canDo 43 = .ok (.iadd, 1) := by decide +kernel
theorem dX8_canDo_44 : decode cX8_canDo 44 = .ok (.aload_n 0, 1) := by decide +kernel
theorem dX8_canDo_45 : decode cX8_canDo 45 = .ok (.getfield 62, 3) := by decide +kernel
theorem dX8_canDo_48 : decode cX8_canDo 48 = .ok (.iload_n 2, 1) := by decide +kernel
theorem dX8_canDo_49 : decode cX8_canDo 49 = .ok (.iaload, 1) := by decide +kernel
theorem dX8_canDo_50 : decode cX8_canDo 50 = .ok (.if_icmp .gt 7, 3) := by decide +kernel
theorem dX8_canDo_53 : decode cX8_canDo 53 = .ok (.iconst 1, 1) := by decide +kernel
theorem dX8_canDo_54 : decode cX8_canDo 54 = .ok (.goto 4, 3) := by decide +kernel
theorem dX8_canDo_57 : decode cX8_canDo 57 = .ok (.iconst 0, 1) := by decide +kernel
theorem dX8_canDo_58 : decode cX8_canDo 58 = .ok (.ireturn, 1) := by decide +kernel
theorem dX8_tries_0 : decode cX8_tries 0 = .ok (.iload_n 1, 1) := by decide +kernel
theorem dX8_tries_1 : decode cX8_tries 1 = .ok (.bipush 8, 2) := by decide +kernel
theorem dX8_tries_3 : decode cX8_tries 3 = .ok (.if_icmp .ne 5, 3) := by decide +kernel
theorem dX8_tries_6 : decode cX8_tries 6 = .ok (.iconst 1, 1) := by decide +kernel
theorem dX8_tries_7 : decode cX8_tries 7 = .ok (.ireturn, 1) := by decide +kernel
theorem dX8_tries_8 : decode cX8_tries 8 = .ok (.aload_n 0, 1) := by decide +kernel
theorem dX8_tries_9 : decode cX8_tries 9 = .ok (.iload_n 1, 1) := by decide +kernel
theorem dX8_tries_10 : decode cX8_tries 10 = .ok (.invokevirtual 180, 3) := by decide +kernel
theorem dX8_tries_13 : decode cX8_tries 13 = .ok (.ifCond .ne 12, 3) := by decide +kernel
theorem dX8_tries_16 : decode cX8_tries 16 = .ok (.aload_n 0, 1) := by decide +kernel
theorem dX8_tries_17 : decode cX8_tries 17 = .ok (.iload_n 1, 1) := by decide +kernel
theorem dX8_tries_18 : decode cX8_tries 18 = .ok (.iconst 1, 1) := by decide +kernel
theorem dX8_tries_19 : decode cX8_tries 19 = .ok (.iadd, 1) := by decide +kernel
theorem dX8_tries_20 : decode cX8_tries 20 = .ok (.iload_n 2, 1) := by decide +kernel
theorem dX8_tries_21 : decode cX8_tries 21 = .ok (.invokevirtual 189, 3) := by decide +kernel
theorem dX8_tries_24 : decode cX8_tries 24 = .ok (.ireturn, 1) := by decide +kernel
theorem dX8_tries_25 : decode cX8_tries 25 = .ok (.iconst 0, 1) := by decide +kernel
theorem dX8_tries_26 : decode cX8_tries 26 = .ok (.istore_n 3, 1) := by decide +kernel
theorem dX8_tries_27 : decode cX8_tries 27 = .ok (.iload_n 3, 1) := by decide +kernel
theorem dX8_tries_28 : decode cX8_tries 28 = .ok (.iload_n 2, 1) := by decide +kernel
theorem dX8_tries_29 : decode cX8_tries 29 = .ok (.if_icmp .ge 41, 3) := by decide +kernel
theorem dX8_tries_32 : decode cX8_tries 32 = .ok (.aload_n 0, 1) := by decide +kernel
theorem dX8_tries_33 : decode cX8_tries 33 = .ok (.iload_n 3, 1) := by decide +kernel
theorem dX8_tries_34 : decode cX8_tries 34 = .ok (.iload_n 1, 1) := by decide +kernel
theorem dX8_tries_35 : decode cX8_tries 35 = .ok (.invokevirtual 192, 3) := by decide +kernel
theorem dX8_tries_38 : decode cX8_tries 38 = .ok (.ifCond .ne 6, 3) := by decide +kernel
theorem dX8_tries_41 : decode cX8_tries 41 = .ok (.goto 23, 3) := by decide +kernel
theorem dX8_tries_44 : decode cX8_tries 44 = .ok (.aload_n 0, 1) := by decide +kernel
theorem dX8_tries_45 : decode cX8_tries 45 = .ok (.getfield 68, 3) := by decide +kernel
theorem dX8_tries_48 : decode cX8_tries 48 = .ok (.iload_n 1, 1) := by decide +kernel
theorem dX8_tries_49 : decode cX8_tries 49 = .ok (.iload_n 3, 1) := by decide +kernel
theorem dX8_tries_50 : decode cX8_tries 50 = .ok (.iastore, 1) := by decide +kernel
theorem dX8_tries_51 : decode cX8_tries 51 = .ok (.aload_n 0, 1) := by decide +kernel
theorem dX8_tries_52 : decode cX8_tries 52 = .ok (.iload_n 1, 1) := by decide +kernel
theorem dX8_tries_53 : decode cX8_tries 53 = .ok (.iconst 1, 1) := by decide +kernel
theorem dX8_tries_54 : decode cX8_tries 54 = .ok (.iadd, 1) := by decide +kernel
theorem dX8_tries_55 : decode cX8_tries 55 = .ok (.iload_n 2, 1) := by decide +kernel
theorem dX8_tries_56 : decode cX8_tries 56 = .ok (.invokevirtual 189, 3) := by decide +kernel
theorem dX8_tries_59 : decode cX8_tries 59 = .ok (.ifCond .eq 5, 3) := by decide +kernel
theorem dX8_tries_62 : decode cX8_tries 62 = .ok (.iconst 1, 1) := by decide +kernel
theorem dX8_tries_63 : decode cX8_tries 63 = .ok (.ireturn, 1) := by decide +kernel
theorem dX8_tries_64 : decode cX8_tries 64 = .ok (.iinc 3 1, 3) := by decide +kernel
theorem dX8_tries_67 : decode cX8_tries 67 = .ok (.goto (-40), 3) := by decide +kernel
theorem dX8_tries_70 : decode cX8_tries 70 = .ok (.aload_n 0, 1) := by decide +kernel
theorem dX8_tries_71 : decode cX8_tries 71 = .ok (.getfield 68, 3) := by decide +kernel
theorem dX8_tries_74 : decode cX8_tries 74 = .ok (.iload_n 1, 1) := by decide +kernel
theorem dX8_tries_75 : decode cX8_tries 75 = .ok (.iconst (-1), 1) := by decide +kernel
theorem dX8_tries_76 : decode cX8_tries 76 = .ok (.iastore, 1) := by decide +kernel
theorem dX8_tries_77 : decode cX8_tries 77 = .ok (.iconst 0, 1) := by decide +kernel
theorem dX8_tries_78 : decode cX8_tries 78 = .ok (.ireturn, 1) := by decide +kernel
theorem dX8_finds_0 : decode cX8_finds 0 = .ok (.aload_n 0, 1) := by decide +kernel
theorem dX8_finds_1 : decode cX8_finds 1 = .ok (.invokevirtual 195, 3) := by decide +kernel
theorem dX8_finds_4 : decode cX8_finds 4 = .ok (.iconst 0, 1) := by decide +kernel
theorem dX8_finds_5 : decode cX8_finds 5 = .ok (.istore_n 1, 1) := by decide +kernel
theorem dX8_finds_6 : decode cX8_finds 6 = .ok (.aload_n 0, 1) := by decide +kernel
theorem dX8_finds_7 : decode cX8_finds 7 = .ok (.iconst 1, 1) := by decide +kernel
theorem dX8_finds_8 : decode cX8_finds 8 = .ok (.iload_n 1, 1) := by decide +kernel
theorem dX8_finds_9 : decode cX8_finds 9 = .ok (.invokevirtual 189, 3) := by decide +kernel
theorem dX8_finds_12 : decode cX8_finds 12 = .ok (.ifCond .ne 9, 3) := by decide +kernel
theorem dX8_finds_15 : decode cX8_finds 15 = .ok (.iinc 1 1, 3) := by decide +kernel
theorem dX8_finds_18 : decode cX8_finds 18 = .ok (.goto (-12), 3) := by decide +kernel
theorem dX8_finds_21 : decode cX8_finds 21 = .ok (.iload_n 1, 1) := by decide +kernel
theorem dX8_finds_22 : decode cX8_finds 22 = .ok (.ireturn, 1) := by decide +kernel
theorem dX8_sets_0 : decode cX8_sets 0 = .ok (.aload_n 0, 1) := by decide +kernel
theorem dX8_sets_1 : decode cX8_sets 1 = .ok (.invokevirtual 198, 3) := by decide +kernel
theorem dX8_sets_4 : decode cX8_sets 4 = .ok (.ireturn, 1) := by decide +kernel
theorem dX8_goes_0 : decode cX8_goes 0 = .ok (.iload_n 1, 1) := by decide +kernel
theorem dX8_goes_1 : decode cX8_goes 1 = .ok (.iconst 0, 1) := by decide +kernel
theorem dX8_goes_2 : decode cX8_goes 2 = .ok (.aload_n 0, 1) := by decide +kernel
theorem dX8_goes_3 : decode cX8_goes 3 = .ok (.invokevirtual 198, 3) := by decide +kernel
theorem dX8_goes_6 : decode cX8_goes 6 = .ok (.iconst 1, 1) := by decide +kernel
theorem dX8_goes_7 : decode cX8_goes 7 = .ok (.isub, 1) := by decide +kernel
theorem dX8_goes_8 : decode cX8_goes 8 = .ok (.invokestatic 71, 3) := by decide +kernel
theorem dX8_goes_11 : decode cX8_goes 11 = .ok (.ifCond .ne 5, 3) := by decide +kernel
theorem dX8_goes_14 : decode cX8_goes 14 = .ok (.iconst (-1), 1) := by decide +kernel
theorem dX8_goes_15 : decode cX8_goes 15 = .ok (.ireturn, 1) := by decide +kernel
theorem dX8_goes_16 : decode cX8_goes 16 = .ok (.iconst (-1), 1) := by decide +kernel
theorem dX8_goes_17 : decode cX8_goes 17 = .ok (.istore_n 2, 1) := by decide +kernel
theorem dX8_goes_18 : decode cX8_goes 18 = .ok (.iconst (-1), 1) := by decide +kernel
theorem dX8_goes_19 : decode cX8_goes 19 = .ok (.istore_n 3, 1) := by decide +kernel
theorem dX8_goes_20 : decode cX8_goes 20 = .ok (.iconst 1, 1) := by decide +kernel
theorem dX8_goes_21 : decode cX8_goes 21 = .ok (.istore 4, 2) := by decide +kernel
theorem dX8_goes_23 : decode cX8_goes 23 = .ok (.iload 4, 2) := by decide +kernel
theorem dX8_goes_25 : decode cX8_goes 25 = .ok (.bipush 8, 2) := by decide +kernel
theorem dX8_goes_27 : decode cX8_goes 27 = .ok (.if_icmp .ge 47, 3) := by decide +kernel
theorem dX8_goes_30 : decode cX8_goes 30 = .ok (.aload_n 0, 1) := by decide +kernel
theorem dX8_goes_31 : decode cX8_goes 31 = .ok (.iload 4, 2) := by decide +kernel
theorem dX8_goes_33 : decode cX8_goes 33 = .ok (.invokevirtual 180, 3) := by decide +kernel
theorem dX8_goes_36 : decode cX8_goes 36 = .ok (.ifCond .eq 32, 3) := by decide +kernel
theorem dX8_goes_39 : decode cX8_goes 39 = .ok (.aload_n 0, 1) := by decide +kernel
theorem dX8_goes_40 : decode cX8_goes 40 = .ok (.getfield 68, 3) := by decide +kernel
theorem dX8_goes_43 : decode cX8_goes 43 = .ok (.iload 4, 2) := by decide +kernel
theorem dX8_goes_45 : decode cX8_goes 45 = .ok (.iaload, 1) := by decide +kernel
theorem dX8_goes_46 : decode cX8_goes 46 = .ok (.iload_n 1, 1) := by decide +kernel
theorem dX8_goes_47 : decode cX8_goes 47 = .ok (.if_icmp .eq 6, 3) := by decide +kernel
theorem dX8_goes_50 : decode cX8_goes 50 = .ok (.goto 18, 3) := by decide +kernel
theorem dX8_goes_53 : decode cX8_goes 53 = .ok (.iload_n 2, 1) := by decide +kernel
theorem dX8_goes_54 : decode cX8_goes 54 = .ok (.iconst (-1), 1) := by decide +kernel
theorem dX8_goes_55 : decode cX8_goes 55 = .ok (.if_icmp .ne 8, 3) := by decide +kernel
theorem dX8_goes_58 : decode cX8_goes 58 = .ok (.iload 4, 2) := by decide +kernel
theorem dX8_goes_60 : decode cX8_goes 60 = .ok (.goto 4, 3) := by decide +kernel
theorem dX8_goes_63 : decode cX8_goes 63 = .ok (.iload_n 2, 1) := by decide +kernel
theorem dX8_goes_64 : decode cX8_goes 64 = .ok (.istore_n 2, 1) := by decide +kernel
theorem dX8_goes_65 : decode cX8_goes 65 = .ok (.iload 4, 2) := by decide +kernel
theorem dX8_goes_67 : decode cX8_goes 67 = .ok (.istore_n 3, 1) := by decide +kernel
theorem dX8_goes_68 : decode cX8_goes 68 = .ok (.iinc 4 1, 3) := by decide +kernel
theorem dX8_goes_71 : decode cX8_goes 71 = .ok (.goto (-48), 3) := by decide +kernel
theorem dX8_goes_74 : decode cX8_goes 74 = .ok (.aload_n 0, 1) := by decide +kernel
theorem dX8_goes_75 : decode cX8_goes 75 = .ok (.iload_n 2, 1) := by decide +kernel
theorem dX8_goes_76 : decode cX8_goes 76 = .ok (.iload_n 3, 1) := by decide +kernel
theorem dX8_goes_77 : decode cX8_goes 77 = .ok (.invokevirtual 186, 3) := by decide +kernel
theorem dX8_goes_80 : decode cX8_goes 80 = .ok (.ireturn, 1) := by decide +kernel
theorem dX8_of_0 : decode cX8_of 0 = .ok (.iload_n 1, 1) := by decide +kernel
theorem dX8_of_1 : decode cX8_of 1 = .ok (.invokestatic 78, 3) := by decide +kernel
theorem dX8_of_4 : decode cX8_of 4 = .ok (.ifCond .ne 5, 3) := by decide +kernel
theorem dX8_of_7 : decode cX8_of 7 = .ok (.iconst (-1), 1) := by decide +kernel
theorem dX8_of_8 : decode cX8_of 8 = .ok (.ireturn, 1) := by decide +kernel
theorem dX8_of_9 : decode cX8_of 9 = .ok (.aload_n 0, 1) := by decide +kernel
theorem dX8_of_10 : decode cX8_of 10 = .ok (.invokevirtual 198, 3) := by decide +kernel
theorem dX8_of_13 : decode cX8_of 13 = .ok (.pop, 1) := by decide +kernel
theorem dX8_of_14 : decode cX8_of 14 = .ok (.aload_n 0, 1) := by decide +kernel
theorem dX8_of_15 : decode cX8_of 15 = .ok (.getfield 59, 3) := by decide +kernel
theorem dX8_of_18 : decode cX8_of 18 = .ok (.iload_n 1, 1) := by decide +kernel
theorem dX8_of_19 : decode cX8_of 19 = .ok (.iconst 1, 1) := by decide +kernel
theorem dX8_of_20 : decode cX8_of 20 = .ok (.isub, 1) := by decide +kernel
theorem dX8_of_21 : decode cX8_of 21 = .ok (.iaload, 1) := by decide +kernel
theorem dX8_of_22 : decode cX8_of 22 = .ok (.istore_n 3, 1) := by decide +kernel
theorem dX8_of_23 : decode cX8_of 23 = .ok (.iload_n 2, 1) := by decide +kernel
theorem dX8_of_24 : decode cX8_of 24 = .ok (.tableswitch 120 0 5 #[40, 42, 57, 72, 87, 96], 40) := by decide +kernel
theorem dX8_of_64 : decode cX8_of 64 = .ok (.iload_n 3, 1) := by decide +kernel
theorem dX8_of_65 : decode cX8_of 65 = .ok (.ireturn, 1) := by decide +kernel
theorem dX8_of_66 : decode cX8_of 66 = .ok (.iload_n 3, 1) := by decide +kernel
theorem dX8_of_67 : decode cX8_of 67 = .ok (.ifCond .ne 7, 3) := by decide +kernel
theorem dX8_of_70 : decode cX8_of 70 = .ok (.iconst (-1), 1) := by decide +kernel
theorem dX8_of_71 : decode cX8_of 71 = .ok (.goto 9, 3) := by decide +kernel
theorem dX8_of_74 : decode cX8_of 74 = .ok (.aload_n 0, 1) := by decide +kernel
theorem dX8_of_75 : decode cX8_of 75 = .ok (.getfield 62, 3) := by decide +kernel
theorem dX8_of_78 : decode cX8_of 78 = .ok (.iload_n 1, 1) := by decide +kernel
theorem dX8_of_79 : decode cX8_of 79 = .ok (.iaload, 1) := by decide +kernel
theorem dX8_of_80 : decode cX8_of 80 = .ok (.ireturn, 1) := by decide +kernel
theorem dX8_of_81 : decode cX8_of 81 = .ok (.iload_n 3, 1) := by decide +kernel
theorem dX8_of_82 : decode cX8_of 82 = .ok (.ifCond .ne 7, 3) := by decide +kernel
theorem dX8_of_85 : decode cX8_of 85 = .ok (.iconst (-1), 1) := by decide +kernel
theorem dX8_of_86 : decode cX8_of 86 = .ok (.goto 9, 3) := by decide +kernel
theorem dX8_of_89 : decode cX8_of 89 = .ok (.aload_n 0, 1) := by decide +kernel
theorem dX8_of_90 : decode cX8_of 90 = .ok (.getfield 65, 3) := by decide +kernel
theorem dX8_of_93 : decode cX8_of 93 = .ok (.iload_n 1, 1) := by decide +kernel
theorem dX8_of_94 : decode cX8_of 94 = .ok (.iaload, 1) := by decide +kernel
theorem dX8_of_95 : decode cX8_of 95 = .ok (.ireturn, 1) := by decide +kernel
theorem dX8_of_96 : decode cX8_of 96 = .ok (.iload_n 3, 1) := by decide +kernel
theorem dX8_of_97 : decode cX8_of 97 = .ok (.ifCond .ne 7, 3) := by decide +kernel
theorem dX8_of_100 : decode cX8_of 100 = .ok (.iconst (-1), 1) := by decide +kernel
theorem dX8_of_101 : decode cX8_of 101 = .ok (.goto 9, 3) := by decide +kernel
theorem dX8_of_104 : decode cX8_of 104 = .ok (.aload_n 0, 1) := by decide +kernel
theorem dX8_of_105 : decode cX8_of 105 = .ok (.getfield 68, 3) := by decide +kernel
theorem dX8_of_108 : decode cX8_of 108 = .ok (.iload_n 1, 1) := by decide +kernel
theorem dX8_of_109 : decode cX8_of 109 = .ok (.iaload, 1) := by decide +kernel
theorem dX8_of_110 : decode cX8_of 110 = .ok (.ireturn, 1) := by decide +kernel
theorem dX8_of_111 : decode cX8_of 111 = .ok (.aload_n 0, 1) := by decide +kernel
theorem dX8_of_112 : decode cX8_of 112 = .ok (.getfield 25, 3) := by decide +kernel
theorem dX8_of_115 : decode cX8_of 115 = .ok (.iconst 3, 1) := by decide +kernel
theorem dX8_of_116 : decode cX8_of 116 = .ok (.iaload, 1) := by decide +kernel
theorem dX8_of_117 : decode cX8_of 117 = .ok (.iload_n 3, 1) := by decide +kernel
theorem dX8_of_118 : decode cX8_of 118 = .ok (.iadd, 1) := by decide +kernel
theorem dX8_of_119 : decode cX8_of 119 = .ok (.ireturn, 1) := by decide +kernel
theorem dX8_of_120 : decode cX8_of 120 = .ok (.aload_n 0, 1) := by decide +kernel
theorem dX8_of_121 : decode cX8_of 121 = .ok (.getfield 25, 3) := by decide +kernel
theorem dX8_of_124 : decode cX8_of 124 = .ok (.iconst 3, 1) := by decide +kernel
theorem dX8_of_125 : decode cX8_of 125 = .ok (.iaload, 1) := by decide +kernel
theorem dX8_of_126 : decode cX8_of 126 = .ok (.iload_n 3, 1) := by decide +kernel
theorem dX8_of_127 : decode cX8_of 127 = .ok (.iadd, 1) := by decide +kernel
theorem dX8_of_128 : decode cX8_of 128 = .ok (.aload_n 0, 1) := by decide +kernel
theorem dX8_of_129 : decode cX8_of 129 = .ok (.getfield 25, 3) := by decide +kernel
theorem dX8_of_132 : decode cX8_of 132 = .ok (.iconst 4, 1) := by decide +kernel
theorem dX8_of_133 : decode cX8_of 133 = .ok (.iaload, 1) := by decide +kernel
theorem dX8_of_134 : decode cX8_of 134 = .ok (.imul, 1) := by decide +kernel
theorem dX8_of_135 : decode cX8_of 135 = .ok (.sipush 999, 3) := by decide +kernel
theorem dX8_of_138 : decode cX8_of 138 = .ok (.iadd, 1) := by decide +kernel
theorem dX8_of_139 : decode cX8_of 139 = .ok (.sipush 1000, 3) := by decide +kernel
theorem dX8_of_142 : decode cX8_of 142 = .ok (.idiv, 1) := by decide +kernel
theorem dX8_of_143 : decode cX8_of 143 = .ok (.ireturn, 1) := by decide +kernel
theorem dX8_of_144 : decode cX8_of 144 = .ok (.iconst (-1), 1) := by decide +kernel
theorem dX8_of_145 : decode cX8_of 145 = .ok (.ireturn, 1) := by decide +kernel
theorem dX8_sweep_0 : decode cX8_sweep 0 = .ok (.iload_n 1, 1) := by decide +kernel
theorem dX8_sweep_1 : decode cX8_sweep 1 = .ok (.invokestatic 82, 3) := by decide +kernel
theorem dX8_sweep_4 : decode cX8_sweep 4 = .ok (.ifCond .eq 12, 3) := by decide +kernel
theorem dX8_sweep_7 : decode cX8_sweep 7 = .ok (.iload_n 2, 1) := by decide +kernel
theorem dX8_sweep_8 : decode cX8_sweep 8 = .ok (.iconst 0, 1) := by decide +kernel
theorem dX8_sweep_9 : decode cX8_sweep 9 = .ok (.iconst 2, 1) := by decide +kernel
theorem dX8_sweep_10 : decode cX8_sweep 10 = .ok (.invokestatic 71, 3) := by decide +kernel
theorem dX8_sweep_13 : decode cX8_sweep 13 = .ok (.ifCond .ne 5, 3) := by decide +kernel
theorem dX8_sweep_16 : decode cX8_sweep 16 = .ok (.iconst (-1), 1) := by decide +kernel
theorem dX8_sweep_17 : decode cX8_sweep 17 = .ok (.ireturn, 1) := by decide +kernel
theorem dX8_sweep_18 : decode cX8_sweep 18 = .ok (.aload_n 0, 1) := by decide +kernel
theorem dX8_sweep_19 : decode cX8_sweep 19 = .ok (.invokevirtual 177, 3) := by decide +kernel
theorem dX8_sweep_22 : decode cX8_sweep 22 = .ok (.iconst 0, 1) := by decide +kernel
theorem dX8_sweep_23 : decode cX8_sweep 23 = .ok (.istore_n 3, 1) := by decide +kernel
theorem dX8_sweep_24 : decode cX8_sweep 24 = .ok (.iconst 0, 1) := by decide +kernel
theorem dX8_sweep_25 : decode cX8_sweep 25 = .ok (.istore 4, 2) := by decide +kernel
theorem dX8_sweep_27 : decode cX8_sweep 27 = .ok (.iconst (-1), 1) := by decide +kernel
theorem dX8_sweep_28 : decode cX8_sweep 28 = .ok (.istore 5, 2) := by decide +kernel
theorem dX8_sweep_30 : decode cX8_sweep 30 = .ok (.iconst 0, 1) := by decide +kernel
theorem dX8_sweep_31 : decode cX8_sweep 31 = .ok (.istore 6, 2) := by decide +kernel
theorem dX8_sweep_33 : decode cX8_sweep 33 = .ok (.iload 6, 2) := by decide +kernel
theorem dX8_sweep_35 : decode cX8_sweep 35 = .ok (.aload_n 0, 1) := by decide +kernel
theorem dX8_sweep_36 : decode cX8_sweep 36 = .ok (.getfield 75, 3) := by decide +kernel
theorem dX8_sweep_39 : decode cX8_sweep 39 = .ok (.if_icmp .ge 85, 3) := by decide +kernel
theorem dX8_sweep_42 : decode cX8_sweep 42 = .ok (.aload_n 0, 1) := by decide +kernel
theorem dX8_sweep_43 : decode cX8_sweep 43 = .ok (.getfield 47, 3) := by decide +kernel
theorem dX8_sweep_46 : decode cX8_sweep 46 = .ok (.bipush 10, 2) := by decide +kernel
theorem dX8_sweep_48 : decode cX8_sweep 48 = .ok (.iload_n 1, 1) := by decide +kernel
theorem dX8_sweep_49 : decode cX8_sweep 49 = .ok (.imul, 1) := by decide +kernel
theorem dX8_sweep_50 : decode cX8_sweep 50 = .ok (.iload 6, 2) := by decide +kernel
theorem dX8_sweep_52 : decode cX8_sweep 52 = .ok (.iadd, 1) := by decide +kernel
theorem dX8_sweep_53 : decode cX8_sweep 53 = .ok (.iaload, 1) := by decide +kernel
theorem dX8_sweep_54 : decode cX8_sweep 54 = .ok (.iload 5, 2) := by decide +kernel
theorem dX8_sweep_56 : decode cX8_sweep 56 = .ok (.if_icmp .le 18, 3) := by decide +kernel
theorem dX8_sweep_59 : decode cX8_sweep 59 = .ok (.aload_n 0, 1) := by decide +kernel
theorem dX8_sweep_60 : decode cX8_sweep 60 = .ok (.getfield 47, 3) := by decide +kernel
theorem dX8_sweep_63 : decode cX8_sweep 63 = .ok (.bipush 10, 2) := by decide +kernel
theorem dX8_sweep_65 : decode cX8_sweep 65 = .ok (.iload_n 1, 1) := by decide +kernel
theorem dX8_sweep_66 : decode cX8_sweep 66 = .ok (.imul, 1) := by decide +kernel
theorem dX8_sweep_67 : decode cX8_sweep 67 = .ok (.iload 6, 2) := by decide +kernel
theorem dX8_sweep_69 : decode cX8_sweep 69 = .ok (.iadd, 1) := by decide +kernel
theorem dX8_sweep_70 : decode cX8_sweep 70 = .ok (.iaload, 1) := by decide +kernel
theorem dX8_sweep_71 : decode cX8_sweep 71 = .ok (.goto 5, 3) := by decide +kernel
theorem dX8_sweep_74 : decode cX8_sweep 74 = .ok (.iload 5, 2) := by decide +kernel
theorem dX8_sweep_76 : decode cX8_sweep 76 = .ok (.istore 5, 2) := by decide +kernel
theorem dX8_sweep_78 : decode cX8_sweep 78 = .ok (.aload_n 0, 1) := by decide +kernel
theorem dX8_sweep_79 : decode cX8_sweep 79 = .ok (.getfield 47, 3) := by decide +kernel
theorem dX8_sweep_82 : decode cX8_sweep 82 = .ok (.bipush 10, 2) := by decide +kernel
theorem dX8_sweep_84 : decode cX8_sweep 84 = .ok (.iload_n 1, 1) := by decide +kernel
theorem dX8_sweep_85 : decode cX8_sweep 85 = .ok (.imul, 1) := by decide +kernel
theorem dX8_sweep_86 : decode cX8_sweep 86 = .ok (.iload 6, 2) := by decide +kernel
theorem dX8_sweep_88 : decode cX8_sweep 88 = .ok (.iadd, 1) := by decide +kernel
theorem dX8_sweep_89 : decode cX8_sweep 89 = .ok (.iaload, 1) := by decide +kernel
theorem dX8_sweep_90 : decode cX8_sweep 90 = .ok (.iconst (-1), 1) := by decide +kernel
theorem dX8_sweep_91 : decode cX8_sweep 91 = .ok (.if_icmp .eq 27, 3) := by decide +kernel
theorem dX8_sweep_94 : decode cX8_sweep 94 = .ok (.aload_n 0, 1) := by decide +kernel
theorem dX8_sweep_95 : decode cX8_sweep 95 = .ok (.getfield 19, 3) := by decide +kernel
theorem dX8_sweep_98 : decode cX8_sweep 98 = .ok (.iload 6, 2) := by decide +kernel
theorem dX8_sweep_100 : decode cX8_sweep 100 = .ok (.iaload, 1) := by decide +kernel
theorem dX8_sweep_101 : decode cX8_sweep 101 = .ok (.iload_n 1, 1) := by decide +kernel
theorem dX8_sweep_102 : decode cX8_sweep 102 = .ok (.if_icmp .eq 6, 3) := by decide +kernel
theorem dX8_sweep_105 : decode cX8_sweep 105 = .ok (.goto 13, 3) := by decide +kernel
theorem dX8_sweep_108 : decode cX8_sweep 108 = .ok (.iload_n 3, 1) := by decide +kernel
theorem dX8_sweep_109 : decode cX8_sweep 109 = .ok (.iconst 1, 1) := by decide +kernel
theorem dX8_sweep_110 : decode cX8_sweep 110 = .ok (.iload 6, 2) := by decide +kernel
theorem dX8_sweep_112 : decode cX8_sweep 112 = .ok (.ishl, 1) := by decide +kernel
theorem dX8_sweep_113 : decode cX8_sweep 113 = .ok (.ior, 1) := by decide +kernel
theorem dX8_sweep_114 : decode cX8_sweep 114 = .ok (.istore_n 3, 1) := by decide +kernel
theorem dX8_sweep_115 : decode cX8_sweep 115 = .ok (.iinc 4 1, 3) := by decide +kernel
theorem dX8_sweep_118 : decode cX8_sweep 118 = .ok (.iinc 6 1, 3) := by decide +kernel
theorem dX8_sweep_121 : decode cX8_sweep 121 = .ok (.goto (-88), 3) := by decide +kernel
theorem dX8_sweep_124 : decode cX8_sweep 124 = .ok (.iload_n 2, 1) := by decide +kernel
theorem dX8_sweep_125 : decode cX8_sweep 125 = .ok (.ifCond .ne 12, 3) := by decide +kernel
theorem dX8_sweep_128 : decode cX8_sweep 128 = .ok (.iload 4, 2) := by decide +kernel
theorem dX8_sweep_130 : decode cX8_sweep 130 = .ok (.iconst 3, 1) := by decide +kernel
theorem dX8_sweep_131 : decode cX8_sweep 131 = .ok (.iadd, 1) := by decide +kernel
theorem dX8_sweep_132 : decode cX8_sweep 132 = .ok (.iconst 4, 1) := by decide +kernel
theorem dX8_sweep_133 : decode cX8_sweep 133 = .ok (.idiv, 1) := by decide +kernel
theorem dX8_sweep_134 : decode cX8_sweep 134 = .ok (.goto 40, 3) := by decide +kernel
theorem dX8_sweep_137 : decode cX8_sweep 137 = .ok (.iload_n 2, 1) := by decide +kernel
theorem dX8_sweep_138 : decode cX8_sweep 138 = .ok (.iconst 1, 1) := by decide +kernel
theorem dX8_sweep_139 : decode cX8_sweep 139 = .ok (.if_icmp .ne 7, 3) := by decide +kernel
theorem dX8_sweep_142 : decode cX8_sweep 142 = .ok (.iload_n 3, 1) := by decide +kernel
theorem dX8_sweep_143 : decode cX8_sweep 143 = .ok (.goto 31, 3) := by decide +kernel
theorem dX8_sweep_146 : decode cX8_sweep 146 = .ok (.iload 4, 2) := by decide +kernel
theorem dX8_sweep_148 : decode cX8_sweep 148 = .ok (.ifCond .ne 7, 3) := by decide +kernel
theorem dX8_sweep_151 : decode cX8_sweep 151 = .ok (.iconst (-1), 1) := by decide +kernel
theorem dX8_sweep_152 : decode cX8_sweep 152 = .ok (.goto 22, 3) := by decide +kernel
theorem dX8_sweep_155 : decode cX8_sweep 155 = .ok (.iload 5, 2) := by decide +kernel
theorem dX8_sweep_157 : decode cX8_sweep 157 = .ok (.bipush 60, 2) := by decide +kernel
theorem dX8_sweep_159 : decode cX8_sweep 159 = .ok (.iadd, 1) := by decide +kernel
theorem dX8_sweep_160 : decode cX8_sweep 160 = .ok (.iconst 2, 1) := by decide +kernel
theorem dX8_sweep_161 : decode cX8_sweep 161 = .ok (.aload_n 0, 1) := by decide +kernel
theorem dX8_sweep_162 : decode cX8_sweep 162 = .ok (.iload_n 1, 1) := by decide +kernel
theorem dX8_sweep_163 : decode cX8_sweep 163 = .ok (.invokevirtual 88, 3) := by decide +kernel
theorem dX8_sweep_166 : decode cX8_sweep 166 = .ok (.imul, 1) := by decide +kernel
theorem dX8_sweep_167 : decode cX8_sweep 167 = .ok (.iadd, 1) := by decide +kernel
theorem dX8_sweep_168 : decode cX8_sweep 168 = .ok (.bipush 15, 2) := by decide +kernel
theorem dX8_sweep_170 : decode cX8_sweep 170 = .ok (.iload 4, 2) := by decide +kernel
theorem dX8_sweep_172 : decode cX8_sweep 172 = .ok (.imul, 1) := by decide +kernel
theorem dX8_sweep_173 : decode cX8_sweep 173 = .ok (.iadd, 1) := by decide +kernel
theorem dX8_sweep_174 : decode cX8_sweep 174 = .ok (.ireturn, 1) := by decide +kernel
theorem dL_law_0 : decode cL_law 0 = .ok (.new 7, 3) := by decide +kernel
theorem dL_law_3 : decode cL_law 3 = .ok (.dup, 1) := by decide +kernel
theorem dL_law_4 : decode cL_law 4 = .ok (.invokespecial 9, 3) := by decide +kernel
theorem dL_law_7 : decode cL_law 7 = .ok (.astore_n 1, 1) := by decide +kernel
theorem dL_law_8 : decode cL_law 8 = .ok (.new 10, 3) := by decide +kernel
theorem dL_law_11 : decode cL_law 11 = .ok (.dup, 1) := by decide +kernel
theorem dL_law_12 : decode cL_law 12 = .ok (.invokespecial 12, 3) := by decide +kernel
theorem dL_law_15 : decode cL_law 15 = .ok (.astore_n 2, 1) := by decide +kernel
theorem dL_law_16 : decode cL_law 16 = .ok (.iconst 0, 1) := by decide +kernel
theorem dL_law_17 : decode cL_law 17 = .ok (.istore_n 3, 1) := by decide +kernel
theorem dL_law_18 : decode cL_law 18 = .ok (.iload_n 3, 1) := by decide +kernel
theorem dL_law_19 : decode cL_law 19 = .ok (.aload_n 0, 1) := by decide +kernel
theorem dL_law_20 : decode cL_law 20 = .ok (.arraylength, 1) := by decide +kernel
theorem dL_law_21 : decode cL_law 21 = .ok (.bipush 6, 2) := by decide +kernel
theorem dL_law_23 : decode cL_law 23 = .ok (.isub, 1) := by decide +kernel
theorem dL_law_24 : decode cL_law 24 = .ok (.if_icmp .gt 619, 3) := by decide +kernel
theorem dL_law_27 : decode cL_law 27 = .ok (.aload_n 0, 1) := by decide +kernel
theorem dL_law_28 : decode cL_law 28 = .ok (.iload_n 3, 1) := by decide +kernel
theorem dL_law_29 : decode cL_law 29 = .ok (.iaload, 1) := by decide +kernel
theorem dL_law_30 : decode cL_law 30 = .ok (.bipush 31, 2) := by decide +kernel
theorem dL_law_32 : decode cL_law 32 = .ok (.iand, 1) := by decide +kernel
theorem dL_law_33 : decode cL_law 33 = .ok (.tableswitch 604 0 16 #[83, 116, 149, 172, 215, 248, 311, 334, 347, 370, 393, 426, 469, 502, 535, 548, 571], 83) := by decide +kernel
theorem dL_law_116 : decode cL_law 116 = .ok (.aload_n 1, 1) := by decide +kernel
theorem dL_law_117 : decode cL_law 117 = .ok (.aload_n 0, 1) := by decide +kernel
theorem dL_law_118 : decode cL_law 118 = .ok (.iload_n 3, 1) := by decide +kernel
theorem dL_law_119 : decode cL_law 119 = .ok (.iconst 1, 1) := by decide +kernel
theorem dL_law_120 : decode cL_law 120 = .ok (.iadd, 1) := by decide +kernel
theorem dL_law_121 : decode cL_law 121 = .ok (.iaload, 1) := by decide +kernel
theorem dL_law_122 : decode cL_law 122 = .ok (.aload_n 0, 1) := by decide +kernel
theorem dL_law_123 : decode cL_law 123 = .ok (.iload_n 3, 1) := by decide +kernel
theorem dL_law_124 : decode cL_law 124 = .ok (.iconst 2, 1) := by decide +kernel
theorem dL_law_125 : decode cL_law 125 = .ok (.iadd, 1) := by decide +kernel
theorem dL_law_126 : decode cL_law 126 = .ok (.iaload, 1) := by decide +kernel
theorem dL_law_127 : decode cL_law 127 = .ok (.invokevirtual 13, 3) := by decide +kernel
theorem dL_law_130 : decode cL_law 130 = .ok (.aload_n 2, 1) := by decide +kernel
theorem dL_law_131 : decode cL_law 131 = .ok (.aload_n 0, 1) := by decide +kernel
theorem dL_law_132 : decode cL_law 132 = .ok (.iload_n 3, 1) := by decide +kernel
theorem dL_law_133 : decode cL_law 133 = .ok (.iconst 1, 1) := by decide +kernel
theorem dL_law_134 : decode cL_law 134 = .ok (.iadd, 1) := by decide +kernel
theorem dL_law_135 : decode cL_law 135 = .ok (.iaload, 1) := by decide +kernel
theorem dL_law_136 : decode cL_law 136 = .ok (.aload_n 0, 1) := by decide +kernel
theorem dL_law_137 : decode cL_law 137 = .ok (.iload_n 3, 1) := by decide +kernel
theorem dL_law_138 : decode cL_law 138 = .ok (.iconst 2, 1) := by decide +kernel
theorem dL_law_139 : decode cL_law 139 = .ok (.iadd, 1) := by decide +kernel
theorem dL_law_140 : decode cL_law 140 = .ok (.iaload, 1) := by decide +kernel
theorem dL_law_141 : decode cL_law 141 = .ok (.invokevirtual 17, 3) := by decide +kernel
theorem dL_law_144 : decode cL_law 144 = .ok (.if_icmp .eq 493, 3) := by decide +kernel
theorem dL_law_147 : decode cL_law 147 = .ok (.iconst 0, 1) := by decide +kernel
theorem dL_law_148 : decode cL_law 148 = .ok (.ireturn, 1) := by decide +kernel
theorem dL_law_149 : decode cL_law 149 = .ok (.aload_n 1, 1) := by decide +kernel
theorem dL_law_150 : decode cL_law 150 = .ok (.aload_n 0, 1) := by decide +kernel
theorem dL_law_151 : decode cL_law 151 = .ok (.iload_n 3, 1) := by decide +kernel
theorem dL_law_152 : decode cL_law 152 = .ok (.iconst 1, 1) := by decide +kernel
theorem dL_law_153 : decode cL_law 153 = .ok (.iadd, 1) := by decide +kernel
theorem dL_law_154 : decode cL_law 154 = .ok (.iaload, 1) := by decide +kernel
theorem dL_law_155 : decode cL_law 155 = .ok (.aload_n 0, 1) := by decide +kernel
theorem dL_law_156 : decode cL_law 156 = .ok (.iload_n 3, 1) := by decide +kernel
theorem dL_law_157 : decode cL_law 157 = .ok (.iconst 2, 1) := by decide +kernel
theorem dL_law_158 : decode cL_law 158 = .ok (.iadd, 1) := by decide +kernel
theorem dL_law_159 : decode cL_law 159 = .ok (.iaload, 1) := by decide +kernel
theorem dL_law_160 : decode cL_law 160 = .ok (.invokevirtual 18, 3) := by decide +kernel
theorem dL_law_163 : decode cL_law 163 = .ok (.aload_n 2, 1) := by decide +kernel
theorem dL_law_164 : decode cL_law 164 = .ok (.aload_n 0, 1) := by decide +kernel
theorem dL_law_165 : decode cL_law 165 = .ok (.iload_n 3, 1) := by decide +kernel
theorem dL_law_166 : decode cL_law 166 = .ok (.iconst 1, 1) := by decide +kernel
theorem dL_law_167 : decode cL_law 167 = .ok (.iadd, 1) := by decide +kernel
theorem dL_law_168 : decode cL_law 168 = .ok (.iaload, 1) := by decide +kernel
theorem dL_law_169 : decode cL_law 169 = .ok (.aload_n 0, 1) := by decide +kernel
theorem dL_law_170 : decode cL_law 170 = .ok (.iload_n 3, 1) := by decide +kernel
theorem dL_law_171 : decode cL_law 171 = .ok (.iconst 2, 1) := by decide +kernel
theorem dL_law_172 : decode cL_law 172 = .ok (.iadd, 1) := by decide +kernel
theorem dL_law_173 : decode cL_law 173 = .ok (.iaload, 1) := by decide +kernel
theorem dL_law_174 : decode cL_law 174 = .ok (.invokevirtual 21, 3) := by decide +kernel
theorem dL_law_177 : decode cL_law 177 = .ok (.if_icmp .eq 460, 3) := by decide +kernel
theorem dL_law_180 : decode cL_law 180 = .ok (.iconst 0, 1) := by decide +kernel
theorem dL_law_181 : decode cL_law 181 = .ok (.ireturn, 1) := by decide +kernel
theorem dL_law_182 : decode cL_law 182 = .ok (.aload_n 1, 1) := by decide +kernel
theorem dL_law_183 : decode cL_law 183 = .ok (.aload_n 0, 1) := by decide +kernel
theorem dL_law_184 : decode cL_law 184 = .ok (.iload_n 3, 1) := by decide +kernel
theorem dL_law_185 : decode cL_law 185 = .ok (.iconst 1, 1) := by decide +kernel
theorem dL_law_186 : decode cL_law 186 = .ok (.iadd, 1) := by decide +kernel
theorem dL_law_187 : decode cL_law 187 = .ok (.iaload, 1) := by decide +kernel
theorem dL_law_188 : decode cL_law 188 = .ok (.invokevirtual 22, 3) := by decide +kernel
theorem dL_law_191 : decode cL_law 191 = .ok (.aload_n 2, 1) := by decide +kernel
theorem dL_law_192 : decode cL_law 192 = .ok (.aload_n 0, 1) := by decide +kernel
theorem dL_law_193 : decode cL_law 193 = .ok (.iload_n 3, 1) := by decide +kernel
theorem dL_law_194 : decode cL_law 194 = .ok (.iconst 1, 1) := by decide +kernel
theorem dL_law_195 : decode cL_law 195 = .ok (.iadd, 1) := by decide +kernel
theorem dL_law_196 : decode cL_law 196 = .ok (.iaload, 1) := by decide +kernel
theorem dL_law_197 : decode cL_law 197 = .ok (.invokevirtual 26, 3) := by decide +kernel
theorem dL_law_200 : decode cL_law 200 = .ok (.if_icmp .eq 437, 3) := by decide +kernel
theorem dL_law_203 : decode cL_law 203 = .ok (.iconst 0, 1) := by decide +kernel
theorem dL_law_204 : decode cL_law 204 = .ok (.ireturn, 1) := by decide +kernel
theorem dL_law_205 : decode cL_law 205 = .ok (.aload_n 1, 1) := by decide +kernel
theorem dL_law_206 : decode cL_law 206 = .ok (.aload_n 0, 1) := by decide +kernel
theorem dL_law_207 : decode cL_law 207 = .ok (.iload_n 3, 1) := by decide +kernel
theorem dL_law_208 : decode cL_law 208 = .ok (.iconst 1, 1) := by decide +kernel
theorem dL_law_209 : decode cL_law 209 = .ok (.iadd, 1) := by decide +kernel
theorem dL_law_210 : decode cL_law 210 = .ok (.iaload, 1) := by decide +kernel
theorem dL_law_211 : decode cL_law 211 = .ok (.aload_n 0, 1) := by decide +kernel
theorem dL_law_212 : decode cL_law 212 = .ok (.iload_n 3, 1) := by decide +kernel
theorem dL_law_213 : decode cL_law 213 = .ok (.iconst 2, 1) := by decide +kernel
theorem dL_law_214 : decode cL_law 214 = .ok (.iadd, 1) := by decide +kernel
theorem dL_law_215 : decode cL_law 215 = .ok (.iaload, 1) := by decide +kernel
theorem dL_law_216 : decode cL_law 216 = .ok (.aload_n 0, 1) := by decide +kernel
theorem dL_law_217 : decode cL_law 217 = .ok (.iload_n 3, 1) := by decide +kernel
theorem dL_law_218 : decode cL_law 218 = .ok (.iconst 3, 1) := by decide +kernel
theorem dL_law_219 : decode cL_law 219 = .ok (.iadd, 1) := by decide +kernel
theorem dL_law_220 : decode cL_law 220 = .ok (.iaload, 1) := by decide +kernel
theorem dL_law_221 : decode cL_law 221 = .ok (.invokevirtual 27, 3) := by decide +kernel
theorem dL_law_224 : decode cL_law 224 = .ok (.aload_n 2, 1) := by decide +kernel
theorem dL_law_225 : decode cL_law 225 = .ok (.aload_n 0, 1) := by decide +kernel
theorem dL_law_226 : decode cL_law 226 = .ok (.iload_n 3, 1) := by decide +kernel
theorem dL_law_227 : decode cL_law 227 = .ok (.iconst 1, 1) := by decide +kernel
theorem dL_law_228 : decode cL_law 228 = .ok (.iadd, 1) := by decide +kernel
theorem dL_law_229 : decode cL_law 229 = .ok (.iaload, 1) := by decide +kernel
theorem dL_law_230 : decode cL_law 230 = .ok (.aload_n 0, 1) := by decide +kernel
theorem dL_law_231 : decode cL_law 231 = .ok (.iload_n 3, 1) := by decide +kernel
theorem dL_law_232 : decode cL_law 232 = .ok (.iconst 2, 1) := by decide +kernel
theorem dL_law_233 : decode cL_law 233 = .ok (.iadd, 1) := by decide +kernel
theorem dL_law_234 : decode cL_law 234 = .ok (.iaload, 1) := by decide +kernel
theorem dL_law_235 : decode cL_law 235 = .ok (.aload_n 0, 1) := by decide +kernel
theorem dL_law_236 : decode cL_law 236 = .ok (.iload_n 3, 1) := by decide +kernel
theorem dL_law_237 : decode cL_law 237 = .ok (.iconst 3, 1) := by decide +kernel
theorem dL_law_238 : decode cL_law 238 = .ok (.iadd, 1) := by decide +kernel
theorem dL_law_239 : decode cL_law 239 = .ok (.iaload, 1) := by decide +kernel
theorem dL_law_240 : decode cL_law 240 = .ok (.invokevirtual 31, 3) := by decide +kernel
theorem dL_law_243 : decode cL_law 243 = .ok (.if_icmp .eq 394, 3) := by decide +kernel
theorem dL_law_246 : decode cL_law 246 = .ok (.iconst 0, 1) := by decide +kernel
theorem dL_law_247 : decode cL_law 247 = .ok (.ireturn, 1) := by decide +kernel
theorem dL_law_248 : decode cL_law 248 = .ok (.aload_n 1, 1) := by decide +kernel
theorem dL_law_249 : decode cL_law 249 = .ok (.aload_n 0, 1) := by decide +kernel
theorem dL_law_250 : decode cL_law 250 = .ok (.iload_n 3, 1) := by decide +kernel
theorem dL_law_251 : decode cL_law 251 = .ok (.iconst 1, 1) := by decide +kernel
theorem dL_law_252 : decode cL_law 252 = .ok (.iadd, 1) := by decide +kernel
theorem dL_law_253 : decode cL_law 253 = .ok (.iaload, 1) := by decide +kernel
theorem dL_law_254 : decode cL_law 254 = .ok (.aload_n 0, 1) := by decide +kernel
theorem dL_law_255 : decode cL_law 255 = .ok (.iload_n 3, 1) := by decide +kernel
theorem dL_law_256 : decode cL_law 256 = .ok (.iconst 2, 1) := by decide +kernel
theorem dL_law_257 : decode cL_law 257 = .ok (.iadd, 1) := by decide +kernel
theorem dL_law_258 : decode cL_law 258 = .ok (.iaload, 1) := by decide +kernel
theorem dL_law_259 : decode cL_law 259 = .ok (.invokevirtual 32, 3) := by decide +kernel
theorem dL_law_262 : decode cL_law 262 = .ok (.aload_n 2, 1) := by decide +kernel
theorem dL_law_263 : decode cL_law 263 = .ok (.aload_n 0, 1) := by decide +kernel
theorem dL_law_264 : decode cL_law 264 = .ok (.iload_n 3, 1) := by decide +kernel
theorem dL_law_265 : decode cL_law 265 = .ok (.iconst 1, 1) := by decide +kernel
theorem dL_law_266 : decode cL_law 266 = .ok (.iadd, 1) := by decide +kernel
theorem dL_law_267 : decode cL_law 267 = .ok (.iaload, 1) := by decide +kernel
theorem dL_law_268 : decode cL_law 268 = .ok (.aload_n 0, 1) := by decide +kernel
theorem dL_law_269 : decode cL_law 269 = .ok (.iload_n 3, 1) := by decide +kernel
theorem dL_law_270 : decode cL_law 270 = .ok (.iconst 2, 1) := by decide +kernel
theorem dL_law_271 : decode cL_law 271 = .ok (.iadd, 1) := by decide +kernel
theorem dL_law_272 : decode cL_law 272 = .ok (.iaload, 1) := by decide +kernel
theorem dL_law_273 : decode cL_law 273 = .ok (.invokevirtual 35, 3) := by decide +kernel
theorem dL_law_276 : decode cL_law 276 = .ok (.if_icmp .eq 361, 3) := by decide +kernel
theorem dL_law_279 : decode cL_law 279 = .ok (.iconst 0, 1) := by decide +kernel
theorem dL_law_280 : decode cL_law 280 = .ok (.ireturn, 1) := by decide +kernel
theorem dL_law_281 : decode cL_law 281 = .ok (.aload_n 1, 1) := by decide +kernel
theorem dL_law_282 : decode cL_law 282 = .ok (.aload_n 0, 1) := by decide +kernel
theorem dL_law_283 : decode cL_law 283 = .ok (.iload_n 3, 1) := by decide +kernel
theorem dL_law_284 : decode cL_law 284 = .ok (.iconst 1, 1) := by decide +kernel
theorem dL_law_285 : decode cL_law 285 = .ok (.iadd, 1) := by decide +kernel
theorem dL_law_286 : decode cL_law 286 = .ok (.iaload, 1) := by decide +kernel
theorem dL_law_287 : decode cL_law 287 = .ok (.aload_n 0, 1) := by decide +kernel
theorem dL_law_288 : decode cL_law 288 = .ok (.iload_n 3, 1) := by decide +kernel
theorem dL_law_289 : decode cL_law 289 = .ok (.iconst 2, 1) := by decide +kernel
theorem dL_law_290 : decode cL_law 290 = .ok (.iadd, 1) := by decide +kernel
theorem dL_law_291 : decode cL_law 291 = .ok (.iaload, 1) := by decide +kernel
theorem dL_law_292 : decode cL_law 292 = .ok (.aload_n 0, 1) := by decide +kernel
theorem dL_law_293 : decode cL_law 293 = .ok (.iload_n 3, 1) := by decide +kernel
theorem dL_law_294 : decode cL_law 294 = .ok (.iconst 3, 1) := by decide +kernel
theorem dL_law_295 : decode cL_law 295 = .ok (.iadd, 1) := by decide +kernel
theorem dL_law_296 : decode cL_law 296 = .ok (.iaload, 1) := by decide +kernel
theorem dL_law_297 : decode cL_law 297 = .ok (.aload_n 0, 1) := by decide +kernel
theorem dL_law_298 : decode cL_law 298 = .ok (.iload_n 3, 1) := by decide +kernel
theorem dL_law_299 : decode cL_law 299 = .ok (.iconst 4, 1) := by decide +kernel
theorem dL_law_300 : decode cL_law 300 = .ok (.iadd, 1) := by decide +kernel
theorem dL_law_301 : decode cL_law 301 = .ok (.iaload, 1) := by decide +kernel
theorem dL_law_302 : decode cL_law 302 = .ok (.aload_n 0, 1) := by decide +kernel
theorem dL_law_303 : decode cL_law 303 = .ok (.iload_n 3, 1) := by decide +kernel
theorem dL_law_304 : decode cL_law 304 = .ok (.iconst 5, 1) := by decide +kernel
theorem dL_law_305 : decode cL_law 305 = .ok (.iadd, 1) := by decide +kernel
theorem dL_law_306 : decode cL_law 306 = .ok (.iaload, 1) := by decide +kernel
theorem dL_law_307 : decode cL_law 307 = .ok (.invokevirtual 36, 3) := by decide +kernel
theorem dL_law_310 : decode cL_law 310 = .ok (.aload_n 2, 1) := by decide +kernel
theorem dL_law_311 : decode cL_law 311 = .ok (.aload_n 0, 1) := by decide +kernel
theorem dL_law_312 : decode cL_law 312 = .ok (.iload_n 3, 1) := by decide +kernel
theorem dL_law_313 : decode cL_law 313 = .ok (.iconst 1, 1) := by decide +kernel
theorem dL_law_314 : decode cL_law 314 = .ok (.iadd, 1) := by decide +kernel
theorem dL_law_315 : decode cL_law 315 = .ok (.iaload, 1) := by decide +kernel
theorem dL_law_316 : decode cL_law 316 = .ok (.aload_n 0, 1) := by decide +kernel
theorem dL_law_317 : decode cL_law 317 = .ok (.iload_n 3, 1) := by decide +kernel
theorem dL_law_318 : decode cL_law 318 = .ok (.iconst 2, 1) := by decide +kernel
theorem dL_law_319 : decode cL_law 319 = .ok (.iadd, 1) := by decide +kernel
theorem dL_law_320 : decode cL_law 320 = .ok (.iaload, 1) := by decide +kernel
theorem dL_law_321 : decode cL_law 321 = .ok (.aload_n 0, 1) := by decide +kernel
theorem dL_law_322 : decode cL_law 322 = .ok (.iload_n 3, 1) := by decide +kernel
theorem dL_law_323 : decode cL_law 323 = .ok (.iconst 3, 1) := by decide +kernel
theorem dL_law_324 : decode cL_law 324 = .ok (.iadd, 1) := by decide +kernel
theorem dL_law_325 : decode cL_law 325 = .ok (.iaload, 1) := by decide +kernel
theorem dL_law_326 : decode cL_law 326 = .ok (.aload_n 0, 1) := by decide +kernel
theorem dL_law_327 : decode cL_law 327 = .ok (.iload_n 3, 1) := by decide +kernel
theorem dL_law_328 : decode cL_law 328 = .ok (.iconst 4, 1) := by decide +kernel
theorem dL_law_329 : decode cL_law 329 = .ok (.iadd, 1) := by decide +kernel
theorem dL_law_330 : decode cL_law 330 = .ok (.iaload, 1) := by decide +kernel
theorem dL_law_331 : decode cL_law 331 = .ok (.aload_n 0, 1) := by decide +kernel
theorem dL_law_332 : decode cL_law 332 = .ok (.iload_n 3, 1) := by decide +kernel
theorem dL_law_333 : decode cL_law 333 = .ok (.iconst 5, 1) := by decide +kernel
theorem dL_law_334 : decode cL_law 334 = .ok (.iadd, 1) := by decide +kernel
theorem dL_law_335 : decode cL_law 335 = .ok (.iaload, 1) := by decide +kernel
theorem dL_law_336 : decode cL_law 336 = .ok (.invokevirtual 40, 3) := by decide +kernel
theorem dL_law_339 : decode cL_law 339 = .ok (.if_icmp .eq 298, 3) := by decide +kernel
theorem dL_law_342 : decode cL_law 342 = .ok (.iconst 0, 1) := by decide +kernel
theorem dL_law_343 : decode cL_law 343 = .ok (.ireturn, 1) := by decide +kernel
theorem dL_law_344 : decode cL_law 344 = .ok (.aload_n 1, 1) := by decide +kernel
theorem dL_law_345 : decode cL_law 345 = .ok (.aload_n 0, 1) := by decide +kernel
theorem dL_law_346 : decode cL_law 346 = .ok (.iload_n 3, 1) := by decide +kernel
theorem dL_law_347 : decode cL_law 347 = .ok (.iconst 1, 1) := by decide +kernel
theorem dL_law_348 : decode cL_law 348 = .ok (.iadd, 1) := by decide +kernel
theorem dL_law_349 : decode cL_law 349 = .ok (.iaload, 1) := by decide +kernel
theorem dL_law_350 : decode cL_law 350 = .ok (.invokevirtual 41, 3) := by decide +kernel
theorem dL_law_353 : decode cL_law 353 = .ok (.aload_n 2, 1) := by decide +kernel
theorem dL_law_354 : decode cL_law 354 = .ok (.aload_n 0, 1) := by decide +kernel
theorem dL_law_355 : decode cL_law 355 = .ok (.iload_n 3, 1) := by decide +kernel
theorem dL_law_356 : decode cL_law 356 = .ok (.iconst 1, 1) := by decide +kernel
theorem dL_law_357 : decode cL_law 357 = .ok (.iadd, 1) := by decide +kernel
theorem dL_law_358 : decode cL_law 358 = .ok (.iaload, 1) := by decide +kernel
theorem dL_law_359 : decode cL_law 359 = .ok (.invokevirtual 45, 3) := by decide +kernel
theorem dL_law_362 : decode cL_law 362 = .ok (.if_icmp .eq 275, 3) := by decide +kernel
theorem dL_law_365 : decode cL_law 365 = .ok (.iconst 0, 1) := by decide +kernel
theorem dL_law_366 : decode cL_law 366 = .ok (.ireturn, 1) := by decide +kernel
theorem dL_law_367 : decode cL_law 367 = .ok (.aload_n 1, 1) := by decide +kernel
theorem dL_law_368 : decode cL_law 368 = .ok (.invokevirtual 46, 3) := by decide +kernel
theorem dL_law_371 : decode cL_law 371 = .ok (.aload_n 2, 1) := by decide +kernel
theorem dL_law_372 : decode cL_law 372 = .ok (.invokevirtual 50, 3) := by decide +kernel
theorem dL_law_375 : decode cL_law 375 = .ok (.if_icmp .eq 262, 3) := by decide +kernel
theorem dL_law_378 : decode cL_law 378 = .ok (.iconst 0, 1) := by decide +kernel
theorem dL_law_379 : decode cL_law 379 = .ok (.ireturn, 1) := by decide +kernel
theorem dL_law_380 : decode cL_law 380 = .ok (.aload_n 1, 1) := by decide +kernel
theorem dL_law_381 : decode cL_law 381 = .ok (.aload_n 0, 1) := by decide +kernel
theorem dL_law_382 : decode cL_law 382 = .ok (.iload_n 3, 1) := by decide +kernel
theorem dL_law_383 : decode cL_law 383 = .ok (.iconst 1, 1) := by decide +kernel
theorem dL_law_384 : decode cL_law 384 = .ok (.iadd, 1) := by decide +kernel
theorem dL_law_385 : decode cL_law 385 = .ok (.iaload, 1) := by decide +kernel
theorem dL_law_386 : decode cL_law 386 = .ok (.invokevirtual 51, 3) := by decide +kernel
theorem dL_law_389 : decode cL_law 389 = .ok (.aload_n 2, 1) := by decide +kernel
theorem dL_law_390 : decode cL_law 390 = .ok (.aload_n 0, 1) := by decide +kernel
theorem dL_law_391 : decode cL_law 391 = .ok (.iload_n 3, 1) := by decide +kernel
theorem dL_law_392 : decode cL_law 392 = .ok (.iconst 1, 1) := by decide +kernel
theorem dL_law_393 : decode cL_law 393 = .ok (.iadd, 1) := by decide +kernel
theorem dL_law_394 : decode cL_law 394 = .ok (.iaload, 1) := by decide +kernel
theorem dL_law_395 : decode cL_law 395 = .ok (.invokevirtual 54, 3) := by decide +kernel
theorem dL_law_398 : decode cL_law 398 = .ok (.if_icmp .eq 239, 3) := by decide +kernel
theorem dL_law_401 : decode cL_law 401 = .ok (.iconst 0, 1) := by decide +kernel
theorem dL_law_402 : decode cL_law 402 = .ok (.ireturn, 1) := by decide +kernel
theorem dL_law_403 : decode cL_law 403 = .ok (.aload_n 1, 1) := by decide +kernel
theorem dL_law_404 : decode cL_law 404 = .ok (.aload_n 0, 1) := by decide +kernel
theorem dL_law_405 : decode cL_law 405 = .ok (.iload_n 3, 1) := by decide +kernel
theorem dL_law_406 : decode cL_law 406 = .ok (.iconst 1, 1) := by decide +kernel
theorem dL_law_407 : decode cL_law 407 = .ok (.iadd, 1) := by decide +kernel
theorem dL_law_408 : decode cL_law 408 = .ok (.iaload, 1) := by decide +kernel
theorem dL_law_409 : decode cL_law 409 = .ok (.invokevirtual 55, 3) := by decide +kernel
theorem dL_law_412 : decode cL_law 412 = .ok (.aload_n 2, 1) := by decide +kernel
theorem dL_law_413 : decode cL_law 413 = .ok (.aload_n 0, 1) := by decide +kernel
theorem dL_law_414 : decode cL_law 414 = .ok (.iload_n 3, 1) := by decide +kernel
theorem dL_law_415 : decode cL_law 415 = .ok (.iconst 1, 1) := by decide +kernel
theorem dL_law_416 : decode cL_law 416 = .ok (.iadd, 1) := by decide +kernel
theorem dL_law_417 : decode cL_law 417 = .ok (.iaload, 1) := by decide +kernel
theorem dL_law_418 : decode cL_law 418 = .ok (.invokevirtual 58, 3) := by decide +kernel
theorem dL_law_421 : decode cL_law 421 = .ok (.if_icmp .eq 216, 3) := by decide +kernel
theorem dL_law_424 : decode cL_law 424 = .ok (.iconst 0, 1) := by decide +kernel
theorem dL_law_425 : decode cL_law 425 = .ok (.ireturn, 1) := by decide +kernel
theorem dL_law_426 : decode cL_law 426 = .ok (.aload_n 1, 1) := by decide +kernel
theorem dL_law_427 : decode cL_law 427 = .ok (.aload_n 0, 1) := by decide +kernel
theorem dL_law_428 : decode cL_law 428 = .ok (.iload_n 3, 1) := by decide +kernel
theorem dL_law_429 : decode cL_law 429 = .ok (.iconst 1, 1) := by decide +kernel
theorem dL_law_430 : decode cL_law 430 = .ok (.iadd, 1) := by decide +kernel
theorem dL_law_431 : decode cL_law 431 = .ok (.iaload, 1) := by decide +kernel
theorem dL_law_432 : decode cL_law 432 = .ok (.aload_n 0, 1) := by decide +kernel
theorem dL_law_433 : decode cL_law 433 = .ok (.iload_n 3, 1) := by decide +kernel
theorem dL_law_434 : decode cL_law 434 = .ok (.iconst 2, 1) := by decide +kernel
theorem dL_law_435 : decode cL_law 435 = .ok (.iadd, 1) := by decide +kernel
theorem dL_law_436 : decode cL_law 436 = .ok (.iaload, 1) := by decide +kernel
theorem dL_law_437 : decode cL_law 437 = .ok (.invokevirtual 59, 3) := by decide +kernel
theorem dL_law_440 : decode cL_law 440 = .ok (.aload_n 2, 1) := by decide +kernel
theorem dL_law_441 : decode cL_law 441 = .ok (.aload_n 0, 1) := by decide +kernel
theorem dL_law_442 : decode cL_law 442 = .ok (.iload_n 3, 1) := by decide +kernel
theorem dL_law_443 : decode cL_law 443 = .ok (.iconst 1, 1) := by decide +kernel
theorem dL_law_444 : decode cL_law 444 = .ok (.iadd, 1) := by decide +kernel
theorem dL_law_445 : decode cL_law 445 = .ok (.iaload, 1) := by decide +kernel
theorem dL_law_446 : decode cL_law 446 = .ok (.aload_n 0, 1) := by decide +kernel
theorem dL_law_447 : decode cL_law 447 = .ok (.iload_n 3, 1) := by decide +kernel
theorem dL_law_448 : decode cL_law 448 = .ok (.iconst 2, 1) := by decide +kernel
theorem dL_law_449 : decode cL_law 449 = .ok (.iadd, 1) := by decide +kernel
theorem dL_law_450 : decode cL_law 450 = .ok (.iaload, 1) := by decide +kernel
theorem dL_law_451 : decode cL_law 451 = .ok (.invokevirtual 63, 3) := by decide +kernel
theorem dL_law_454 : decode cL_law 454 = .ok (.if_icmp .eq 183, 3) := by decide +kernel
theorem dL_law_457 : decode cL_law 457 = .ok (.iconst 0, 1) := by decide +kernel
theorem dL_law_458 : decode cL_law 458 = .ok (.ireturn, 1) := by decide +kernel
theorem dL_law_459 : decode cL_law 459 = .ok (.aload_n 1, 1) := by decide +kernel
theorem dL_law_460 : decode cL_law 460 = .ok (.aload_n 0, 1) := by decide +kernel
theorem dL_law_461 : decode cL_law 461 = .ok (.iload_n 3, 1) := by decide +kernel
theorem dL_law_462 : decode cL_law 462 = .ok (.iconst 1, 1) := by decide +kernel
theorem dL_law_463 : decode cL_law 463 = .ok (.iadd, 1) := by decide +kernel
theorem dL_law_464 : decode cL_law 464 = .ok (.iaload, 1) := by decide +kernel
theorem dL_law_465 : decode cL_law 465 = .ok (.aload_n 0, 1) := by decide +kernel
theorem dL_law_466 : decode cL_law 466 = .ok (.iload_n 3, 1) := by decide +kernel
theorem dL_law_467 : decode cL_law 467 = .ok (.iconst 2, 1) := by decide +kernel
theorem dL_law_468 : decode cL_law 468 = .ok (.iadd, 1) := by decide +kernel
theorem dL_law_469 : decode cL_law 469 = .ok (.iaload, 1) := by decide +kernel
theorem dL_law_470 : decode cL_law 470 = .ok (.aload_n 0, 1) := by decide +kernel
theorem dL_law_471 : decode cL_law 471 = .ok (.iload_n 3, 1) := by decide +kernel
theorem dL_law_472 : decode cL_law 472 = .ok (.iconst 3, 1) := by decide +kernel
theorem dL_law_473 : decode cL_law 473 = .ok (.iadd, 1) := by decide +kernel
theorem dL_law_474 : decode cL_law 474 = .ok (.iaload, 1) := by decide +kernel
theorem dL_law_475 : decode cL_law 475 = .ok (.invokevirtual 64, 3) := by decide +kernel
theorem dL_law_478 : decode cL_law 478 = .ok (.aload_n 2, 1) := by decide +kernel
theorem dL_law_479 : decode cL_law 479 = .ok (.aload_n 0, 1) := by decide +kernel
theorem dL_law_480 : decode cL_law 480 = .ok (.iload_n 3, 1) := by decide +kernel
theorem dL_law_481 : decode cL_law 481 = .ok (.iconst 1, 1) := by decide +kernel
theorem dL_law_482 : decode cL_law 482 = .ok (.iadd, 1) := by decide +kernel
theorem dL_law_483 : decode cL_law 483 = .ok (.iaload, 1) := by decide +kernel
theorem dL_law_484 : decode cL_law 484 = .ok (.aload_n 0, 1) := by decide +kernel
theorem dL_law_485 : decode cL_law 485 = .ok (.iload_n 3, 1) := by decide +kernel
theorem dL_law_486 : decode cL_law 486 = .ok (.iconst 2, 1) := by decide +kernel
theorem dL_law_487 : decode cL_law 487 = .ok (.iadd, 1) := by decide +kernel
theorem dL_law_488 : decode cL_law 488 = .ok (.iaload, 1) := by decide +kernel
theorem dL_law_489 : decode cL_law 489 = .ok (.aload_n 0, 1) := by decide +kernel
theorem dL_law_490 : decode cL_law 490 = .ok (.iload_n 3, 1) := by decide +kernel
theorem dL_law_491 : decode cL_law 491 = .ok (.iconst 3, 1) := by decide +kernel
theorem dL_law_492 : decode cL_law 492 = .ok (.iadd, 1) := by decide +kernel
theorem dL_law_493 : decode cL_law 493 = .ok (.iaload, 1) := by decide +kernel
theorem dL_law_494 : decode cL_law 494 = .ok (.invokevirtual 68, 3) := by decide +kernel
theorem dL_law_497 : decode cL_law 497 = .ok (.if_icmp .eq 140, 3) := by decide +kernel
theorem dL_law_500 : decode cL_law 500 = .ok (.iconst 0, 1) := by decide +kernel
theorem dL_law_501 : decode cL_law 501 = .ok (.ireturn, 1) := by decide +kernel
theorem dL_law_502 : decode cL_law 502 = .ok (.aload_n 1, 1) := by decide +kernel
theorem dL_law_503 : decode cL_law 503 = .ok (.aload_n 0, 1) := by decide +kernel
theorem dL_law_504 : decode cL_law 504 = .ok (.iload_n 3, 1) := by decide +kernel
theorem dL_law_505 : decode cL_law 505 = .ok (.iconst 1, 1) := by decide +kernel
theorem dL_law_506 : decode cL_law 506 = .ok (.iadd, 1) := by decide +kernel
theorem dL_law_507 : decode cL_law 507 = .ok (.iaload, 1) := by decide +kernel
theorem dL_law_508 : decode cL_law 508 = .ok (.aload_n 0, 1) := by decide +kernel
theorem dL_law_509 : decode cL_law 509 = .ok (.iload_n 3, 1) := by decide +kernel
theorem dL_law_510 : decode cL_law 510 = .ok (.iconst 2, 1) := by decide +kernel
theorem dL_law_511 : decode cL_law 511 = .ok (.iadd, 1) := by decide +kernel
theorem dL_law_512 : decode cL_law 512 = .ok (.iaload, 1) := by decide +kernel
theorem dL_law_513 : decode cL_law 513 = .ok (.invokevirtual 69, 3) := by decide +kernel
theorem dL_law_516 : decode cL_law 516 = .ok (.aload_n 2, 1) := by decide +kernel
theorem dL_law_517 : decode cL_law 517 = .ok (.aload_n 0, 1) := by decide +kernel
theorem dL_law_518 : decode cL_law 518 = .ok (.iload_n 3, 1) := by decide +kernel
theorem dL_law_519 : decode cL_law 519 = .ok (.iconst 1, 1) := by decide +kernel
theorem dL_law_520 : decode cL_law 520 = .ok (.iadd, 1) := by decide +kernel
theorem dL_law_521 : decode cL_law 521 = .ok (.iaload, 1) := by decide +kernel
theorem dL_law_522 : decode cL_law 522 = .ok (.aload_n 0, 1) := by decide +kernel
theorem dL_law_523 : decode cL_law 523 = .ok (.iload_n 3, 1) := by decide +kernel
theorem dL_law_524 : decode cL_law 524 = .ok (.iconst 2, 1) := by decide +kernel
theorem dL_law_525 : decode cL_law 525 = .ok (.iadd, 1) := by decide +kernel
theorem dL_law_526 : decode cL_law 526 = .ok (.iaload, 1) := by decide +kernel
theorem dL_law_527 : decode cL_law 527 = .ok (.invokevirtual 72, 3) := by decide +kernel
theorem dL_law_530 : decode cL_law 530 = .ok (.if_icmp .eq 107, 3) := by decide +kernel
theorem dL_law_533 : decode cL_law 533 = .ok (.iconst 0, 1) := by decide +kernel
theorem dL_law_534 : decode cL_law 534 = .ok (.ireturn, 1) := by decide +kernel
theorem dL_law_535 : decode cL_law 535 = .ok (.aload_n 1, 1) := by decide +kernel
theorem dL_law_536 : decode cL_law 536 = .ok (.aload_n 0, 1) := by decide +kernel
theorem dL_law_537 : decode cL_law 537 = .ok (.iload_n 3, 1) := by decide +kernel
theorem dL_law_538 : decode cL_law 538 = .ok (.iconst 1, 1) := by decide +kernel
theorem dL_law_539 : decode cL_law 539 = .ok (.iadd, 1) := by decide +kernel
theorem dL_law_540 : decode cL_law 540 = .ok (.iaload, 1) := by decide +kernel
theorem dL_law_541 : decode cL_law 541 = .ok (.aload_n 0, 1) := by decide +kernel
theorem dL_law_542 : decode cL_law 542 = .ok (.iload_n 3, 1) := by decide +kernel
theorem dL_law_543 : decode cL_law 543 = .ok (.iconst 2, 1) := by decide +kernel
theorem dL_law_544 : decode cL_law 544 = .ok (.iadd, 1) := by decide +kernel
theorem dL_law_545 : decode cL_law 545 = .ok (.iaload, 1) := by decide +kernel
theorem dL_law_546 : decode cL_law 546 = .ok (.invokevirtual 73, 3) := by decide +kernel
theorem dL_law_549 : decode cL_law 549 = .ok (.aload_n 2, 1) := by decide +kernel
theorem dL_law_550 : decode cL_law 550 = .ok (.aload_n 0, 1) := by decide +kernel
theorem dL_law_551 : decode cL_law 551 = .ok (.iload_n 3, 1) := by decide +kernel
theorem dL_law_552 : decode cL_law 552 = .ok (.iconst 1, 1) := by decide +kernel
theorem dL_law_553 : decode cL_law 553 = .ok (.iadd, 1) := by decide +kernel
theorem dL_law_554 : decode cL_law 554 = .ok (.iaload, 1) := by decide +kernel
theorem dL_law_555 : decode cL_law 555 = .ok (.aload_n 0, 1) := by decide +kernel
theorem dL_law_556 : decode cL_law 556 = .ok (.iload_n 3, 1) := by decide +kernel
theorem dL_law_557 : decode cL_law 557 = .ok (.iconst 2, 1) := by decide +kernel
theorem dL_law_558 : decode cL_law 558 = .ok (.iadd, 1) := by decide +kernel
theorem dL_law_559 : decode cL_law 559 = .ok (.iaload, 1) := by decide +kernel
theorem dL_law_560 : decode cL_law 560 = .ok (.invokevirtual 76, 3) := by decide +kernel
theorem dL_law_563 : decode cL_law 563 = .ok (.if_icmp .eq 74, 3) := by decide +kernel
theorem dL_law_566 : decode cL_law 566 = .ok (.iconst 0, 1) := by decide +kernel
theorem dL_law_567 : decode cL_law 567 = .ok (.ireturn, 1) := by decide +kernel
theorem dL_law_568 : decode cL_law 568 = .ok (.aload_n 1, 1) := by decide +kernel
theorem dL_law_569 : decode cL_law 569 = .ok (.invokevirtual 77, 3) := by decide +kernel
theorem dL_law_572 : decode cL_law 572 = .ok (.aload_n 2, 1) := by decide +kernel
theorem dL_law_573 : decode cL_law 573 = .ok (.invokevirtual 80, 3) := by decide +kernel
theorem dL_law_576 : decode cL_law 576 = .ok (.if_icmp .eq 61, 3) := by decide +kernel
theorem dL_law_579 : decode cL_law 579 = .ok (.iconst 0, 1) := by decide +kernel
theorem dL_law_580 : decode cL_law 580 = .ok (.ireturn, 1) := by decide +kernel
theorem dL_law_581 : decode cL_law 581 = .ok (.aload_n 1, 1) := by decide +kernel
theorem dL_law_582 : decode cL_law 582 = .ok (.aload_n 0, 1) := by decide +kernel
theorem dL_law_583 : decode cL_law 583 = .ok (.iload_n 3, 1) := by decide +kernel
theorem dL_law_584 : decode cL_law 584 = .ok (.iconst 1, 1) := by decide +kernel
theorem dL_law_585 : decode cL_law 585 = .ok (.iadd, 1) := by decide +kernel
theorem dL_law_586 : decode cL_law 586 = .ok (.iaload, 1) := by decide +kernel
theorem dL_law_587 : decode cL_law 587 = .ok (.invokevirtual 81, 3) := by decide +kernel
theorem dL_law_590 : decode cL_law 590 = .ok (.aload_n 2, 1) := by decide +kernel
theorem dL_law_591 : decode cL_law 591 = .ok (.aload_n 0, 1) := by decide +kernel
theorem dL_law_592 : decode cL_law 592 = .ok (.iload_n 3, 1) := by decide +kernel
theorem dL_law_593 : decode cL_law 593 = .ok (.iconst 1, 1) := by decide +kernel
theorem dL_law_594 : decode cL_law 594 = .ok (.iadd, 1) := by decide +kernel
theorem dL_law_595 : decode cL_law 595 = .ok (.iaload, 1) := by decide +kernel
theorem dL_law_596 : decode cL_law 596 = .ok (.invokevirtual 84, 3) := by decide +kernel
theorem dL_law_599 : decode cL_law 599 = .ok (.if_icmp .eq 38, 3) := by decide +kernel
theorem dL_law_602 : decode cL_law 602 = .ok (.iconst 0, 1) := by decide +kernel
theorem dL_law_603 : decode cL_law 603 = .ok (.ireturn, 1) := by decide +kernel
theorem dL_law_604 : decode cL_law 604 = .ok (.aload_n 1, 1) := by decide +kernel
theorem dL_law_605 : decode cL_law 605 = .ok (.aload_n 0, 1) := by decide +kernel
theorem dL_law_606 : decode cL_law 606 = .ok (.iload_n 3, 1) := by decide +kernel
theorem dL_law_607 : decode cL_law 607 = .ok (.iconst 1, 1) := by decide +kernel
theorem dL_law_608 : decode cL_law 608 = .ok (.iadd, 1) := by decide +kernel
theorem dL_law_609 : decode cL_law 609 = .ok (.iaload, 1) := by decide +kernel
theorem dL_law_610 : decode cL_law 610 = .ok (.aload_n 0, 1) := by decide +kernel
theorem dL_law_611 : decode cL_law 611 = .ok (.iload_n 3, 1) := by decide +kernel
theorem dL_law_612 : decode cL_law 612 = .ok (.iconst 2, 1) := by decide +kernel
theorem dL_law_613 : decode cL_law 613 = .ok (.iadd, 1) := by decide +kernel
theorem dL_law_614 : decode cL_law 614 = .ok (.iaload, 1) := by decide +kernel
theorem dL_law_615 : decode cL_law 615 = .ok (.invokevirtual 85, 3) := by decide +kernel
theorem dL_law_618 : decode cL_law 618 = .ok (.aload_n 2, 1) := by decide +kernel
theorem dL_law_619 : decode cL_law 619 = .ok (.aload_n 0, 1) := by decide +kernel
theorem dL_law_620 : decode cL_law 620 = .ok (.iload_n 3, 1) := by decide +kernel
theorem dL_law_621 : decode cL_law 621 = .ok (.iconst 1, 1) := by decide +kernel
theorem dL_law_622 : decode cL_law 622 = .ok (.iadd, 1) := by decide +kernel
theorem dL_law_623 : decode cL_law 623 = .ok (.iaload, 1) := by decide +kernel
theorem dL_law_624 : decode cL_law 624 = .ok (.aload_n 0, 1) := by decide +kernel
theorem dL_law_625 : decode cL_law 625 = .ok (.iload_n 3, 1) := by decide +kernel
theorem dL_law_626 : decode cL_law 626 = .ok (.iconst 2, 1) := by decide +kernel
theorem dL_law_627 : decode cL_law 627 = .ok (.iadd, 1) := by decide +kernel
theorem dL_law_628 : decode cL_law 628 = .ok (.iaload, 1) := by decide +kernel
theorem dL_law_629 : decode cL_law 629 = .ok (.invokevirtual 88, 3) := by decide +kernel
theorem dL_law_632 : decode cL_law 632 = .ok (.if_icmp .eq 5, 3) := by decide +kernel
theorem dL_law_635 : decode cL_law 635 = .ok (.iconst 0, 1) := by decide +kernel
theorem dL_law_636 : decode cL_law 636 = .ok (.ireturn, 1) := by decide +kernel
theorem dL_law_637 : decode cL_law 637 = .ok (.iinc 3 6, 3) := by decide +kernel
theorem dL_law_640 : decode cL_law 640 = .ok (.goto (-622), 3) := by decide +kernel
theorem dL_law_643 : decode cL_law 643 = .ok (.iconst 1, 1) := by decide +kernel
theorem dL_law_644 : decode cL_law 644 = .ok (.ireturn, 1) := by decide +kernel
