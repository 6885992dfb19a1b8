theorem dX11_init_0 : decode cX11_init 0 = .ok (.aload_n 0, 1) := by decide +kernel
theorem dX11_init_1 : decode cX11_init 1 = .ok (.invokespecial 1, 3) := by decide +kernel
theorem dX11_init_4 : decode cX11_init 4 = .ok (.aload_n 0, 1) := by decide +kernel
theorem dX11_init_5 : decode cX11_init 5 = .ok (.bipush 8, 2) := by decide +kernel
theorem dX11_init_7 : decode cX11_init 7 = .ok (.anewarray 7, 3) := by decide +kernel
theorem dX11_init_10 : decode cX11_init 10 = .ok (.dup, 1) := by decide +kernel
theorem dX11_init_11 : decode cX11_init 11 = .ok (.iconst 0, 1) := by decide +kernel
theorem dX11_init_12 : decode cX11_init 12 = .ok (.ldc 9, 2) := by decide +kernel
theorem dX11_init_14 : decode cX11_init 14 = .ok (.aastore, 1) := by decide +kernel
theorem dX11_init_15 : decode cX11_init 15 = .ok (.dup, 1) := by decide +kernel
theorem dX11_init_16 : decode cX11_init 16 = .ok (.iconst 1, 1) := by decide +kernel
theorem dX11_init_17 : decode cX11_init 17 = .ok (.ldc 11, 2) := by decide +kernel
theorem dX11_init_19 : decode cX11_init 19 = .ok (.aastore, 1) := by decide +kernel
theorem dX11_init_20 : decode cX11_init 20 = .ok (.dup, 1) := by decide +kernel
theorem dX11_init_21 : decode cX11_init 21 = .ok (.iconst 2, 1) := by decide +kernel
theorem dX11_init_22 : decode cX11_init 22 = .ok (.ldc 13, 2) := by decide +kernel
theorem dX11_init_24 : decode cX11_init 24 = .ok (.aastore, 1) := by decide +kernel
theorem dX11_init_25 : decode cX11_init 25 = .ok (.dup, 1) := by decide +kernel
theorem dX11_init_26 : decode cX11_init 26 = .ok (.iconst 3, 1) := by decide +kernel
theorem dX11_init_27 : decode cX11_init 27 = .ok (.ldc 15, 2) := by decide +kernel
theorem dX11_init_29 : decode cX11_init 29 = .ok (.aastore, 1) := by decide +kernel
theorem dX11_init_30 : decode cX11_init 30 = .ok (.dup, 1) := by decide +kernel
theorem dX11_init_31 : decode cX11_init 31 = .ok (.iconst 4, 1) := by decide +kernel
theorem dX11_init_32 : decode cX11_init 32 = .ok (.ldc 17, 2) := by decide +kernel
theorem dX11_init_34 : decode cX11_init 34 = .ok (.aastore, 1) := by decide +kernel
theorem dX11_init_35 : decode cX11_init 35 = .ok (.dup, 1) := by decide +kernel
theorem dX11_init_36 : decode cX11_init 36 = .ok (.iconst 5, 1) := by decide +kernel
theorem dX11_init_37 : decode cX11_init 37 = .ok (.ldc 19, 2) := by decide +kernel
theorem dX11_init_39 : decode cX11_init 39 = .ok (.aastore, 1) := by decide +kernel
theorem dX11_init_40 : decode cX11_init 40 = .ok (.dup, 1) := by decide +kernel
theorem dX11_init_41 : decode cX11_init 41 = .ok (.bipush 6, 2) := by decide +kernel
theorem dX11_init_43 : decode cX11_init 43 = .ok (.ldc 21, 2) := by decide +kernel
theorem dX11_init_45 : decode cX11_init 45 = .ok (.aastore, 1) := by decide +kernel
theorem dX11_init_46 : decode cX11_init 46 = .ok (.dup, 1) := by decide +kernel
theorem dX11_init_47 : decode cX11_init 47 = .ok (.bipush 7, 2) := by decide +kernel
theorem dX11_init_49 : decode cX11_init 49 = .ok (.ldc 23, 2) := by decide +kernel
theorem dX11_init_51 : decode cX11_init 51 = .ok (.aastore, 1) := by decide +kernel
theorem dX11_init_52 : decode cX11_init 52 = .ok (.putfield 25, 3) := by decide +kernel
theorem dX11_init_55 : decode cX11_init 55 = .ok (.aload_n 0, 1) := by decide +kernel
theorem dX11_init_56 : decode cX11_init 56 = .ok (.iconst (-1), 1) := by decide +kernel
theorem dX11_init_57 : decode cX11_init 57 = .ok (.putfield 31, 3) := by decide +kernel
theorem dX11_init_60 : decode cX11_init 60 = .ok (.aload_n 0, 1) := by decide +kernel
theorem dX11_init_61 : decode cX11_init 61 = .ok (.bipush 60, 2) := by decide +kernel
theorem dX11_init_63 : decode cX11_init 63 = .ok (.newarray .boolean, 2) := by decide +kernel
theorem dX11_init_65 : decode cX11_init 65 = .ok (.putfield 35, 3) := by decide +kernel
theorem dX11_init_68 : decode cX11_init 68 = .ok (.aload_n 0, 1) := by decide +kernel
theorem dX11_init_69 : decode cX11_init 69 = .ok (.bipush 60, 2) := by decide +kernel
theorem dX11_init_71 : decode cX11_init 71 = .ok (.newarray .int, 2) := by decide +kernel
theorem dX11_init_73 : decode cX11_init 73 = .ok (.putfield 39, 3) := by decide +kernel
theorem dX11_init_76 : decode cX11_init 76 = .ok (.aload_n 0, 1) := by decide +kernel
theorem dX11_init_77 : decode cX11_init 77 = .ok (.bipush 60, 2) := by decide +kernel
theorem dX11_init_79 : decode cX11_init 79 = .ok (.newarray .int, 2) := by decide +kernel
theorem dX11_init_81 : decode cX11_init 81 = .ok (.putfield 42, 3) := by decide +kernel
theorem dX11_init_84 : decode cX11_init 84 = .ok (.aload_n 0, 1) := by decide +kernel
theorem dX11_init_85 : decode cX11_init 85 = .ok (.bipush 60, 2) := by decide +kernel
theorem dX11_init_87 : decode cX11_init 87 = .ok (.newarray .int, 2) := by decide +kernel
theorem dX11_init_89 : decode cX11_init 89 = .ok (.putfield 45, 3) := by decide +kernel
theorem dX11_init_92 : decode cX11_init 92 = .ok (.aload_n 0, 1) := by decide +kernel
theorem dX11_init_93 : decode cX11_init 93 = .ok (.bipush 60, 2) := by decide +kernel
theorem dX11_init_95 : decode cX11_init 95 = .ok (.newarray .int, 2) := by decide +kernel
theorem dX11_init_97 : decode cX11_init 97 = .ok (.putfield 48, 3) := by decide +kernel
theorem dX11_init_100 : decode cX11_init 100 = .ok (.aload_n 0, 1) := by decide +kernel
theorem dX11_init_101 : decode cX11_init 101 = .ok (.bipush 60, 2) := by decide +kernel
theorem dX11_init_103 : decode cX11_init 103 = .ok (.newarray .int, 2) := by decide +kernel
theorem dX11_init_105 : decode cX11_init 105 = .ok (.putfield 51, 3) := by decide +kernel
theorem dX11_init_108 : decode cX11_init 108 = .ok (.aload_n 0, 1) := by decide +kernel
theorem dX11_init_109 : decode cX11_init 109 = .ok (.bipush 60, 2) := by decide +kernel
theorem dX11_init_111 : decode cX11_init 111 = .ok (.newarray .int, 2) := by decide +kernel
theorem dX11_init_113 : decode cX11_init 113 = .ok (.putfield 54, 3) := by decide +kernel
theorem dX11_init_116 : decode cX11_init 116 = .ok (.aload_n 0, 1) := by decide +kernel
theorem dX11_init_117 : decode cX11_init 117 = .ok (.bipush 40, 2) := by decide +kernel
theorem dX11_init_119 : decode cX11_init 119 = .ok (.newarray .int, 2) := by decide +kernel
theorem dX11_init_121 : decode cX11_init 121 = .ok (.putfield 57, 3) := by decide +kernel
theorem dX11_init_124 : decode cX11_init 124 = .ok (.aload_n 0, 1) := by decide +kernel
theorem dX11_init_125 : decode cX11_init 125 = .ok (.bipush 40, 2) := by decide +kernel
theorem dX11_init_127 : decode cX11_init 127 = .ok (.newarray .int, 2) := by decide +kernel
theorem dX11_init_129 : decode cX11_init 129 = .ok (.putfield 60, 3) := by decide +kernel
theorem dX11_init_132 : decode cX11_init 132 = .ok (.aload_n 0, 1) := by decide +kernel
theorem dX11_init_133 : decode cX11_init 133 = .ok (.bipush 40, 2) := by decide +kernel
theorem dX11_init_135 : decode cX11_init 135 = .ok (.newarray .int, 2) := by decide +kernel
theorem dX11_init_137 : decode cX11_init 137 = .ok (.putfield 63, 3) := by decide +kernel
theorem dX11_init_140 : decode cX11_init 140 = .ok (.aload_n 0, 1) := by decide +kernel
theorem dX11_init_141 : decode cX11_init 141 = .ok (.bipush 40, 2) := by decide +kernel
theorem dX11_init_143 : decode cX11_init 143 = .ok (.newarray .int, 2) := by decide +kernel
theorem dX11_init_145 : decode cX11_init 145 = .ok (.putfield 66, 3) := by decide +kernel
theorem dX11_init_148 : decode cX11_init 148 = .ok (.aload_n 0, 1) := by decide +kernel
theorem dX11_init_149 : decode cX11_init 149 = .ok (.bipush 40, 2) := by decide +kernel
theorem dX11_init_151 : decode cX11_init 151 = .ok (.newarray .int, 2) := by decide +kernel
theorem dX11_init_153 : decode cX11_init 153 = .ok (.putfield 69, 3) := by decide +kernel
theorem dX11_init_156 : decode cX11_init 156 = .ok (.aload_n 0, 1) := by decide +kernel
theorem dX11_init_157 : decode cX11_init 157 = .ok (.sipush 400, 3) := by decide +kernel
theorem dX11_init_160 : decode cX11_init 160 = .ok (.newarray .int, 2) := by decide +kernel
theorem dX11_init_162 : decode cX11_init 162 = .ok (.putfield 72, 3) := by decide +kernel
theorem dX11_init_165 : decode cX11_init 165 = .ok (.aload_n 0, 1) := by decide +kernel
theorem dX11_init_166 : decode cX11_init 166 = .ok (.bipush 6, 2) := by decide +kernel
theorem dX11_init_168 : decode cX11_init 168 = .ok (.newarray .int, 2) := by decide +kernel
theorem dX11_init_170 : decode cX11_init 170 = .ok (.putfield 75, 3) := by decide +kernel
theorem dX11_init_173 : decode cX11_init 173 = .ok (.aload_n 0, 1) := by decide +kernel
theorem dX11_init_174 : decode cX11_init 174 = .ok (.bipush 6, 2) := by decide +kernel
theorem dX11_init_176 : decode cX11_init 176 = .ok (.newarray .int, 2) := by decide +kernel
theorem dX11_init_178 : decode cX11_init 178 = .ok (.putfield 78, 3) := by decide +kernel
theorem dX11_init_181 : decode cX11_init 181 = .ok (.aload_n 0, 1) := by decide +kernel
theorem dX11_init_182 : decode cX11_init 182 = .ok (.bipush 78, 2) := by decide +kernel
theorem dX11_init_184 : decode cX11_init 184 = .ok (.newarray .int, 2) := by decide +kernel
theorem dX11_init_186 : decode cX11_init 186 = .ok (.putfield 81, 3) := by decide +kernel
theorem dX11_init_189 : decode cX11_init 189 = .ok (.aload_n 0, 1) := by decide +kernel
theorem dX11_init_190 : decode cX11_init 190 = .ok (.sipush 4200, 3) := by decide +kernel
theorem dX11_init_193 : decode cX11_init 193 = .ok (.newarray .int, 2) := by decide +kernel
theorem dX11_init_195 : decode cX11_init 195 = .ok (.putfield 84, 3) := by decide +kernel
theorem dX11_init_198 : decode cX11_init 198 = .ok (.aload_n 0, 1) := by decide +kernel
theorem dX11_init_199 : decode cX11_init 199 = .ok (.sipush 150, 3) := by decide +kernel
theorem dX11_init_202 : decode cX11_init 202 = .ok (.newarray .int, 2) := by decide +kernel
theorem dX11_init_204 : decode cX11_init 204 = .ok (.putfield 87, 3) := by decide +kernel
theorem dX11_init_207 : decode cX11_init 207 = .ok (.aload_n 0, 1) := by decide +kernel
theorem dX11_init_208 : decode cX11_init 208 = .ok (.bipush 72, 2) := by decide +kernel
theorem dX11_init_210 : decode cX11_init 210 = .ok (.newarray .int, 2) := by decide +kernel
theorem dX11_init_212 : decode cX11_init 212 = .ok (.putfield 90, 3) := by decide +kernel
theorem dX11_init_215 : decode cX11_init 215 = .ok (.aload_n 0, 1) := by decide +kernel
theorem dX11_init_216 : decode cX11_init 216 = .ok (.bipush 60, 2) := by decide +kernel
theorem dX11_init_218 : decode cX11_init 218 = .ok (.newarray .boolean, 2) := by decide +kernel
theorem dX11_init_220 : decode cX11_init 220 = .ok (.putfield 93, 3) := by decide +kernel
theorem dX11_init_223 : decode cX11_init 223 = .ok (.aload_n 0, 1) := by decide +kernel
theorem dX11_init_224 : decode cX11_init 224 = .ok (.bipush 60, 2) := by decide +kernel
theorem dX11_init_226 : decode cX11_init 226 = .ok (.newarray .int, 2) := by decide +kernel
theorem dX11_init_228 : decode cX11_init 228 = .ok (.putfield 96, 3) := by decide +kernel
theorem dX11_init_231 : decode cX11_init 231 = .ok (.aload_n 0, 1) := by decide +kernel
theorem dX11_init_232 : decode cX11_init 232 = .ok (.bipush 60, 2) := by decide +kernel
theorem dX11_init_234 : decode cX11_init 234 = .ok (.newarray .int, 2) := by decide +kernel
theorem dX11_init_236 : decode cX11_init 236 = .ok (.putfield 99, 3) := by decide +kernel
theorem dX11_init_239 : decode cX11_init 239 = .ok (.aload_n 0, 1) := by decide +kernel
theorem dX11_init_240 : decode cX11_init 240 = .ok (.sipush 720, 3) := by decide +kernel
theorem dX11_init_243 : decode cX11_init 243 = .ok (.newarray .int, 2) := by decide +kernel
theorem dX11_init_245 : decode cX11_init 245 = .ok (.putfield 102, 3) := by decide +kernel
theorem dX11_init_248 : decode cX11_init 248 = .ok (.aload_n 0, 1) := by decide +kernel
theorem dX11_init_249 : decode cX11_init 249 = .ok (.bipush 60, 2) := by decide +kernel
theorem dX11_init_251 : decode cX11_init 251 = .ok (.newarray .boolean, 2) := by decide +kernel
theorem dX11_init_253 : decode cX11_init 253 = .ok (.putfield 104, 3) := by decide +kernel
theorem dX11_init_256 : decode cX11_init 256 = .ok (.aload_n 0, 1) := by decide +kernel
theorem dX11_init_257 : decode cX11_init 257 = .ok (.bipush 60, 2) := by decide +kernel
theorem dX11_init_259 : decode cX11_init 259 = .ok (.newarray .boolean, 2) := by decide +kernel
theorem dX11_init_261 : decode cX11_init 261 = .ok (.putfield 107, 3) := by decide +kernel
theorem dX11_init_264 : decode cX11_init 264 = .ok (.return_, 1) := by decide +kernel
theorem dX11_thrown_0 : decode cX11_thrown 0 = .ok (.aload_n 0, 1) := by decide +kernel
theorem dX11_thrown_1 : decode cX11_thrown 1 = .ok (.getfield 110, 3) := by decide +kernel
theorem dX11_thrown_4 : decode cX11_thrown 4 = .ok (.ireturn, 1) := by decide +kernel
theorem dX11_fail_0 : decode cX11_fail 0 = .ok (.aload_n 0, 1) := by decide +kernel
theorem dX11_fail_1 : decode cX11_fail 1 = .ok (.iconst 1, 1) := by decide +kernel
theorem dX11_fail_2 : decode cX11_fail 2 = .ok (.putfield 110, 3) := by decide +kernel
theorem dX11_fail_5 : decode cX11_fail 5 = .ok (.iconst 0, 1) := by decide +kernel
theorem dX11_fail_6 : decode cX11_fail 6 = .ok (.ireturn, 1) := by decide +kernel
theorem dX11_is_0 : decode cX11_is 0 = .ok (.iload_n 1, 1) := by decide +kernel
theorem dX11_is_1 : decode cX11_is 1 = .ok (.ifCond .lt 15, 3) := by decide +kernel
theorem dX11_is_4 : decode cX11_is 4 = .ok (.iload_n 1, 1) := by decide +kernel
theorem dX11_is_5 : decode cX11_is 5 = .ok (.aload_n 0, 1) := by decide +kernel
theorem dX11_is_6 : decode cX11_is 6 = .ok (.getfield 113, 3) := by decide +kernel
theorem dX11_is_9 : decode cX11_is 9 = .ok (.if_icmp .ge 7, 3) := by decide +kernel
theorem dX11_is_12 : decode cX11_is 12 = .ok (.iconst 1, 1) := by decide +kernel
theorem dX11_is_13 : decode cX11_is 13 = .ok (.goto 4, 3) := by decide +kernel
theorem dX11_is_16 : decode cX11_is 16 = .ok (.iconst 0, 1) := by decide +kernel
theorem dX11_is_17 : decode cX11_is 17 = .ok (.ireturn, 1) := by decide +kernel
theorem dX11_isYear_0 : decode cX11_isYear 0 = .ok (.iload_n 0, 1) := by decide +kernel
theorem dX11_isYear_1 : decode cX11_isYear 1 = .ok (.sipush 1000, 3) := by decide +kernel
theorem dX11_isYear_4 : decode cX11_isYear 4 = .ok (.if_icmp .lt 14, 3) := by decide +kernel
theorem dX11_isYear_7 : decode cX11_isYear 7 = .ok (.iload_n 0, 1) := by decide +kernel
theorem dX11_isYear_8 : decode cX11_isYear 8 = .ok (.sipush 2000, 3) := by decide +kernel
theorem dX11_isYear_11 : decode cX11_isYear 11 = .ok (.if_icmp .gt 7, 3) := by decide +kernel
theorem dX11_isYear_14 : decode cX11_isYear 14 = .ok (.iconst 1, 1) := by decide +kernel
theorem dX11_isYear_15 : decode cX11_isYear 15 = .ok (.goto 4, 3) := by decide +kernel
theorem dX11_isYear_18 : decode cX11_isYear 18 = .ok (.iconst 0, 1) := by decide +kernel
theorem dX11_isYear_19 : decode cX11_isYear 19 = .ok (.ireturn, 1) := by decide +kernel
theorem dX11_person_0 : decode cX11_person 0 = .ok (.aload_n 0, 1) := by decide +kernel
theorem dX11_person_1 : decode cX11_person 1 = .ok (.iconst 0, 1) := by decide +kernel
theorem dX11_person_2 : decode cX11_person 2 = .ok (.putfield 110, 3) := by decide +kernel
theorem dX11_person_5 : decode cX11_person 5 = .ok (.aload_n 0, 1) := by decide +kernel
theorem dX11_person_6 : decode cX11_person 6 = .ok (.getfield 113, 3) := by decide +kernel
theorem dX11_person_9 : decode cX11_person 9 = .ok (.bipush 60, 2) := by decide +kernel
theorem dX11_person_11 : decode cX11_person 11 = .ok (.if_icmp .eq 35, 3) := by decide +kernel
theorem dX11_person_14 : decode cX11_person 14 = .ok (.iload_n 2, 1) := by decide +kernel
theorem dX11_person_15 : decode cX11_person 15 = .ok (.invokestatic 116, 3) := by decide +kernel
theorem dX11_person_18 : decode cX11_person 18 = .ok (.ifCond .eq 28, 3) := by decide +kernel
theorem dX11_person_21 : decode cX11_person 21 = .ok (.iload_n 3, 1) := by decide +kernel
theorem dX11_person_22 : decode cX11_person 22 = .ok (.iconst (-1), 1) := by decide +kernel
theorem dX11_person_23 : decode cX11_person 23 = .ok (.if_icmp .eq 25, 3) := by decide +kernel
theorem dX11_person_26 : decode cX11_person 26 = .ok (.iload_n 3, 1) := by decide +kernel
theorem dX11_person_27 : decode cX11_person 27 = .ok (.invokestatic 116, 3) := by decide +kernel
theorem dX11_person_30 : decode cX11_person 30 = .ok (.ifCond .eq 16, 3) := by decide +kernel
theorem dX11_person_33 : decode cX11_person 33 = .ok (.iload_n 3, 1) := by decide +kernel
theorem dX11_person_34 : decode cX11_person 34 = .ok (.iload_n 2, 1) := by decide +kernel
theorem dX11_person_35 : decode cX11_person 35 = .ok (.if_icmp .lt 11, 3) := by decide +kernel
theorem dX11_person_38 : decode cX11_person 38 = .ok (.iload_n 3, 1) := by decide +kernel
theorem dX11_person_39 : decode cX11_person 39 = .ok (.iload_n 2, 1) := by decide +kernel
theorem dX11_person_40 : decode cX11_person 40 = .ok (.bipush 100, 2) := by decide +kernel
theorem dX11_person_42 : decode cX11_person 42 = .ok (.iadd, 1) := by decide +kernel
theorem dX11_person_43 : decode cX11_person 43 = .ok (.if_icmp .le 5, 3) := by decide +kernel
theorem dX11_person_46 : decode cX11_person 46 = .ok (.iconst (-1), 1) := by decide +kernel
theorem dX11_person_47 : decode cX11_person 47 = .ok (.ireturn, 1) := by decide +kernel
theorem dX11_person_48 : decode cX11_person 48 = .ok (.aload_n 0, 1) := by decide +kernel
theorem dX11_person_49 : decode cX11_person 49 = .ok (.getfield 35, 3) := by decide +kernel
theorem dX11_person_52 : decode cX11_person 52 = .ok (.aload_n 0, 1) := by decide +kernel
theorem dX11_person_53 : decode cX11_person 53 = .ok (.getfield 113, 3) := by decide +kernel
theorem dX11_person_56 : decode cX11_person 56 = .ok (.iload_n 1, 1) := by decide +kernel
theorem dX11_person_57 : decode cX11_person 57 = .ok (.bastore, 1) := by decide +kernel
theorem dX11_person_58 : decode cX11_person 58 = .ok (.aload_n 0, 1) := by decide +kernel
theorem dX11_person_59 : decode cX11_person 59 = .ok (.getfield 39, 3) := by decide +kernel
theorem dX11_person_62 : decode cX11_person 62 = .ok (.aload_n 0, 1) := by decide +kernel
theorem dX11_person_63 : decode cX11_person 63 = .ok (.getfield 113, 3) := by decide +kernel
theorem dX11_person_66 : decode cX11_person 66 = .ok (.iload_n 2, 1) := by decide +kernel
theorem dX11_person_67 : decode cX11_person 67 = .ok (.iastore, 1) := by decide +kernel
theorem dX11_person_68 : decode cX11_person 68 = .ok (.aload_n 0, 1) := by decide +kernel
theorem dX11_person_69 : decode cX11_person 69 = .ok (.getfield 42, 3) := by decide +kernel
theorem dX11_person_72 : decode cX11_person 72 = .ok (.aload_n 0, 1) := by decide +kernel
theorem dX11_person_73 : decode cX11_person 73 = .ok (.getfield 113, 3) := by decide +kernel
theorem dX11_person_76 : decode cX11_person 76 = .ok (.iload_n 3, 1) := by decide +kernel
theorem dX11_person_77 : decode cX11_person 77 = .ok (.iastore, 1) := by decide +kernel
theorem dX11_person_78 : decode cX11_person 78 = .ok (.aload_n 0, 1) := by decide +kernel
theorem dX11_person_79 : decode cX11_person 79 = .ok (.getfield 45, 3) := by decide +kernel
theorem dX11_person_82 : decode cX11_person 82 = .ok (.aload_n 0, 1) := by decide +kernel
theorem dX11_person_83 : decode cX11_person 83 = .ok (.getfield 113, 3) := by decide +kernel
theorem dX11_person_86 : decode cX11_person 86 = .ok (.iconst (-1), 1) := by decide +kernel
theorem dX11_person_87 : decode cX11_person 87 = .ok (.iastore, 1) := by decide +kernel
theorem dX11_person_88 : decode cX11_person 88 = .ok (.aload_n 0, 1) := by decide +kernel
theorem dX11_person_89 : decode cX11_person 89 = .ok (.getfield 48, 3) := by decide +kernel
theorem dX11_person_92 : decode cX11_person 92 = .ok (.aload_n 0, 1) := by decide +kernel
theorem dX11_person_93 : decode cX11_person 93 = .ok (.getfield 113, 3) := by decide +kernel
theorem dX11_person_96 : decode cX11_person 96 = .ok (.iconst (-1), 1) := by decide +kernel
theorem dX11_person_97 : decode cX11_person 97 = .ok (.iastore, 1) := by decide +kernel
theorem dX11_person_98 : decode cX11_person 98 = .ok (.aload_n 0, 1) := by decide +kernel
theorem dX11_person_99 : decode cX11_person 99 = .ok (.dup, 1) := by decide +kernel
theorem dX11_person_100 : decode cX11_person 100 = .ok (.getfield 113, 3) := by decide +kernel
theorem dX11_person_103 : decode cX11_person 103 = .ok (.iconst 1, 1) := by decide +kernel
theorem dX11_person_104 : decode cX11_person 104 = .ok (.iadd, 1) := by decide +kernel
theorem dX11_person_105 : decode cX11_person 105 = .ok (.putfield 113, 3) := by decide +kernel
theorem dX11_person_108 : decode cX11_person 108 = .ok (.aload_n 0, 1) := by decide +kernel
theorem dX11_person_109 : decode cX11_person 109 = .ok (.getfield 113, 3) := by decide +kernel
theorem dX11_person_112 : decode cX11_person 112 = .ok (.iconst 1, 1) := by decide +kernel
theorem dX11_person_113 : decode cX11_person 113 = .ok (.isub, 1) := by decide +kernel
theorem dX11_person_114 : decode cX11_person 114 = .ok (.ireturn, 1) := by decide +kernel
theorem dX11_end_0 : decode cX11_end 0 = .ok (.aload_n 0, 1) := by decide +kernel
theorem dX11_end_1 : decode cX11_end 1 = .ok (.getfield 42, 3) := by decide +kernel
theorem dX11_end_4 : decode cX11_end 4 = .ok (.iload_n 1, 1) := by decide +kernel
theorem dX11_end_5 : decode cX11_end 5 = .ok (.iaload, 1) := by decide +kernel
theorem dX11_end_6 : decode cX11_end 6 = .ok (.iconst (-1), 1) := by decide +kernel
theorem dX11_end_7 : decode cX11_end 7 = .ok (.if_icmp .ne 15, 3) := by decide +kernel
theorem dX11_end_10 : decode cX11_end 10 = .ok (.aload_n 0, 1) := by decide +kernel
theorem dX11_end_11 : decode cX11_end 11 = .ok (.getfield 39, 3) := by decide +kernel
theorem dX11_end_14 : decode cX11_end 14 = .ok (.iload_n 1, 1) := by decide +kernel
theorem dX11_end_15 : decode cX11_end 15 = .ok (.iaload, 1) := by decide +kernel
theorem dX11_end_16 : decode cX11_end 16 = .ok (.bipush 100, 2) := by decide +kernel
theorem dX11_end_18 : decode cX11_end 18 = .ok (.iadd, 1) := by decide +kernel
theorem dX11_end_19 : decode cX11_end 19 = .ok (.goto 9, 3) := by decide +kernel
theorem dX11_end_22 : decode cX11_end 22 = .ok (.aload_n 0, 1) := by decide +kernel
theorem dX11_end_23 : decode cX11_end 23 = .ok (.getfield 42, 3) := by decide +kernel
theorem dX11_end_26 : decode cX11_end 26 = .ok (.iload_n 1, 1) := by decide +kernel
theorem dX11_end_27 : decode cX11_end 27 = .ok (.iaload, 1) := by decide +kernel
theorem dX11_end_28 : decode cX11_end 28 = .ok (.ireturn, 1) := by decide +kernel
theorem dX11_lives_0 : decode cX11_lives 0 = .ok (.aload_n 0, 1) := by decide +kernel
theorem dX11_lives_1 : decode cX11_lives 1 = .ok (.getfield 39, 3) := by decide +kernel
theorem dX11_lives_4 : decode cX11_lives 4 = .ok (.iload_n 1, 1) := by decide +kernel
theorem dX11_lives_5 : decode cX11_lives 5 = .ok (.iaload, 1) := by decide +kernel
theorem dX11_lives_6 : decode cX11_lives 6 = .ok (.iload_n 2, 1) := by decide +kernel
theorem dX11_lives_7 : decode cX11_lives 7 = .ok (.if_icmp .gt 16, 3) := by decide +kernel
theorem dX11_lives_10 : decode cX11_lives 10 = .ok (.iload_n 2, 1) := by decide +kernel
theorem dX11_lives_11 : decode cX11_lives 11 = .ok (.aload_n 0, 1) := by decide +kernel
theorem dX11_lives_12 : decode cX11_lives 12 = .ok (.iload_n 1, 1) := by decide +kernel
theorem dX11_lives_13 : decode cX11_lives 13 = .ok (.invokevirtual 120, 3) := by decide +kernel
theorem dX11_lives_16 : decode cX11_lives 16 = .ok (.if_icmp .gt 7, 3) := by decide +kernel
theorem dX11_lives_19 : decode cX11_lives 19 = .ok (.iconst 1, 1) := by decide +kernel
theorem dX11_lives_20 : decode cX11_lives 20 = .ok (.goto 4, 3) := by decide +kernel
theorem dX11_lives_23 : decode cX11_lives 23 = .ok (.iconst 0, 1) := by decide +kernel
theorem dX11_lives_24 : decode cX11_lives 24 = .ok (.ireturn, 1) := by decide +kernel
theorem dX11_parent_0 : decode cX11_parent 0 = .ok (.aload_n 0, 1) := by decide +kernel
theorem dX11_parent_1 : decode cX11_parent 1 = .ok (.iconst 0, 1) := by decide +kernel
theorem dX11_parent_2 : decode cX11_parent 2 = .ok (.putfield 110, 3) := by decide +kernel
theorem dX11_parent_5 : decode cX11_parent 5 = .ok (.aload_n 0, 1) := by decide +kernel
theorem dX11_parent_6 : decode cX11_parent 6 = .ok (.iload_n 1, 1) := by decide +kernel
theorem dX11_parent_7 : decode cX11_parent 7 = .ok (.invokevirtual 124, 3) := by decide +kernel
theorem dX11_parent_10 : decode cX11_parent 10 = .ok (.ifCond .eq 20, 3) := by decide +kernel
theorem dX11_parent_13 : decode cX11_parent 13 = .ok (.aload_n 0, 1) := by decide +kernel
theorem dX11_parent_14 : decode cX11_parent 14 = .ok (.iload_n 3, 1) := by decide +kernel
theorem dX11_parent_15 : decode cX11_parent 15 = .ok (.invokevirtual 124, 3) := by decide +kernel
theorem dX11_parent_18 : decode cX11_parent 18 = .ok (.ifCond .eq 12, 3) := by decide +kernel
theorem dX11_parent_21 : decode cX11_parent 21 = .ok (.iload_n 2, 1) := by decide +kernel
theorem dX11_parent_22 : decode cX11_parent 22 = .ok (.ifCond .lt 8, 3) := by decide +kernel
theorem dX11_parent_25 : decode cX11_parent 25 = .ok (.iload_n 2, 1) := by decide +kernel
theorem dX11_parent_26 : decode cX11_parent 26 = .ok (.iconst 1, 1) := by decide +kernel
theorem dX11_parent_27 : decode cX11_parent 27 = .ok (.if_icmp .le 10, 3) := by decide +kernel
theorem dX11_parent_30 : decode cX11_parent 30 = .ok (.aload_n 0, 1) := by decide +kernel
theorem dX11_parent_31 : decode cX11_parent 31 = .ok (.invokevirtual 127, 3) := by decide +kernel
theorem dX11_parent_34 : decode cX11_parent 34 = .ok (.pop, 1) := by decide +kernel
theorem dX11_parent_35 : decode cX11_parent 35 = .ok (.iconst 0, 1) := by decide +kernel
theorem dX11_parent_36 : decode cX11_parent 36 = .ok (.ireturn, 1) := by decide +kernel
theorem dX11_parent_37 : decode cX11_parent 37 = .ok (.aload_n 0, 1) := by decide +kernel
theorem dX11_parent_38 : decode cX11_parent 38 = .ok (.getfield 39, 3) := by decide +kernel
theorem dX11_parent_41 : decode cX11_parent 41 = .ok (.iload_n 1, 1) := by decide +kernel
theorem dX11_parent_42 : decode cX11_parent 42 = .ok (.iaload, 1) := by decide +kernel
theorem dX11_parent_43 : decode cX11_parent 43 = .ok (.aload_n 0, 1) := by decide +kernel
theorem dX11_parent_44 : decode cX11_parent 44 = .ok (.getfield 39, 3) := by decide +kernel
theorem dX11_parent_47 : decode cX11_parent 47 = .ok (.iload_n 3, 1) := by decide +kernel
theorem dX11_parent_48 : decode cX11_parent 48 = .ok (.iaload, 1) := by decide +kernel
theorem dX11_parent_49 : decode cX11_parent 49 = .ok (.isub, 1) := by decide +kernel
theorem dX11_parent_50 : decode cX11_parent 50 = .ok (.istore 5, 2) := by decide +kernel
theorem dX11_parent_52 : decode cX11_parent 52 = .ok (.iload 4, 2) := by decide +kernel
theorem dX11_parent_54 : decode cX11_parent 54 = .ok (.iconst 1, 1) := by decide +kernel
theorem dX11_parent_55 : decode cX11_parent 55 = .ok (.if_icmp .lt 19, 3) := by decide +kernel
theorem dX11_parent_58 : decode cX11_parent 58 = .ok (.iload 4, 2) := by decide +kernel
theorem dX11_parent_60 : decode cX11_parent 60 = .ok (.bipush 9, 2) := by decide +kernel
theorem dX11_parent_62 : decode cX11_parent 62 = .ok (.if_icmp .gt 12, 3) := by decide +kernel
theorem dX11_parent_65 : decode cX11_parent 65 = .ok (.iload_n 3, 1) := by decide +kernel
theorem dX11_parent_66 : decode cX11_parent 66 = .ok (.iload_n 1, 1) := by decide +kernel
theorem dX11_parent_67 : decode cX11_parent 67 = .ok (.if_icmp .ge 7, 3) := by decide +kernel
theorem dX11_parent_70 : decode cX11_parent 70 = .ok (.iconst 1, 1) := by decide +kernel
theorem dX11_parent_71 : decode cX11_parent 71 = .ok (.goto 4, 3) := by decide +kernel
theorem dX11_parent_74 : decode cX11_parent 74 = .ok (.iconst 0, 1) := by decide +kernel
theorem dX11_parent_75 : decode cX11_parent 75 = .ok (.istore 6, 2) := by decide +kernel
theorem dX11_parent_77 : decode cX11_parent 77 = .ok (.iload_n 2, 1) := by decide +kernel
theorem dX11_parent_78 : decode cX11_parent 78 = .ok (.ifCond .ne 60, 3) := by decide +kernel
theorem dX11_parent_81 : decode cX11_parent 81 = .ok (.iload 6, 2) := by decide +kernel
theorem dX11_parent_83 : decode cX11_parent 83 = .ok (.ifCond .eq 49, 3) := by decide +kernel
theorem dX11_parent_86 : decode cX11_parent 86 = .ok (.aload_n 0, 1) := by decide +kernel
theorem dX11_parent_87 : decode cX11_parent 87 = .ok (.getfield 45, 3) := by decide +kernel
theorem dX11_parent_90 : decode cX11_parent 90 = .ok (.iload_n 1, 1) := by decide +kernel
theorem dX11_parent_91 : decode cX11_parent 91 = .ok (.iaload, 1) := by decide +kernel
theorem dX11_parent_92 : decode cX11_parent 92 = .ok (.iconst (-1), 1) := by decide +kernel
theorem dX11_parent_93 : decode cX11_parent 93 = .ok (.if_icmp .ne 39, 3) := by decide +kernel
theorem dX11_parent_96 : decode cX11_parent 96 = .ok (.aload_n 0, 1) := by decide +kernel
theorem dX11_parent_97 : decode cX11_parent 97 = .ok (.getfield 35, 3) := by decide +kernel
theorem dX11_parent_100 : decode cX11_parent 100 = .ok (.iload_n 3, 1) := by decide +kernel
theorem dX11_parent_101 : decode cX11_parent 101 = .ok (.baload, 1) := by decide +kernel
theorem dX11_parent_102 : decode cX11_parent 102 = .ok (.ifCond .ne 30, 3) := by decide +kernel
theorem dX11_parent_105 : decode cX11_parent 105 = .ok (.iload 5, 2) := by decide +kernel
theorem dX11_parent_107 : decode cX11_parent 107 = .ok (.bipush 14, 2) := by decide +kernel
theorem dX11_parent_109 : decode cX11_parent 109 = .ok (.if_icmp .lt 23, 3) := by decide +kernel
theorem dX11_parent_112 : decode cX11_parent 112 = .ok (.aload_n 0, 1) := by decide +kernel
theorem dX11_parent_113 : decode cX11_parent 113 = .ok (.iload_n 3, 1) := by decide +kernel
theorem dX11_parent_114 : decode cX11_parent 114 = .ok (.invokevirtual 120, 3) := by decide +kernel
theorem dX11_parent_117 : decode cX11_parent 117 = .ok (.aload_n 0, 1) := by decide +kernel
theorem dX11_parent_118 : decode cX11_parent 118 = .ok (.getfield 39, 3) := by decide +kernel
theorem dX11_parent_121 : decode cX11_parent 121 = .ok (.iload_n 1, 1) := by decide +kernel
theorem dX11_parent_122 : decode cX11_parent 122 = .ok (.iaload, 1) := by decide +kernel
theorem dX11_parent_123 : decode cX11_parent 123 = .ok (.iconst 1, 1) := by decide +kernel
theorem dX11_parent_124 : decode cX11_parent 124 = .ok (.isub, 1) := by decide +kernel
theorem dX11_parent_125 : decode cX11_parent 125 = .ok (.if_icmp .lt 7, 3) := by decide +kernel
theorem dX11_parent_128 : decode cX11_parent 128 = .ok (.iconst 1, 1) := by decide +kernel
theorem dX11_parent_129 : decode cX11_parent 129 = .ok (.goto 4, 3) := by decide +kernel
theorem dX11_parent_132 : decode cX11_parent 132 = .ok (.iconst 0, 1) := by decide +kernel
theorem dX11_parent_133 : decode cX11_parent 133 = .ok (.istore 6, 2) := by decide +kernel
theorem dX11_parent_135 : decode cX11_parent 135 = .ok (.goto 62, 3) := by decide +kernel
theorem dX11_parent_138 : decode cX11_parent 138 = .ok (.iload 6, 2) := by decide +kernel
theorem dX11_parent_140 : decode cX11_parent 140 = .ok (.ifCond .eq 54, 3) := by decide +kernel
theorem dX11_parent_143 : decode cX11_parent 143 = .ok (.aload_n 0, 1) := by decide +kernel
theorem dX11_parent_144 : decode cX11_parent 144 = .ok (.getfield 48, 3) := by decide +kernel
theorem dX11_parent_147 : decode cX11_parent 147 = .ok (.iload_n 1, 1) := by decide +kernel
theorem dX11_parent_148 : decode cX11_parent 148 = .ok (.iaload, 1) := by decide +kernel
theorem dX11_parent_149 : decode cX11_parent 149 = .ok (.iconst (-1), 1) := by decide +kernel
theorem dX11_parent_150 : decode cX11_parent 150 = .ok (.if_icmp .ne 44, 3) := by decide +kernel
theorem dX11_parent_153 : decode cX11_parent 153 = .ok (.aload_n 0, 1) := by decide +kernel
theorem dX11_parent_154 : decode cX11_parent 154 = .ok (.getfield 35, 3) := by decide +kernel
theorem dX11_parent_157 : decode cX11_parent 157 = .ok (.iload_n 3, 1) := by decide +kernel
theorem dX11_parent_158 : decode cX11_parent 158 = .ok (.baload, 1) := by decide +kernel
theorem dX11_parent_159 : decode cX11_parent 159 = .ok (.ifCond .eq 35, 3) := by decide +kernel
theorem dX11_parent_162 : decode cX11_parent 162 = .ok (.iload 5, 2) := by decide +kernel
theorem dX11_parent_164 : decode cX11_parent 164 = .ok (.bipush 14, 2) := by decide +kernel
theorem dX11_parent_166 : decode cX11_parent 166 = .ok (.if_icmp .lt 28, 3) := by decide +kernel
theorem dX11_parent_169 : decode cX11_parent 169 = .ok (.iload 5, 2) := by decide +kernel
theorem dX11_parent_171 : decode cX11_parent 171 = .ok (.bipush 50, 2) := by decide +kernel
theorem dX11_parent_173 : decode cX11_parent 173 = .ok (.if_icmp .gt 21, 3) := by decide +kernel
theorem dX11_parent_176 : decode cX11_parent 176 = .ok (.aload_n 0, 1) := by decide +kernel
theorem dX11_parent_177 : decode cX11_parent 177 = .ok (.iload_n 3, 1) := by decide +kernel
theorem dX11_parent_178 : decode cX11_parent 178 = .ok (.aload_n 0, 1) := by decide +kernel
theorem dX11_parent_179 : decode cX11_parent 179 = .ok (.getfield 39, 3) := by decide +kernel
theorem dX11_parent_182 : decode cX11_parent 182 = .ok (.iload_n 1, 1) := by decide +kernel
theorem dX11_parent_183 : decode cX11_parent 183 = .ok (.iaload, 1) := by decide +kernel
theorem dX11_parent_184 : decode cX11_parent 184 = .ok (.invokevirtual 131, 3) := by decide +kernel
theorem dX11_parent_187 : decode cX11_parent 187 = .ok (.ifCond .eq 7, 3) := by decide +kernel
theorem dX11_parent_190 : decode cX11_parent 190 = .ok (.iconst 1, 1) := by decide +kernel
theorem dX11_parent_191 : decode cX11_parent 191 = .ok (.goto 4, 3) := by decide +kernel
theorem dX11_parent_194 : decode cX11_parent 194 = .ok (.iconst 0, 1) := by decide +kernel
theorem dX11_parent_195 : decode cX11_parent 195 = .ok (.istore 6, 2) := by decide +kernel
theorem dX11_parent_197 : decode cX11_parent 197 = .ok (.iload 6, 2) := by decide +kernel
theorem dX11_parent_199 : decode cX11_parent 199 = .ok (.ifCond .ne 5, 3) := by decide +kernel
theorem dX11_parent_202 : decode cX11_parent 202 = .ok (.iconst 0, 1) := by decide +kernel
theorem dX11_parent_203 : decode cX11_parent 203 = .ok (.ireturn, 1) := by decide +kernel
theorem dX11_parent_204 : decode cX11_parent 204 = .ok (.iload_n 2, 1) := by decide +kernel
theorem dX11_parent_205 : decode cX11_parent 205 = .ok (.ifCond .ne 21, 3) := by decide +kernel
theorem dX11_parent_208 : decode cX11_parent 208 = .ok (.aload_n 0, 1) := by decide +kernel
theorem dX11_parent_209 : decode cX11_parent 209 = .ok (.getfield 45, 3) := by decide +kernel
theorem dX11_parent_212 : decode cX11_parent 212 = .ok (.iload_n 1, 1) := by decide +kernel
theorem dX11_parent_213 : decode cX11_parent 213 = .ok (.iload_n 3, 1) := by decide +kernel
theorem dX11_parent_214 : decode cX11_parent 214 = .ok (.iastore, 1) := by decide +kernel
theorem dX11_parent_215 : decode cX11_parent 215 = .ok (.aload_n 0, 1) := by decide +kernel
theorem dX11_parent_216 : decode cX11_parent 216 = .ok (.getfield 51, 3) := by decide +kernel
theorem dX11_parent_219 : decode cX11_parent 219 = .ok (.iload_n 1, 1) := by decide +kernel
theorem dX11_parent_220 : decode cX11_parent 220 = .ok (.iload 4, 2) := by decide +kernel
theorem dX11_parent_222 : decode cX11_parent 222 = .ok (.iastore, 1) := by decide +kernel
theorem dX11_parent_223 : decode cX11_parent 223 = .ok (.goto 18, 3) := by decide +kernel
theorem dX11_parent_226 : decode cX11_parent 226 = .ok (.aload_n 0, 1) := by decide +kernel
theorem dX11_parent_227 : decode cX11_parent 227 = .ok (.getfield 48, 3) := by decide +kernel
theorem dX11_parent_230 : decode cX11_parent 230 = .ok (.iload_n 1, 1) := by decide +kernel
theorem dX11_parent_231 : decode cX11_parent 231 = .ok (.iload_n 3, 1) := by decide +kernel
theorem dX11_parent_232 : decode cX11_parent 232 = .ok (.iastore, 1) := by decide +kernel
theorem dX11_parent_233 : decode cX11_parent 233 = .ok (.aload_n 0, 1) := by decide +kernel
theorem dX11_parent_234 : decode cX11_parent 234 = .ok (.getfield 54, 3) := by decide +kernel
theorem dX11_parent_237 : decode cX11_parent 237 = .ok (.iload_n 1, 1) := by decide +kernel
theorem dX11_parent_238 : decode cX11_parent 238 = .ok (.iload 4, 2) := by decide +kernel
theorem dX11_parent_240 : decode cX11_parent 240 = .ok (.iastore, 1) := by decide +kernel
theorem dX11_parent_241 : decode cX11_parent 241 = .ok (.iconst 1, 1) := by decide +kernel
theorem dX11_parent_242 : decode cX11_parent 242 = .ok (.ireturn, 1) := by decide +kernel
theorem dX11_grant_0 : decode cX11_grant 0 = .ok (.aload_n 0, 1) := by decide +kernel
theorem dX11_grant_1 : decode cX11_grant 1 = .ok (.iconst 0, 1) := by decide +kernel
theorem dX11_grant_2 : decode cX11_grant 2 = .ok (.putfield 110, 3) := by decide +kernel
theorem dX11_grant_5 : decode cX11_grant 5 = .ok (.aload_n 0, 1) := by decide +kernel
theorem dX11_grant_6 : decode cX11_grant 6 = .ok (.iload_n 1, 1) := by decide +kernel
theorem dX11_grant_7 : decode cX11_grant 7 = .ok (.invokevirtual 124, 3) := by decide +kernel
theorem dX11_grant_10 : decode cX11_grant 10 = .ok (.ifCond .ne 8, 3) := by decide +kernel
theorem dX11_grant_13 : decode cX11_grant 13 = .ok (.aload_n 0, 1) := by decide +kernel
theorem dX11_grant_14 : decode cX11_grant 14 = .ok (.invokevirtual 127, 3) := by decide +kernel
theorem dX11_grant_17 : decode cX11_grant 17 = .ok (.ireturn, 1) := by decide +kernel
theorem dX11_grant_18 : decode cX11_grant 18 = .ok (.aload_n 0, 1) := by decide +kernel
theorem dX11_grant_19 : decode cX11_grant 19 = .ok (.getfield 135, 3) := by decide +kernel
theorem dX11_grant_22 : decode cX11_grant 22 = .ok (.bipush 40, 2) := by decide +kernel
theorem dX11_grant_24 : decode cX11_grant 24 = .ok (.if_icmp .eq 21, 3) := by decide +kernel
theorem dX11_grant_27 : decode cX11_grant 27 = .ok (.iload_n 2, 1) := by decide +kernel
theorem dX11_grant_28 : decode cX11_grant 28 = .ok (.iconst 1, 1) := by decide +kernel
theorem dX11_grant_29 : decode cX11_grant 29 = .ok (.if_icmp .lt 16, 3) := by decide +kernel
theorem dX11_grant_32 : decode cX11_grant 32 = .ok (.iload_n 2, 1) := by decide +kernel
theorem dX11_grant_33 : decode cX11_grant 33 = .ok (.bipush 99, 2) := by decide +kernel
theorem dX11_grant_35 : decode cX11_grant 35 = .ok (.if_icmp .gt 10, 3) := by decide +kernel
theorem dX11_grant_38 : decode cX11_grant 38 = .ok (.iload_n 3, 1) := by decide +kernel
theorem dX11_grant_39 : decode cX11_grant 39 = .ok (.invokestatic 116, 3) := by decide +kernel
theorem dX11_grant_42 : decode cX11_grant 42 = .ok (.ifCond .ne 5, 3) := by decide +kernel
theorem dX11_grant_45 : decode cX11_grant 45 = .ok (.iconst (-1), 1) := by decide +kernel
theorem dX11_grant_46 : decode cX11_grant 46 = .ok (.ireturn, 1) := by decide +kernel
theorem dX11_grant_47 : decode cX11_grant 47 = .ok (.aload_n 0, 1) := by decide +kernel
theorem dX11_grant_48 : decode cX11_grant 48 = .ok (.getfield 57, 3) := by decide +kernel
theorem dX11_grant_51 : decode cX11_grant 51 = .ok (.aload_n 0, 1) := by decide +kernel
theorem dX11_grant_52 : decode cX11_grant 52 = .ok (.getfield 135, 3) := by decide +kernel
theorem dX11_grant_55 : decode cX11_grant 55 = .ok (.iload_n 1, 1) := by decide +kernel
theorem dX11_grant_56 : decode cX11_grant 56 = .ok (.iastore, 1) := by decide +kernel
theorem dX11_grant_57 : decode cX11_grant 57 = .ok (.aload_n 0, 1) := by decide +kernel
theorem dX11_grant_58 : decode cX11_grant 58 = .ok (.getfield 60, 3) := by decide +kernel
theorem dX11_grant_61 : decode cX11_grant 61 = .ok (.aload_n 0, 1) := by decide +kernel
theorem dX11_grant_62 : decode cX11_grant 62 = .ok (.getfield 135, 3) := by decide +kernel
theorem dX11_grant_65 : decode cX11_grant 65 = .ok (.iload_n 2, 1) := by decide +kernel
theorem dX11_grant_66 : decode cX11_grant 66 = .ok (.iastore, 1) := by decide +kernel
theorem dX11_grant_67 : decode cX11_grant 67 = .ok (.aload_n 0, 1) := by decide +kernel
theorem dX11_grant_68 : decode cX11_grant 68 = .ok (.getfield 63, 3) := by decide +kernel
theorem dX11_grant_71 : decode cX11_grant 71 = .ok (.aload_n 0, 1) := by decide +kernel
theorem dX11_grant_72 : decode cX11_grant 72 = .ok (.getfield 135, 3) := by decide +kernel
theorem dX11_grant_75 : decode cX11_grant 75 = .ok (.iload_n 3, 1) := by decide +kernel
theorem dX11_grant_76 : decode cX11_grant 76 = .ok (.iastore, 1) := by decide +kernel
theorem dX11_grant_77 : decode cX11_grant 77 = .ok (.aload_n 0, 1) := by decide +kernel
theorem dX11_grant_78 : decode cX11_grant 78 = .ok (.dup, 1) := by decide +kernel
theorem dX11_grant_79 : decode cX11_grant 79 = .ok (.getfield 135, 3) := by decide +kernel
theorem dX11_grant_82 : decode cX11_grant 82 = .ok (.iconst 1, 1) := by decide +kernel
theorem dX11_grant_83 : decode cX11_grant 83 = .ok (.iadd, 1) := by decide +kernel
theorem dX11_grant_84 : decode cX11_grant 84 = .ok (.putfield 135, 3) := by decide +kernel
theorem dX11_grant_87 : decode cX11_grant 87 = .ok (.aload_n 0, 1) := by decide +kernel
theorem dX11_grant_88 : decode cX11_grant 88 = .ok (.getfield 135, 3) := by decide +kernel
theorem dX11_grant_91 : decode cX11_grant 91 = .ok (.iconst 1, 1) := by decide +kernel
theorem dX11_grant_92 : decode cX11_grant 92 = .ok (.isub, 1) := by decide +kernel
theorem dX11_grant_93 : decode cX11_grant 93 = .ok (.ireturn, 1) := by decide +kernel
theorem dX11_about_0 : decode cX11_about 0 = .ok (.aload_n 0, 1) := by decide +kernel
theorem dX11_about_1 : decode cX11_about 1 = .ok (.iconst 0, 1) := by decide +kernel
theorem dX11_about_2 : decode cX11_about 2 = .ok (.putfield 110, 3) := by decide +kernel
theorem dX11_about_5 : decode cX11_about 5 = .ok (.aload_n 0, 1) := by decide +kernel
theorem dX11_about_6 : decode cX11_about 6 = .ok (.iload_n 1, 1) := by decide +kernel
theorem dX11_about_7 : decode cX11_about 7 = .ok (.invokevirtual 124, 3) := by decide +kernel
theorem dX11_about_10 : decode cX11_about 10 = .ok (.ifCond .ne 8, 3) := by decide +kernel
theorem dX11_about_13 : decode cX11_about 13 = .ok (.aload_n 0, 1) := by decide +kernel
theorem dX11_about_14 : decode cX11_about 14 = .ok (.invokevirtual 127, 3) := by decide +kernel
theorem dX11_about_17 : decode cX11_about 17 = .ok (.ireturn, 1) := by decide +kernel
theorem dX11_about_18 : decode cX11_about 18 = .ok (.iconst 0, 1) := by decide +kernel
theorem dX11_about_19 : decode cX11_about 19 = .ok (.istore_n 3, 1) := by decide +kernel
theorem dX11_about_20 : decode cX11_about 20 = .ok (.iconst 0, 1) := by decide +kernel
theorem dX11_about_21 : decode cX11_about 21 = .ok (.istore 4, 2) := by decide +kernel
theorem dX11_about_23 : decode cX11_about 23 = .ok (.iload 4, 2) := by decide +kernel
theorem dX11_about_25 : decode cX11_about 25 = .ok (.aload_n 0, 1) := by decide +kernel
theorem dX11_about_26 : decode cX11_about 26 = .ok (.getfield 113, 3) := by decide +kernel
theorem dX11_about_29 : decode cX11_about 29 = .ok (.if_icmp .ge 27, 3) := by decide +kernel
theorem dX11_about_32 : decode cX11_about 32 = .ok (.iload_n 3, 1) := by decide +kernel
theorem dX11_about_33 : decode cX11_about 33 = .ok (.aload_n 0, 1) := by decide +kernel
theorem dX11_about_34 : decode cX11_about 34 = .ok (.iload 4, 2) := by decide +kernel
theorem dX11_about_36 : decode cX11_about 36 = .ok (.iload_n 1, 1) := by decide +kernel
theorem dX11_about_37 : decode cX11_about 37 = .ok (.invokevirtual 138, 3) := by decide +kernel
theorem dX11_about_40 : decode cX11_about 40 = .ok (.ifCond .eq 7, 3) := by decide +kernel
theorem dX11_about_43 : decode cX11_about 43 = .ok (.iconst 1, 1) := by decide +kernel
theorem dX11_about_44 : decode cX11_about 44 = .ok (.goto 4, 3) := by decide +kernel
theorem dX11_about_47 : decode cX11_about 47 = .ok (.iconst 0, 1) := by decide +kernel
theorem dX11_about_48 : decode cX11_about 48 = .ok (.iadd, 1) := by decide +kernel
theorem dX11_about_49 : decode cX11_about 49 = .ok (.istore_n 3, 1) := by decide +kernel
theorem dX11_about_50 : decode cX11_about 50 = .ok (.iinc 4 1, 3) := by decide +kernel
theorem dX11_about_53 : decode cX11_about 53 = .ok (.goto (-30), 3) := by decide +kernel
theorem dX11_about_56 : decode cX11_about 56 = .ok (.iload_n 2, 1) := by decide +kernel
theorem dX11_about_57 : decode cX11_about 57 = .ok (.tableswitch 106 0 7 #[47, 54, 61, 68, 75, 82, 89, 104], 47) := by decide +kernel
theorem dX11_about_104 : decode cX11_about 104 = .ok (.aload_n 0, 1) := by decide +kernel
theorem dX11_about_105 : decode cX11_about 105 = .ok (.getfield 39, 3) := by decide +kernel
theorem dX11_about_108 : decode cX11_about 108 = .ok (.iload_n 1, 1) := by decide +kernel
theorem dX11_about_109 : decode cX11_about 109 = .ok (.iaload, 1) := by decide +kernel
theorem dX11_about_110 : decode cX11_about 110 = .ok (.ireturn, 1) := by decide +kernel
theorem dX11_about_111 : decode cX11_about 111 = .ok (.aload_n 0, 1) := by decide +kernel
theorem dX11_about_112 : decode cX11_about 112 = .ok (.getfield 42, 3) := by decide +kernel
theorem dX11_about_115 : decode cX11_about 115 = .ok (.iload_n 1, 1) := by decide +kernel
theorem dX11_about_116 : decode cX11_about 116 = .ok (.iaload, 1) := by decide +kernel
theorem dX11_about_117 : decode cX11_about 117 = .ok (.ireturn, 1) := by decide +kernel
theorem dX11_about_118 : decode cX11_about 118 = .ok (.aload_n 0, 1) := by decide +kernel
theorem dX11_about_119 : decode cX11_about 119 = .ok (.getfield 45, 3) := by decide +kernel
theorem dX11_about_122 : decode cX11_about 122 = .ok (.iload_n 1, 1) := by decide +kernel
theorem dX11_about_123 : decode cX11_about 123 = .ok (.iaload, 1) := by decide +kernel
theorem dX11_about_124 : decode cX11_about 124 = .ok (.ireturn, 1) := by decide +kernel
theorem dX11_about_125 : decode cX11_about 125 = .ok (.aload_n 0, 1) := by decide +kernel
theorem dX11_about_126 : decode cX11_about 126 = .ok (.getfield 48, 3) := by decide +kernel
theorem dX11_about_129 : decode cX11_about 129 = .ok (.iload_n 1, 1) := by decide +kernel
theorem dX11_about_130 : decode cX11_about 130 = .ok (.iaload, 1) := by decide +kernel
theorem dX11_about_131 : decode cX11_about 131 = .ok (.ireturn, 1) := by decide +kernel
theorem dX11_about_132 : decode cX11_about 132 = .ok (.aload_n 0, 1) := by decide +kernel
theorem dX11_about_133 : decode cX11_about 133 = .ok (.getfield 51, 3) := by decide +kernel
theorem dX11_about_136 : decode cX11_about 136 = .ok (.iload_n 1, 1) := by decide +kernel
theorem dX11_about_137 : decode cX11_about 137 = .ok (.iaload, 1) := by decide +kernel
theorem dX11_about_138 : decode cX11_about 138 = .ok (.ireturn, 1) := by decide +kernel
theorem dX11_about_139 : decode cX11_about 139 = .ok (.aload_n 0, 1) := by decide +kernel
theorem dX11_about_140 : decode cX11_about 140 = .ok (.getfield 54, 3) := by decide +kernel
theorem dX11_about_143 : decode cX11_about 143 = .ok (.iload_n 1, 1) := by decide +kernel
theorem dX11_about_144 : decode cX11_about 144 = .ok (.iaload, 1) := by decide +kernel
theorem dX11_about_145 : decode cX11_about 145 = .ok (.ireturn, 1) := by decide +kernel
theorem dX11_about_146 : decode cX11_about 146 = .ok (.aload_n 0, 1) := by decide +kernel
theorem dX11_about_147 : decode cX11_about 147 = .ok (.getfield 35, 3) := by decide +kernel
theorem dX11_about_150 : decode cX11_about 150 = .ok (.iload_n 1, 1) := by decide +kernel
theorem dX11_about_151 : decode cX11_about 151 = .ok (.baload, 1) := by decide +kernel
theorem dX11_about_152 : decode cX11_about 152 = .ok (.ifCond .eq 7, 3) := by decide +kernel
theorem dX11_about_155 : decode cX11_about 155 = .ok (.iconst 1, 1) := by decide +kernel
theorem dX11_about_156 : decode cX11_about 156 = .ok (.goto 4, 3) := by decide +kernel
theorem dX11_about_159 : decode cX11_about 159 = .ok (.iconst 0, 1) := by decide +kernel
theorem dX11_about_160 : decode cX11_about 160 = .ok (.ireturn, 1) := by decide +kernel
theorem dX11_about_161 : decode cX11_about 161 = .ok (.iload_n 3, 1) := by decide +kernel
theorem dX11_about_162 : decode cX11_about 162 = .ok (.ireturn, 1) := by decide +kernel
theorem dX11_about_163 : decode cX11_about 163 = .ok (.aload_n 0, 1) := by decide +kernel
theorem dX11_about_164 : decode cX11_about 164 = .ok (.invokevirtual 127, 3) := by decide +kernel
theorem dX11_about_167 : decode cX11_about 167 = .ok (.ireturn, 1) := by decide +kernel
theorem dX11_isChild_0 : decode cX11_isChild 0 = .ok (.aload_n 0, 1) := by decide +kernel
theorem dX11_isChild_1 : decode cX11_isChild 1 = .ok (.getfield 45, 3) := by decide +kernel
theorem dX11_isChild_4 : decode cX11_isChild 4 = .ok (.iload_n 1, 1) := by decide +kernel
theorem dX11_isChild_5 : decode cX11_isChild 5 = .ok (.iaload, 1) := by decide +kernel
theorem dX11_isChild_6 : decode cX11_isChild 6 = .ok (.iload_n 2, 1) := by decide +kernel
theorem dX11_isChild_7 : decode cX11_isChild 7 = .ok (.if_icmp .eq 13, 3) := by decide +kernel
theorem dX11_isChild_10 : decode cX11_isChild 10 = .ok (.aload_n 0, 1) := by decide +kernel
theorem dX11_isChild_11 : decode cX11_isChild 11 = .ok (.getfield 48, 3) := by decide +kernel
theorem dX11_isChild_14 : decode cX11_isChild 14 = .ok (.iload_n 1, 1) := by decide +kernel
theorem dX11_isChild_15 : decode cX11_isChild 15 = .ok (.iaload, 1) := by decide +kernel
theorem dX11_isChild_16 : decode cX11_isChild 16 = .ok (.iload_n 2, 1) := by decide +kernel
theorem dX11_isChild_17 : decode cX11_isChild 17 = .ok (.if_icmp .ne 7, 3) := by decide +kernel
theorem dX11_isChild_20 : decode cX11_isChild 20 = .ok (.iconst 1, 1) := by decide +kernel
theorem dX11_isChild_21 : decode cX11_isChild 21 = .ok (.goto 4, 3) := by decide +kernel
theorem dX11_isChild_24 : decode cX11_isChild 24 = .ok (.iconst 0, 1) := by decide +kernel
theorem dX11_isChild_25 : decode cX11_isChild 25 = .ok (.ireturn, 1) := by decide +kernel
theorem dX11_own_0 : decode cX11_own 0 = .ok (.iconst (-1), 1) := by decide +kernel
theorem dX11_own_1 : decode cX11_own 1 = .ok (.istore_n 3, 1) := by decide +kernel
theorem dX11_own_2 : decode cX11_own 2 = .ok (.iconst 0, 1) := by decide +kernel
theorem dX11_own_3 : decode cX11_own 3 = .ok (.istore 4, 2) := by decide +kernel
theorem dX11_own_5 : decode cX11_own 5 = .ok (.iload 4, 2) := by decide +kernel
theorem dX11_own_7 : decode cX11_own 7 = .ok (.aload_n 0, 1) := by decide +kernel
theorem dX11_own_8 : decode cX11_own 8 = .ok (.getfield 135, 3) := by decide +kernel
theorem dX11_own_11 : decode cX11_own 11 = .ok (.if_icmp .ge 55, 3) := by decide +kernel
theorem dX11_own_14 : decode cX11_own 14 = .ok (.aload_n 0, 1) := by decide +kernel
theorem dX11_own_15 : decode cX11_own 15 = .ok (.getfield 57, 3) := by decide +kernel
theorem dX11_own_18 : decode cX11_own 18 = .ok (.iload 4, 2) := by decide +kernel
theorem dX11_own_20 : decode cX11_own 20 = .ok (.iaload, 1) := by decide +kernel
theorem dX11_own_21 : decode cX11_own 21 = .ok (.iload_n 1, 1) := by decide +kernel
theorem dX11_own_22 : decode cX11_own 22 = .ok (.if_icmp .ne 38, 3) := by decide +kernel
theorem dX11_own_25 : decode cX11_own 25 = .ok (.aload_n 0, 1) := by decide +kernel
theorem dX11_own_26 : decode cX11_own 26 = .ok (.getfield 63, 3) := by decide +kernel
theorem dX11_own_29 : decode cX11_own 29 = .ok (.iload 4, 2) := by decide +kernel
theorem dX11_own_31 : decode cX11_own 31 = .ok (.iaload, 1) := by decide +kernel
theorem dX11_own_32 : decode cX11_own 32 = .ok (.iload_n 2, 1) := by decide +kernel
theorem dX11_own_33 : decode cX11_own 33 = .ok (.if_icmp .gt 27, 3) := by decide +kernel
theorem dX11_own_36 : decode cX11_own 36 = .ok (.iload_n 3, 1) := by decide +kernel
theorem dX11_own_37 : decode cX11_own 37 = .ok (.iconst (-1), 1) := by decide +kernel
theorem dX11_own_38 : decode cX11_own 38 = .ok (.if_icmp .eq 19, 3) := by decide +kernel
theorem dX11_own_41 : decode cX11_own 41 = .ok (.aload_n 0, 1) := by decide +kernel
theorem dX11_own_42 : decode cX11_own 42 = .ok (.getfield 63, 3) := by decide +kernel
theorem dX11_own_45 : decode cX11_own 45 = .ok (.iload 4, 2) := by decide +kernel
theorem dX11_own_47 : decode cX11_own 47 = .ok (.iaload, 1) := by decide +kernel
theorem dX11_own_48 : decode cX11_own 48 = .ok (.aload_n 0, 1) := by decide +kernel
theorem dX11_own_49 : decode cX11_own 49 = .ok (.getfield 63, 3) := by decide +kernel
theorem dX11_own_52 : decode cX11_own 52 = .ok (.iload_n 3, 1) := by decide +kernel
theorem dX11_own_53 : decode cX11_own 53 = .ok (.iaload, 1) := by decide +kernel
theorem dX11_own_54 : decode cX11_own 54 = .ok (.if_icmp .lt 6, 3) := by decide +kernel
theorem dX11_own_57 : decode cX11_own 57 = .ok (.iload 4, 2) := by decide +kernel
theorem dX11_own_59 : decode cX11_own 59 = .ok (.istore_n 3, 1) := by decide +kernel
theorem dX11_own_60 : decode cX11_own 60 = .ok (.iinc 4 1, 3) := by decide +kernel
theorem dX11_own_63 : decode cX11_own 63 = .ok (.goto (-58), 3) := by decide +kernel
theorem dX11_own_66 : decode cX11_own 66 = .ok (.iload_n 3, 1) := by decide +kernel
theorem dX11_own_67 : decode cX11_own 67 = .ok (.iconst (-1), 1) := by decide +kernel
theorem dX11_own_68 : decode cX11_own 68 = .ok (.if_icmp .ne 7, 3) := by decide +kernel
theorem dX11_own_71 : decode cX11_own 71 = .ok (.iconst (-1), 1) := by decide +kernel
theorem dX11_own_72 : decode cX11_own 72 = .ok (.goto 9, 3) := by decide +kernel
theorem dX11_own_75 : decode cX11_own 75 = .ok (.aload_n 0, 1) := by decide +kernel
theorem dX11_own_76 : decode cX11_own 76 = .ok (.getfield 60, 3) := by decide +kernel
theorem dX11_own_79 : decode cX11_own 79 = .ok (.iload_n 3, 1) := by decide +kernel
theorem dX11_own_80 : decode cX11_own 80 = .ok (.iaload, 1) := by decide +kernel
theorem dX11_own_81 : decode cX11_own 81 = .ok (.ireturn, 1) := by decide +kernel
