theorem dX5_goes_213 : decode cX5_goes 213 = .ok (.if_icmp .eq 7, 3) := by decide +kernel
theorem dX5_goes_216 : decode cX5_goes 216 = .ok (.iconst 1, 1) := by decide +kernel
theorem dX5_goes_217 : decode cX5_goes 217 = .ok (.goto 4, 3) := by decide +kernel
theorem dX5_goes_220 : decode cX5_goes 220 = .ok (.iconst 0, 1) := by decide +kernel
theorem dX5_goes_221 : decode cX5_goes 221 = .ok (.ireturn, 1) := by decide +kernel
theorem dX5_goes_222 : decode cX5_goes 222 = .ok (.iload_n 2, 1) := by decide +kernel
theorem dX5_goes_223 : decode cX5_goes 223 = .ok (.ifCond .ne 7, 3) := by decide +kernel
theorem dX5_goes_226 : decode cX5_goes 226 = .ok (.iconst 1, 1) := by decide +kernel
theorem dX5_goes_227 : decode cX5_goes 227 = .ok (.goto 4, 3) := by decide +kernel
theorem dX5_goes_230 : decode cX5_goes 230 = .ok (.iconst 0, 1) := by decide +kernel
theorem dX5_goes_231 : decode cX5_goes 231 = .ok (.ireturn, 1) := by decide +kernel
theorem dX5_goes_232 : decode cX5_goes 232 = .ok (.iload_n 2, 1) := by decide +kernel
theorem dX5_goes_233 : decode cX5_goes 233 = .ok (.ireturn, 1) := by decide +kernel
theorem dX5_goes_234 : decode cX5_goes 234 = .ok (.iload 5, 2) := by decide +kernel
theorem dX5_goes_236 : decode cX5_goes 236 = .ok (.ifCond .ne 11, 3) := by decide +kernel
theorem dX5_goes_239 : decode cX5_goes 239 = .ok (.iload_n 3, 1) := by decide +kernel
theorem dX5_goes_240 : decode cX5_goes 240 = .ok (.ifCond .ne 7, 3) := by decide +kernel
theorem dX5_goes_243 : decode cX5_goes 243 = .ok (.iconst 1, 1) := by decide +kernel
theorem dX5_goes_244 : decode cX5_goes 244 = .ok (.goto 4, 3) := by decide +kernel
theorem dX5_goes_247 : decode cX5_goes 247 = .ok (.iconst 0, 1) := by decide +kernel
theorem dX5_goes_248 : decode cX5_goes 248 = .ok (.ireturn, 1) := by decide +kernel
theorem dX5_goes_249 : decode cX5_goes 249 = .ok (.iload 5, 2) := by decide +kernel
theorem dX5_goes_251 : decode cX5_goes 251 = .ok (.ifCond .ne 7, 3) := by decide +kernel
theorem dX5_goes_254 : decode cX5_goes 254 = .ok (.iload_n 3, 1) := by decide +kernel
theorem dX5_goes_255 : decode cX5_goes 255 = .ok (.ifCond .eq 7, 3) := by decide +kernel
theorem dX5_goes_258 : decode cX5_goes 258 = .ok (.iconst 1, 1) := by decide +kernel
theorem dX5_goes_259 : decode cX5_goes 259 = .ok (.goto 4, 3) := by decide +kernel
theorem dX5_goes_262 : decode cX5_goes 262 = .ok (.iconst 0, 1) := by decide +kernel
theorem dX5_goes_263 : decode cX5_goes 263 = .ok (.ireturn, 1) := by decide +kernel
theorem dX5_goes_264 : decode cX5_goes 264 = .ok (.iload 4, 2) := by decide +kernel
theorem dX5_goes_266 : decode cX5_goes 266 = .ok (.ifCond .ne 7, 3) := by decide +kernel
theorem dX5_goes_269 : decode cX5_goes 269 = .ok (.iconst 1, 1) := by decide +kernel
theorem dX5_goes_270 : decode cX5_goes 270 = .ok (.goto 4, 3) := by decide +kernel
theorem dX5_goes_273 : decode cX5_goes 273 = .ok (.iconst 0, 1) := by decide +kernel
theorem dX5_goes_274 : decode cX5_goes 274 = .ok (.ireturn, 1) := by decide +kernel
theorem dX5_goes_275 : decode cX5_goes 275 = .ok (.iload 4, 2) := by decide +kernel
theorem dX5_goes_277 : decode cX5_goes 277 = .ok (.ireturn, 1) := by decide +kernel
theorem dX5_goes_278 : decode cX5_goes 278 = .ok (.iload 5, 2) := by decide +kernel
theorem dX5_goes_280 : decode cX5_goes 280 = .ok (.ifCond .ne 7, 3) := by decide +kernel
theorem dX5_goes_283 : decode cX5_goes 283 = .ok (.iconst 1, 1) := by decide +kernel
theorem dX5_goes_284 : decode cX5_goes 284 = .ok (.goto 4, 3) := by decide +kernel
theorem dX5_goes_287 : decode cX5_goes 287 = .ok (.iconst 0, 1) := by decide +kernel
theorem dX5_goes_288 : decode cX5_goes 288 = .ok (.ireturn, 1) := by decide +kernel
theorem dX5_goes_289 : decode cX5_goes 289 = .ok (.iload 5, 2) := by decide +kernel
theorem dX5_goes_291 : decode cX5_goes 291 = .ok (.ireturn, 1) := by decide +kernel
theorem dX5_does_0 : decode cX5_does 0 = .ok (.iload_n 1, 1) := by decide +kernel
theorem dX5_does_1 : decode cX5_does 1 = .ok (.bipush 8, 2) := by decide +kernel
theorem dX5_does_3 : decode cX5_does 3 = .ok (.ishr, 1) := by decide +kernel
theorem dX5_does_4 : decode cX5_does 4 = .ok (.istore_n 2, 1) := by decide +kernel
theorem dX5_does_5 : decode cX5_does 5 = .ok (.iload_n 1, 1) := by decide +kernel
theorem dX5_does_6 : decode cX5_does 6 = .ok (.bipush 12, 2) := by decide +kernel
theorem dX5_does_8 : decode cX5_does 8 = .ok (.ishr, 1) := by decide +kernel
theorem dX5_does_9 : decode cX5_does 9 = .ok (.bipush 7, 2) := by decide +kernel
theorem dX5_does_11 : decode cX5_does 11 = .ok (.iand, 1) := by decide +kernel
theorem dX5_does_12 : decode cX5_does 12 = .ok (.istore_n 3, 1) := by decide +kernel
theorem dX5_does_13 : decode cX5_does 13 = .ok (.aload_n 0, 1) := by decide +kernel
theorem dX5_does_14 : decode cX5_does 14 = .ok (.iload_n 1, 1) := by decide +kernel
theorem dX5_does_15 : decode cX5_does 15 = .ok (.sipush 32767, 3) := by decide +kernel
theorem dX5_does_18 : decode cX5_does 18 = .ok (.if_icmp .le 7, 3) := by decide +kernel
theorem dX5_does_21 : decode cX5_does 21 = .ok (.iconst 1, 1) := by decide +kernel
theorem dX5_does_22 : decode cX5_does 22 = .ok (.goto 4, 3) := by decide +kernel
theorem dX5_does_25 : decode cX5_does 25 = .ok (.iconst 0, 1) := by decide +kernel
theorem dX5_does_26 : decode cX5_does 26 = .ok (.putfield 59, 3) := by decide +kernel
theorem dX5_does_29 : decode cX5_does 29 = .ok (.iload_n 3, 1) := by decide +kernel
theorem dX5_does_30 : decode cX5_does 30 = .ok (.ifCond .le 18, 3) := by decide +kernel
theorem dX5_does_33 : decode cX5_does 33 = .ok (.iload_n 3, 1) := by decide +kernel
theorem dX5_does_34 : decode cX5_does 34 = .ok (.bipush 6, 2) := by decide +kernel
theorem dX5_does_36 : decode cX5_does 36 = .ok (.if_icmp .ge 12, 3) := by decide +kernel
theorem dX5_does_39 : decode cX5_does 39 = .ok (.aload_n 0, 1) := by decide +kernel
theorem dX5_does_40 : decode cX5_does 40 = .ok (.iload_n 3, 1) := by decide +kernel
theorem dX5_does_41 : decode cX5_does 41 = .ok (.iload_n 1, 1) := by decide +kernel
theorem dX5_does_42 : decode cX5_does 42 = .ok (.invokevirtual 127, 3) := by decide +kernel
theorem dX5_does_45 : decode cX5_does 45 = .ok (.goto 148, 3) := by decide +kernel
theorem dX5_does_48 : decode cX5_does 48 = .ok (.iload_n 3, 1) := by decide +kernel
theorem dX5_does_49 : decode cX5_does 49 = .ok (.bipush 6, 2) := by decide +kernel
theorem dX5_does_51 : decode cX5_does 51 = .ok (.if_icmp .ne 28, 3) := by decide +kernel
theorem dX5_does_54 : decode cX5_does 54 = .ok (.aload_n 0, 1) := by decide +kernel
theorem dX5_does_55 : decode cX5_does 55 = .ok (.iconst 0, 1) := by decide +kernel
theorem dX5_does_56 : decode cX5_does 56 = .ok (.putfield 59, 3) := by decide +kernel
theorem dX5_does_59 : decode cX5_does 59 = .ok (.aload_n 0, 1) := by decide +kernel
theorem dX5_does_60 : decode cX5_does 60 = .ok (.iload_n 1, 1) := by decide +kernel
theorem dX5_does_61 : decode cX5_does 61 = .ok (.iload_n 1, 1) := by decide +kernel
theorem dX5_does_62 : decode cX5_does 62 = .ok (.sipush 32767, 3) := by decide +kernel
theorem dX5_does_65 : decode cX5_does 65 = .ok (.if_icmp .le 7, 3) := by decide +kernel
theorem dX5_does_68 : decode cX5_does 68 = .ok (.iconst 1, 1) := by decide +kernel
theorem dX5_does_69 : decode cX5_does 69 = .ok (.goto 4, 3) := by decide +kernel
theorem dX5_does_72 : decode cX5_does 72 = .ok (.iconst 0, 1) := by decide +kernel
theorem dX5_does_73 : decode cX5_does 73 = .ok (.invokevirtual 130, 3) := by decide +kernel
theorem dX5_does_76 : decode cX5_does 76 = .ok (.goto 117, 3) := by decide +kernel
theorem dX5_does_79 : decode cX5_does 79 = .ok (.iload_n 2, 1) := by decide +kernel
theorem dX5_does_80 : decode cX5_does 80 = .ok (.ifCond .le 9, 3) := by decide +kernel
theorem dX5_does_83 : decode cX5_does 83 = .ok (.iload_n 2, 1) := by decide +kernel
theorem dX5_does_84 : decode cX5_does 84 = .ok (.bipush 8, 2) := by decide +kernel
theorem dX5_does_86 : decode cX5_does 86 = .ok (.if_icmp .lt 16, 3) := by decide +kernel
theorem dX5_does_89 : decode cX5_does 89 = .ok (.iload_n 2, 1) := by decide +kernel
theorem dX5_does_90 : decode cX5_does 90 = .ok (.bipush 127, 2) := by decide +kernel
theorem dX5_does_92 : decode cX5_does 92 = .ok (.if_icmp .le 36, 3) := by decide +kernel
theorem dX5_does_95 : decode cX5_does 95 = .ok (.iload_n 2, 1) := by decide +kernel
theorem dX5_does_96 : decode cX5_does 96 = .ok (.sipush 136, 3) := by decide +kernel
theorem dX5_does_99 : decode cX5_does 99 = .ok (.if_icmp .ge 29, 3) := by decide +kernel
theorem dX5_does_102 : decode cX5_does 102 = .ok (.aload_n 0, 1) := by decide +kernel
theorem dX5_does_103 : decode cX5_does 103 = .ok (.iconst 0, 1) := by decide +kernel
theorem dX5_does_104 : decode cX5_does 104 = .ok (.putfield 59, 3) := by decide +kernel
theorem dX5_does_107 : decode cX5_does 107 = .ok (.aload_n 0, 1) := by decide +kernel
theorem dX5_does_108 : decode cX5_does 108 = .ok (.iload_n 2, 1) := by decide +kernel
theorem dX5_does_109 : decode cX5_does 109 = .ok (.invokevirtual 134, 3) := by decide +kernel
theorem dX5_does_112 : decode cX5_does 112 = .ok (.ifCond .eq 81, 3) := by decide +kernel
theorem dX5_does_115 : decode cX5_does 115 = .ok (.aload_n 0, 1) := by decide +kernel
theorem dX5_does_116 : decode cX5_does 116 = .ok (.bipush 7, 2) := by decide +kernel
theorem dX5_does_118 : decode cX5_does 118 = .ok (.iconst 2, 1) := by decide +kernel
theorem dX5_does_119 : decode cX5_does 119 = .ok (.iload_n 1, 1) := by decide +kernel
theorem dX5_does_120 : decode cX5_does 120 = .ok (.i2b, 1) := by decide +kernel
theorem dX5_does_121 : decode cX5_does 121 = .ok (.imul, 1) := by decide +kernel
theorem dX5_does_122 : decode cX5_does 122 = .ok (.invokevirtual 69, 3) := by decide +kernel
theorem dX5_does_125 : decode cX5_does 125 = .ok (.goto 68, 3) := by decide +kernel
theorem dX5_does_128 : decode cX5_does 128 = .ok (.iload_n 1, 1) := by decide +kernel
theorem dX5_does_129 : decode cX5_does 129 = .ok (.bipush 6, 2) := by decide +kernel
theorem dX5_does_131 : decode cX5_does 131 = .ok (.ishr, 1) := by decide +kernel
theorem dX5_does_132 : decode cX5_does 132 = .ok (.sipush 511, 3) := by decide +kernel
theorem dX5_does_135 : decode cX5_does 135 = .ok (.iand, 1) := by decide +kernel
theorem dX5_does_136 : decode cX5_does 136 = .ok (.bipush 40, 2) := by decide +kernel
theorem dX5_does_138 : decode cX5_does 138 = .ok (.if_icmp .lt 35, 3) := by decide +kernel
theorem dX5_does_141 : decode cX5_does 141 = .ok (.iload_n 1, 1) := by decide +kernel
theorem dX5_does_142 : decode cX5_does 142 = .ok (.bipush 6, 2) := by decide +kernel
theorem dX5_does_144 : decode cX5_does 144 = .ok (.ishr, 1) := by decide +kernel
theorem dX5_does_145 : decode cX5_does 145 = .ok (.sipush 511, 3) := by decide +kernel
theorem dX5_does_148 : decode cX5_does 148 = .ok (.iand, 1) := by decide +kernel
theorem dX5_does_149 : decode cX5_does 149 = .ok (.bipush 51, 2) := by decide +kernel
theorem dX5_does_151 : decode cX5_does 151 = .ok (.if_icmp .gt 22, 3) := by decide +kernel
theorem dX5_does_154 : decode cX5_does 154 = .ok (.aload_n 0, 1) := by decide +kernel
theorem dX5_does_155 : decode cX5_does 155 = .ok (.iload_n 1, 1) := by decide +kernel
theorem dX5_does_156 : decode cX5_does 156 = .ok (.bipush 6, 2) := by decide +kernel
theorem dX5_does_158 : decode cX5_does 158 = .ok (.ishr, 1) := by decide +kernel
theorem dX5_does_159 : decode cX5_does 159 = .ok (.sipush 511, 3) := by decide +kernel
theorem dX5_does_162 : decode cX5_does 162 = .ok (.iand, 1) := by decide +kernel
theorem dX5_does_163 : decode cX5_does 163 = .ok (.bipush 8, 2) := by decide +kernel
theorem dX5_does_165 : decode cX5_does 165 = .ok (.isub, 1) := by decide +kernel
theorem dX5_does_166 : decode cX5_does 166 = .ok (.iload_n 1, 1) := by decide +kernel
theorem dX5_does_167 : decode cX5_does 167 = .ok (.invokevirtual 137, 3) := by decide +kernel
theorem dX5_does_170 : decode cX5_does 170 = .ok (.goto 23, 3) := by decide +kernel
theorem dX5_does_173 : decode cX5_does 173 = .ok (.aload_n 0, 1) := by decide +kernel
theorem dX5_does_174 : decode cX5_does 174 = .ok (.getfield 59, 3) := by decide +kernel
theorem dX5_does_177 : decode cX5_does 177 = .ok (.ifCond .eq 11, 3) := by decide +kernel
theorem dX5_does_180 : decode cX5_does 180 = .ok (.aload_n 0, 1) := by decide +kernel
theorem dX5_does_181 : decode cX5_does 181 = .ok (.iconst 4, 1) := by decide +kernel
theorem dX5_does_182 : decode cX5_does 182 = .ok (.invokevirtual 51, 3) := by decide +kernel
theorem dX5_does_185 : decode cX5_does 185 = .ok (.goto 8, 3) := by decide +kernel
theorem dX5_does_188 : decode cX5_does 188 = .ok (.aload_n 0, 1) := by decide +kernel
theorem dX5_does_189 : decode cX5_does 189 = .ok (.iload_n 1, 1) := by decide +kernel
theorem dX5_does_190 : decode cX5_does 190 = .ok (.invokevirtual 140, 3) := by decide +kernel
theorem dX5_does_193 : decode cX5_does 193 = .ok (.return_, 1) := by decide +kernel
theorem dX5_others_0 : decode cX5_others 0 = .ok (.iload_n 1, 1) := by decide +kernel
theorem dX5_others_1 : decode cX5_others 1 = .ok (.bipush 6, 2) := by decide +kernel
theorem dX5_others_3 : decode cX5_others 3 = .ok (.ishr, 1) := by decide +kernel
theorem dX5_others_4 : decode cX5_others 4 = .ok (.bipush 7, 2) := by decide +kernel
theorem dX5_others_6 : decode cX5_others 6 = .ok (.iand, 1) := by decide +kernel
theorem dX5_others_7 : decode cX5_others 7 = .ok (.istore_n 2, 1) := by decide +kernel
theorem dX5_others_8 : decode cX5_others 8 = .ok (.iload_n 1, 1) := by decide +kernel
theorem dX5_others_9 : decode cX5_others 9 = .ok (.bipush 9, 2) := by decide +kernel
theorem dX5_others_11 : decode cX5_others 11 = .ok (.ishr, 1) := by decide +kernel
theorem dX5_others_12 : decode cX5_others 12 = .ok (.istore_n 3, 1) := by decide +kernel
theorem dX5_others_13 : decode cX5_others 13 = .ok (.iload_n 1, 1) := by decide +kernel
theorem dX5_others_14 : decode cX5_others 14 = .ok (.ifCond .ne 11, 3) := by decide +kernel
theorem dX5_others_17 : decode cX5_others 17 = .ok (.aload_n 0, 1) := by decide +kernel
theorem dX5_others_18 : decode cX5_others 18 = .ok (.iconst 1, 1) := by decide +kernel
theorem dX5_others_19 : decode cX5_others 19 = .ok (.putfield 143, 3) := by decide +kernel
theorem dX5_others_22 : decode cX5_others 22 = .ok (.goto 241, 3) := by decide +kernel
theorem dX5_others_25 : decode cX5_others 25 = .ok (.iload_n 1, 1) := by decide +kernel
theorem dX5_others_26 : decode cX5_others 26 = .ok (.bipush 6, 2) := by decide +kernel
theorem dX5_others_28 : decode cX5_others 28 = .ok (.ishr, 1) := by decide +kernel
theorem dX5_others_29 : decode cX5_others 29 = .ok (.iconst 1, 1) := by decide +kernel
theorem dX5_others_30 : decode cX5_others 30 = .ok (.if_icmp .ne 13, 3) := by decide +kernel
theorem dX5_others_33 : decode cX5_others 33 = .ok (.aload_n 0, 1) := by decide +kernel
theorem dX5_others_34 : decode cX5_others 34 = .ok (.iconst 0, 1) := by decide +kernel
theorem dX5_others_35 : decode cX5_others 35 = .ok (.iload_n 1, 1) := by decide +kernel
theorem dX5_others_36 : decode cX5_others 36 = .ok (.iconst 0, 1) := by decide +kernel
theorem dX5_others_37 : decode cX5_others 37 = .ok (.invokevirtual 146, 3) := by decide +kernel
theorem dX5_others_40 : decode cX5_others 40 = .ok (.goto 223, 3) := by decide +kernel
theorem dX5_others_43 : decode cX5_others 43 = .ok (.iload_n 1, 1) := by decide +kernel
theorem dX5_others_44 : decode cX5_others 44 = .ok (.bipush 6, 2) := by decide +kernel
theorem dX5_others_46 : decode cX5_others 46 = .ok (.ishr, 1) := by decide +kernel
theorem dX5_others_47 : decode cX5_others 47 = .ok (.iconst 3, 1) := by decide +kernel
theorem dX5_others_48 : decode cX5_others 48 = .ok (.if_icmp .ne 11, 3) := by decide +kernel
theorem dX5_others_51 : decode cX5_others 51 = .ok (.aload_n 0, 1) := by decide +kernel
theorem dX5_others_52 : decode cX5_others 52 = .ok (.iload_n 1, 1) := by decide +kernel
theorem dX5_others_53 : decode cX5_others 53 = .ok (.invokevirtual 150, 3) := by decide +kernel
theorem dX5_others_56 : decode cX5_others 56 = .ok (.goto 207, 3) := by decide +kernel
theorem dX5_others_59 : decode cX5_others 59 = .ok (.iload_n 1, 1) := by decide +kernel
theorem dX5_others_60 : decode cX5_others 60 = .ok (.bipush 6, 2) := by decide +kernel
theorem dX5_others_62 : decode cX5_others 62 = .ok (.ishr, 1) := by decide +kernel
theorem dX5_others_63 : decode cX5_others 63 = .ok (.bipush 55, 2) := by decide +kernel
theorem dX5_others_65 : decode cX5_others 65 = .ok (.if_icmp .ne 11, 3) := by decide +kernel
theorem dX5_others_68 : decode cX5_others 68 = .ok (.aload_n 0, 1) := by decide +kernel
theorem dX5_others_69 : decode cX5_others 69 = .ok (.iload_n 1, 1) := by decide +kernel
theorem dX5_others_70 : decode cX5_others 70 = .ok (.invokevirtual 153, 3) := by decide +kernel
theorem dX5_others_73 : decode cX5_others 73 = .ok (.goto 190, 3) := by decide +kernel
theorem dX5_others_76 : decode cX5_others 76 = .ok (.iload_n 3, 1) := by decide +kernel
theorem dX5_others_77 : decode cX5_others 77 = .ok (.iconst 4, 1) := by decide +kernel
theorem dX5_others_78 : decode cX5_others 78 = .ok (.if_icmp .ne 13, 3) := by decide +kernel
theorem dX5_others_81 : decode cX5_others 81 = .ok (.aload_n 0, 1) := by decide +kernel
theorem dX5_others_82 : decode cX5_others 82 = .ok (.iload_n 2, 1) := by decide +kernel
theorem dX5_others_83 : decode cX5_others 83 = .ok (.iload_n 1, 1) := by decide +kernel
theorem dX5_others_84 : decode cX5_others 84 = .ok (.iconst 1, 1) := by decide +kernel
theorem dX5_others_85 : decode cX5_others 85 = .ok (.invokevirtual 146, 3) := by decide +kernel
theorem dX5_others_88 : decode cX5_others 88 = .ok (.goto 175, 3) := by decide +kernel
theorem dX5_others_91 : decode cX5_others 91 = .ok (.iload_n 3, 1) := by decide +kernel
theorem dX5_others_92 : decode cX5_others 92 = .ok (.bipush 56, 2) := by decide +kernel
theorem dX5_others_94 : decode cX5_others 94 = .ok (.if_icmp .ne 12, 3) := by decide +kernel
theorem dX5_others_97 : decode cX5_others 97 = .ok (.aload_n 0, 1) := by decide +kernel
theorem dX5_others_98 : decode cX5_others 98 = .ok (.iload_n 2, 1) := by decide +kernel
theorem dX5_others_99 : decode cX5_others 99 = .ok (.iload_n 1, 1) := by decide +kernel
theorem dX5_others_100 : decode cX5_others 100 = .ok (.invokevirtual 156, 3) := by decide +kernel
theorem dX5_others_103 : decode cX5_others 103 = .ok (.goto 160, 3) := by decide +kernel
theorem dX5_others_106 : decode cX5_others 106 = .ok (.iload_n 3, 1) := by decide +kernel
theorem dX5_others_107 : decode cX5_others 107 = .ok (.bipush 57, 2) := by decide +kernel
theorem dX5_others_109 : decode cX5_others 109 = .ok (.if_icmp .ne 12, 3) := by decide +kernel
theorem dX5_others_112 : decode cX5_others 112 = .ok (.aload_n 0, 1) := by decide +kernel
theorem dX5_others_113 : decode cX5_others 113 = .ok (.iload_n 2, 1) := by decide +kernel
theorem dX5_others_114 : decode cX5_others 114 = .ok (.iload_n 1, 1) := by decide +kernel
theorem dX5_others_115 : decode cX5_others 115 = .ok (.invokevirtual 159, 3) := by decide +kernel
theorem dX5_others_118 : decode cX5_others 118 = .ok (.goto 145, 3) := by decide +kernel
theorem dX5_others_121 : decode cX5_others 121 = .ok (.iload_n 3, 1) := by decide +kernel
theorem dX5_others_122 : decode cX5_others 122 = .ok (.bipush 58, 2) := by decide +kernel
theorem dX5_others_124 : decode cX5_others 124 = .ok (.if_icmp .ne 12, 3) := by decide +kernel
theorem dX5_others_127 : decode cX5_others 127 = .ok (.aload_n 0, 1) := by decide +kernel
theorem dX5_others_128 : decode cX5_others 128 = .ok (.iload_n 2, 1) := by decide +kernel
theorem dX5_others_129 : decode cX5_others 129 = .ok (.iload_n 1, 1) := by decide +kernel
theorem dX5_others_130 : decode cX5_others 130 = .ok (.invokevirtual 162, 3) := by decide +kernel
theorem dX5_others_133 : decode cX5_others 133 = .ok (.goto 130, 3) := by decide +kernel
theorem dX5_others_136 : decode cX5_others 136 = .ok (.iload_n 3, 1) := by decide +kernel
theorem dX5_others_137 : decode cX5_others 137 = .ok (.bipush 60, 2) := by decide +kernel
theorem dX5_others_139 : decode cX5_others 139 = .ok (.if_icmp .ne 12, 3) := by decide +kernel
theorem dX5_others_142 : decode cX5_others 142 = .ok (.aload_n 0, 1) := by decide +kernel
theorem dX5_others_143 : decode cX5_others 143 = .ok (.iload_n 2, 1) := by decide +kernel
theorem dX5_others_144 : decode cX5_others 144 = .ok (.iload_n 1, 1) := by decide +kernel
theorem dX5_others_145 : decode cX5_others 145 = .ok (.invokevirtual 165, 3) := by decide +kernel
theorem dX5_others_148 : decode cX5_others 148 = .ok (.goto 115, 3) := by decide +kernel
theorem dX5_others_151 : decode cX5_others 151 = .ok (.iload_n 3, 1) := by decide +kernel
theorem dX5_others_152 : decode cX5_others 152 = .ok (.bipush 63, 2) := by decide +kernel
theorem dX5_others_154 : decode cX5_others 154 = .ok (.if_icmp .ne 34, 3) := by decide +kernel
theorem dX5_others_157 : decode cX5_others 157 = .ok (.aload_n 0, 1) := by decide +kernel
theorem dX5_others_158 : decode cX5_others 158 = .ok (.iload_n 2, 1) := by decide +kernel
theorem dX5_others_159 : decode cX5_others 159 = .ok (.iconst (-1), 1) := by decide +kernel
theorem dX5_others_160 : decode cX5_others 160 = .ok (.invokevirtual 69, 3) := by decide +kernel
theorem dX5_others_163 : decode cX5_others 163 = .ok (.aload_n 0, 1) := by decide +kernel
theorem dX5_others_164 : decode cX5_others 164 = .ok (.getfield 19, 3) := by decide +kernel
theorem dX5_others_167 : decode cX5_others 167 = .ok (.iload_n 2, 1) := by decide +kernel
theorem dX5_others_168 : decode cX5_others 168 = .ok (.iaload, 1) := by decide +kernel
theorem dX5_others_169 : decode cX5_others 169 = .ok (.ifCond .eq 94, 3) := by decide +kernel
theorem dX5_others_172 : decode cX5_others 172 = .ok (.aload_n 0, 1) := by decide +kernel
theorem dX5_others_173 : decode cX5_others 173 = .ok (.bipush 7, 2) := by decide +kernel
theorem dX5_others_175 : decode cX5_others 175 = .ok (.bipush (-2), 2) := by decide +kernel
theorem dX5_others_177 : decode cX5_others 177 = .ok (.iload_n 1, 1) := by decide +kernel
theorem dX5_others_178 : decode cX5_others 178 = .ok (.bipush 63, 2) := by decide +kernel
theorem dX5_others_180 : decode cX5_others 180 = .ok (.iand, 1) := by decide +kernel
theorem dX5_others_181 : decode cX5_others 181 = .ok (.imul, 1) := by decide +kernel
theorem dX5_others_182 : decode cX5_others 182 = .ok (.invokevirtual 69, 3) := by decide +kernel
theorem dX5_others_185 : decode cX5_others 185 = .ok (.goto 78, 3) := by decide +kernel
theorem dX5_others_188 : decode cX5_others 188 = .ok (.iload_n 1, 1) := by decide +kernel
theorem dX5_others_189 : decode cX5_others 189 = .ok (.iconst 3, 1) := by decide +kernel
theorem dX5_others_190 : decode cX5_others 190 = .ok (.ishr, 1) := by decide +kernel
theorem dX5_others_191 : decode cX5_others 191 = .ok (.bipush 16, 2) := by decide +kernel
theorem dX5_others_193 : decode cX5_others 193 = .ok (.if_icmp .ne 14, 3) := by decide +kernel
theorem dX5_others_196 : decode cX5_others 196 = .ok (.aload_n 0, 1) := by decide +kernel
theorem dX5_others_197 : decode cX5_others 197 = .ok (.iload_n 1, 1) := by decide +kernel
theorem dX5_others_198 : decode cX5_others 198 = .ok (.bipush 7, 2) := by decide +kernel
theorem dX5_others_200 : decode cX5_others 200 = .ok (.iand, 1) := by decide +kernel
theorem dX5_others_201 : decode cX5_others 201 = .ok (.invokevirtual 168, 3) := by decide +kernel
theorem dX5_others_204 : decode cX5_others 204 = .ok (.goto 59, 3) := by decide +kernel
theorem dX5_others_207 : decode cX5_others 207 = .ok (.iload_n 1, 1) := by decide +kernel
theorem dX5_others_208 : decode cX5_others 208 = .ok (.sipush 160, 3) := by decide +kernel
theorem dX5_others_211 : decode cX5_others 211 = .ok (.if_icmp .lt 47, 3) := by decide +kernel
theorem dX5_others_214 : decode cX5_others 214 = .ok (.iload_n 1, 1) := by decide +kernel
theorem dX5_others_215 : decode cX5_others 215 = .ok (.sipush 192, 3) := by decide +kernel
theorem dX5_others_218 : decode cX5_others 218 = .ok (.if_icmp .ge 40, 3) := by decide +kernel
theorem dX5_others_221 : decode cX5_others 221 = .ok (.aload_n 0, 1) := by decide +kernel
theorem dX5_others_222 : decode cX5_others 222 = .ok (.iload_n 1, 1) := by decide +kernel
theorem dX5_others_223 : decode cX5_others 223 = .ok (.sipush 176, 3) := by decide +kernel
theorem dX5_others_226 : decode cX5_others 226 = .ok (.if_icmp .ge 17, 3) := by decide +kernel
theorem dX5_others_229 : decode cX5_others 229 = .ok (.aload_n 0, 1) := by decide +kernel
theorem dX5_others_230 : decode cX5_others 230 = .ok (.getfield 90, 3) := by decide +kernel
theorem dX5_others_233 : decode cX5_others 233 = .ok (.iload_n 1, 1) := by decide +kernel
theorem dX5_others_234 : decode cX5_others 234 = .ok (.bipush 15, 2) := by decide +kernel
theorem dX5_others_236 : decode cX5_others 236 = .ok (.iand, 1) := by decide +kernel
theorem dX5_others_237 : decode cX5_others 237 = .ok (.iconst (-1), 1) := by decide +kernel
theorem dX5_others_238 : decode cX5_others 238 = .ok (.ixor, 1) := by decide +kernel
theorem dX5_others_239 : decode cX5_others 239 = .ok (.iand, 1) := by decide +kernel
theorem dX5_others_240 : decode cX5_others 240 = .ok (.goto 12, 3) := by decide +kernel
theorem dX5_others_243 : decode cX5_others 243 = .ok (.aload_n 0, 1) := by decide +kernel
theorem dX5_others_244 : decode cX5_others 244 = .ok (.getfield 90, 3) := by decide +kernel
theorem dX5_others_247 : decode cX5_others 247 = .ok (.iload_n 1, 1) := by decide +kernel
theorem dX5_others_248 : decode cX5_others 248 = .ok (.bipush 15, 2) := by decide +kernel
theorem dX5_others_250 : decode cX5_others 250 = .ok (.iand, 1) := by decide +kernel
theorem dX5_others_251 : decode cX5_others 251 = .ok (.ior, 1) := by decide +kernel
theorem dX5_others_252 : decode cX5_others 252 = .ok (.putfield 90, 3) := by decide +kernel
theorem dX5_others_255 : decode cX5_others 255 = .ok (.goto 8, 3) := by decide +kernel
theorem dX5_others_258 : decode cX5_others 258 = .ok (.aload_n 0, 1) := by decide +kernel
theorem dX5_others_259 : decode cX5_others 259 = .ok (.iconst 4, 1) := by decide +kernel
theorem dX5_others_260 : decode cX5_others 260 = .ok (.invokevirtual 51, 3) := by decide +kernel
theorem dX5_others_263 : decode cX5_others 263 = .ok (.return_, 1) := by decide +kernel
theorem dX5_step_0 : decode cX5_step 0 = .ok (.iconst 0, 1) := by decide +kernel
theorem dX5_step_1 : decode cX5_step 1 = .ok (.istore_n 1, 1) := by decide +kernel
theorem dX5_step_2 : decode cX5_step 2 = .ok (.iload_n 1, 1) := by decide +kernel
theorem dX5_step_3 : decode cX5_step 3 = .ok (.bipush 8, 2) := by decide +kernel
theorem dX5_step_5 : decode cX5_step 5 = .ok (.if_icmp .ge 21, 3) := by decide +kernel
theorem dX5_step_8 : decode cX5_step 8 = .ok (.aload_n 0, 1) := by decide +kernel
theorem dX5_step_9 : decode cX5_step 9 = .ok (.getfield 19, 3) := by decide +kernel
theorem dX5_step_12 : decode cX5_step 12 = .ok (.iload_n 1, 1) := by decide +kernel
theorem dX5_step_13 : decode cX5_step 13 = .ok (.aload_n 0, 1) := by decide +kernel
theorem dX5_step_14 : decode cX5_step 14 = .ok (.getfield 13, 3) := by decide +kernel
theorem dX5_step_17 : decode cX5_step 17 = .ok (.iload_n 1, 1) := by decide +kernel
theorem dX5_step_18 : decode cX5_step 18 = .ok (.iaload, 1) := by decide +kernel
theorem dX5_step_19 : decode cX5_step 19 = .ok (.iastore, 1) := by decide +kernel
theorem dX5_step_20 : decode cX5_step 20 = .ok (.iinc 1 1, 3) := by decide +kernel
theorem dX5_step_23 : decode cX5_step 23 = .ok (.goto (-21), 3) := by decide +kernel
theorem dX5_step_26 : decode cX5_step 26 = .ok (.aload_n 0, 1) := by decide +kernel
theorem dX5_step_27 : decode cX5_step 27 = .ok (.aload_n 0, 1) := by decide +kernel
theorem dX5_step_28 : decode cX5_step 28 = .ok (.getfield 39, 3) := by decide +kernel
theorem dX5_step_31 : decode cX5_step 31 = .ok (.putfield 90, 3) := by decide +kernel
theorem dX5_step_34 : decode cX5_step 34 = .ok (.aload_n 0, 1) := by decide +kernel
theorem dX5_step_35 : decode cX5_step 35 = .ok (.iconst 0, 1) := by decide +kernel
theorem dX5_step_36 : decode cX5_step 36 = .ok (.putfield 48, 3) := by decide +kernel
theorem dX5_step_39 : decode cX5_step 39 = .ok (.aload_n 0, 1) := by decide +kernel
theorem dX5_step_40 : decode cX5_step 40 = .ok (.iconst 0, 1) := by decide +kernel
theorem dX5_step_41 : decode cX5_step 41 = .ok (.putfield 80, 3) := by decide +kernel
theorem dX5_step_44 : decode cX5_step 44 = .ok (.aload_n 0, 1) := by decide +kernel
theorem dX5_step_45 : decode cX5_step 45 = .ok (.iconst 0, 1) := by decide +kernel
theorem dX5_step_46 : decode cX5_step 46 = .ok (.putfield 143, 3) := by decide +kernel
theorem dX5_step_49 : decode cX5_step 49 = .ok (.aload_n 0, 1) := by decide +kernel
theorem dX5_step_50 : decode cX5_step 50 = .ok (.iconst 0, 1) := by decide +kernel
theorem dX5_step_51 : decode cX5_step 51 = .ok (.putfield 59, 3) := by decide +kernel
theorem dX5_step_54 : decode cX5_step 54 = .ok (.aload_n 0, 1) := by decide +kernel
theorem dX5_step_55 : decode cX5_step 55 = .ok (.invokevirtual 72, 3) := by decide +kernel
theorem dX5_step_58 : decode cX5_step 58 = .ok (.istore_n 1, 1) := by decide +kernel
theorem dX5_step_59 : decode cX5_step 59 = .ok (.aload_n 0, 1) := by decide +kernel
theorem dX5_step_60 : decode cX5_step 60 = .ok (.getfield 48, 3) := by decide +kernel
theorem dX5_step_63 : decode cX5_step 63 = .ok (.ifCond .ne 8, 3) := by decide +kernel
theorem dX5_step_66 : decode cX5_step 66 = .ok (.aload_n 0, 1) := by decide +kernel
theorem dX5_step_67 : decode cX5_step 67 = .ok (.iload_n 1, 1) := by decide +kernel
theorem dX5_step_68 : decode cX5_step 68 = .ok (.invokevirtual 171, 3) := by decide +kernel
theorem dX5_step_71 : decode cX5_step 71 = .ok (.aload_n 0, 1) := by decide +kernel
theorem dX5_step_72 : decode cX5_step 72 = .ok (.getfield 48, 3) := by decide +kernel
theorem dX5_step_75 : decode cX5_step 75 = .ok (.ifCond .le 4, 3) := by decide +kernel
theorem dX5_step_78 : decode cX5_step 78 = .ok (.return_, 1) := by decide +kernel
theorem dX5_step_79 : decode cX5_step 79 = .ok (.iconst 0, 1) := by decide +kernel
theorem dX5_step_80 : decode cX5_step 80 = .ok (.istore_n 2, 1) := by decide +kernel
theorem dX5_step_81 : decode cX5_step 81 = .ok (.iload_n 2, 1) := by decide +kernel
theorem dX5_step_82 : decode cX5_step 82 = .ok (.bipush 8, 2) := by decide +kernel
theorem dX5_step_84 : decode cX5_step 84 = .ok (.if_icmp .ge 21, 3) := by decide +kernel
theorem dX5_step_87 : decode cX5_step 87 = .ok (.aload_n 0, 1) := by decide +kernel
theorem dX5_step_88 : decode cX5_step 88 = .ok (.getfield 13, 3) := by decide +kernel
theorem dX5_step_91 : decode cX5_step 91 = .ok (.iload_n 2, 1) := by decide +kernel
theorem dX5_step_92 : decode cX5_step 92 = .ok (.aload_n 0, 1) := by decide +kernel
theorem dX5_step_93 : decode cX5_step 93 = .ok (.getfield 19, 3) := by decide +kernel
theorem dX5_step_96 : decode cX5_step 96 = .ok (.iload_n 2, 1) := by decide +kernel
theorem dX5_step_97 : decode cX5_step 97 = .ok (.iaload, 1) := by decide +kernel
theorem dX5_step_98 : decode cX5_step 98 = .ok (.iastore, 1) := by decide +kernel
theorem dX5_step_99 : decode cX5_step 99 = .ok (.iinc 2 1, 3) := by decide +kernel
theorem dX5_step_102 : decode cX5_step 102 = .ok (.goto (-21), 3) := by decide +kernel
theorem dX5_step_105 : decode cX5_step 105 = .ok (.aload_n 0, 1) := by decide +kernel
theorem dX5_step_106 : decode cX5_step 106 = .ok (.aload_n 0, 1) := by decide +kernel
theorem dX5_step_107 : decode cX5_step 107 = .ok (.getfield 90, 3) := by decide +kernel
theorem dX5_step_110 : decode cX5_step 110 = .ok (.putfield 39, 3) := by decide +kernel
theorem dX5_step_113 : decode cX5_step 113 = .ok (.aload_n 0, 1) := by decide +kernel
theorem dX5_step_114 : decode cX5_step 114 = .ok (.getfield 80, 3) := by decide +kernel
theorem dX5_step_117 : decode cX5_step 117 = .ok (.iconst 1, 1) := by decide +kernel
theorem dX5_step_118 : decode cX5_step 118 = .ok (.if_icmp .ne 23, 3) := by decide +kernel
theorem dX5_step_121 : decode cX5_step 121 = .ok (.aload_n 0, 1) := by decide +kernel
theorem dX5_step_122 : decode cX5_step 122 = .ok (.getfield 7, 3) := by decide +kernel
theorem dX5_step_125 : decode cX5_step 125 = .ok (.aload_n 0, 1) := by decide +kernel
theorem dX5_step_126 : decode cX5_step 126 = .ok (.getfield 77, 3) := by decide +kernel
theorem dX5_step_129 : decode cX5_step 129 = .ok (.aload_n 0, 1) := by decide +kernel
theorem dX5_step_130 : decode cX5_step 130 = .ok (.getfield 83, 3) := by decide +kernel
theorem dX5_step_133 : decode cX5_step 133 = .ok (.sipush 255, 3) := by decide +kernel
theorem dX5_step_136 : decode cX5_step 136 = .ok (.iand, 1) := by decide +kernel
theorem dX5_step_137 : decode cX5_step 137 = .ok (.iastore, 1) := by decide +kernel
theorem dX5_step_138 : decode cX5_step 138 = .ok (.goto 23, 3) := by decide +kernel
theorem dX5_step_141 : decode cX5_step 141 = .ok (.aload_n 0, 1) := by decide +kernel
theorem dX5_step_142 : decode cX5_step 142 = .ok (.getfield 80, 3) := by decide +kernel
theorem dX5_step_145 : decode cX5_step 145 = .ok (.iconst 2, 1) := by decide +kernel
theorem dX5_step_146 : decode cX5_step 146 = .ok (.if_icmp .ne 15, 3) := by decide +kernel
theorem dX5_step_149 : decode cX5_step 149 = .ok (.aload_n 0, 1) := by decide +kernel
theorem dX5_step_150 : decode cX5_step 150 = .ok (.aload_n 0, 1) := by decide +kernel
theorem dX5_step_151 : decode cX5_step 151 = .ok (.getfield 77, 3) := by decide +kernel
theorem dX5_step_154 : decode cX5_step 154 = .ok (.aload_n 0, 1) := by decide +kernel
theorem dX5_step_155 : decode cX5_step 155 = .ok (.getfield 83, 3) := by decide +kernel
theorem dX5_step_158 : decode cX5_step 158 = .ok (.invokevirtual 31, 3) := by decide +kernel
theorem dX5_step_161 : decode cX5_step 161 = .ok (.aload_n 0, 1) := by decide +kernel
theorem dX5_step_162 : decode cX5_step 162 = .ok (.getfield 80, 3) := by decide +kernel
theorem dX5_step_165 : decode cX5_step 165 = .ok (.ifCond .le 68, 3) := by decide +kernel
theorem dX5_step_168 : decode cX5_step 168 = .ok (.aload_n 0, 1) := by decide +kernel
theorem dX5_step_169 : decode cX5_step 169 = .ok (.getfield 77, 3) := by decide +kernel
theorem dX5_step_172 : decode cX5_step 172 = .ok (.sipush 4094, 3) := by decide +kernel
theorem dX5_step_175 : decode cX5_step 175 = .ok (.if_icmp .ne 58, 3) := by decide +kernel
theorem dX5_step_178 : decode cX5_step 178 = .ok (.aload_n 0, 1) := by decide +kernel
theorem dX5_step_179 : decode cX5_step 179 = .ok (.getfield 45, 3) := by decide +kernel
theorem dX5_step_182 : decode cX5_step 182 = .ok (.sipush 400, 3) := by decide +kernel
theorem dX5_step_185 : decode cX5_step 185 = .ok (.if_icmp .ge 48, 3) := by decide +kernel
theorem dX5_step_188 : decode cX5_step 188 = .ok (.aload_n 0, 1) := by decide +kernel
theorem dX5_step_189 : decode cX5_step 189 = .ok (.getfield 16, 3) := by decide +kernel
