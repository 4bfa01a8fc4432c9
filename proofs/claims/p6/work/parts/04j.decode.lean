theorem dX5_quotient_21 : decode cX5_quotient 21 = .ok (.aload_n 0, 1) := by decide +kernel
theorem dX5_quotient_22 : decode cX5_quotient 22 = .ok (.invokevirtual 106, 3) := by decide +kernel
theorem dX5_quotient_25 : decode cX5_quotient 25 = .ok (.invokestatic 120, 3) := by decide +kernel
theorem dX5_quotient_28 : decode cX5_quotient 28 = .ok (.istore_n 3, 1) := by decide +kernel
theorem dX5_quotient_29 : decode cX5_quotient 29 = .ok (.aload_n 0, 1) := by decide +kernel
theorem dX5_quotient_30 : decode cX5_quotient 30 = .ok (.getfield 19, 3) := by decide +kernel
theorem dX5_quotient_33 : decode cX5_quotient 33 = .ok (.iload_n 1, 1) := by decide +kernel
theorem dX5_quotient_34 : decode cX5_quotient 34 = .ok (.iaload, 1) := by decide +kernel
theorem dX5_quotient_35 : decode cX5_quotient 35 = .ok (.bipush 16, 2) := by decide +kernel
theorem dX5_quotient_37 : decode cX5_quotient 37 = .ok (.ishl, 1) := by decide +kernel
theorem dX5_quotient_38 : decode cX5_quotient 38 = .ok (.aload_n 0, 1) := by decide +kernel
theorem dX5_quotient_39 : decode cX5_quotient 39 = .ok (.getfield 19, 3) := by decide +kernel
theorem dX5_quotient_42 : decode cX5_quotient 42 = .ok (.iload_n 1, 1) := by decide +kernel
theorem dX5_quotient_43 : decode cX5_quotient 43 = .ok (.iconst 1, 1) := by decide +kernel
theorem dX5_quotient_44 : decode cX5_quotient 44 = .ok (.iadd, 1) := by decide +kernel
theorem dX5_quotient_45 : decode cX5_quotient 45 = .ok (.iaload, 1) := by decide +kernel
theorem dX5_quotient_46 : decode cX5_quotient 46 = .ok (.ior, 1) := by decide +kernel
theorem dX5_quotient_47 : decode cX5_quotient 47 = .ok (.istore 4, 2) := by decide +kernel
theorem dX5_quotient_49 : decode cX5_quotient 49 = .ok (.aload_n 0, 1) := by decide +kernel
theorem dX5_quotient_50 : decode cX5_quotient 50 = .ok (.getfield 48, 3) := by decide +kernel
theorem dX5_quotient_53 : decode cX5_quotient 53 = .ok (.ifCond .le 4, 3) := by decide +kernel
theorem dX5_quotient_56 : decode cX5_quotient 56 = .ok (.return_, 1) := by decide +kernel
theorem dX5_quotient_57 : decode cX5_quotient 57 = .ok (.iload_n 3, 1) := by decide +kernel
theorem dX5_quotient_58 : decode cX5_quotient 58 = .ok (.ifCond .ne 17, 3) := by decide +kernel
theorem dX5_quotient_61 : decode cX5_quotient 61 = .ok (.aload_n 0, 1) := by decide +kernel
theorem dX5_quotient_62 : decode cX5_quotient 62 = .ok (.aload_n 0, 1) := by decide +kernel
theorem dX5_quotient_63 : decode cX5_quotient 63 = .ok (.getfield 90, 3) := by decide +kernel
theorem dX5_quotient_66 : decode cX5_quotient 66 = .ok (.bipush 12, 2) := by decide +kernel
theorem dX5_quotient_68 : decode cX5_quotient 68 = .ok (.iand, 1) := by decide +kernel
theorem dX5_quotient_69 : decode cX5_quotient 69 = .ok (.iconst 3, 1) := by decide +kernel
theorem dX5_quotient_70 : decode cX5_quotient 70 = .ok (.ior, 1) := by decide +kernel
theorem dX5_quotient_71 : decode cX5_quotient 71 = .ok (.putfield 90, 3) := by decide +kernel
theorem dX5_quotient_74 : decode cX5_quotient 74 = .ok (.return_, 1) := by decide +kernel
theorem dX5_quotient_75 : decode cX5_quotient 75 = .ok (.iload 4, 2) := by decide +kernel
theorem dX5_quotient_77 : decode cX5_quotient 77 = .ok (.i2l, 1) := by decide +kernel
theorem dX5_quotient_78 : decode cX5_quotient 78 = .ok (.iload_n 3, 1) := by decide +kernel
theorem dX5_quotient_79 : decode cX5_quotient 79 = .ok (.i2l, 1) := by decide +kernel
theorem dX5_quotient_80 : decode cX5_quotient 80 = .ok (.ldiv, 1) := by decide +kernel
theorem dX5_quotient_81 : decode cX5_quotient 81 = .ok (.lstore 5, 2) := by decide +kernel
theorem dX5_quotient_83 : decode cX5_quotient 83 = .ok (.iload 4, 2) := by decide +kernel
theorem dX5_quotient_85 : decode cX5_quotient 85 = .ok (.i2l, 1) := by decide +kernel
theorem dX5_quotient_86 : decode cX5_quotient 86 = .ok (.lload 5, 2) := by decide +kernel
theorem dX5_quotient_88 : decode cX5_quotient 88 = .ok (.iload_n 3, 1) := by decide +kernel
theorem dX5_quotient_89 : decode cX5_quotient 89 = .ok (.i2l, 1) := by decide +kernel
theorem dX5_quotient_90 : decode cX5_quotient 90 = .ok (.lmul, 1) := by decide +kernel
theorem dX5_quotient_91 : decode cX5_quotient 91 = .ok (.lsub, 1) := by decide +kernel
theorem dX5_quotient_92 : decode cX5_quotient 92 = .ok (.lstore 7, 2) := by decide +kernel
theorem dX5_quotient_94 : decode cX5_quotient 94 = .ok (.lload 5, 2) := by decide +kernel
theorem dX5_quotient_96 : decode cX5_quotient 96 = .ok (.ldc2_w 123, 3) := by decide +kernel
theorem dX5_quotient_99 : decode cX5_quotient 99 = .ok (.lcmp, 1) := by decide +kernel
theorem dX5_quotient_100 : decode cX5_quotient 100 = .ok (.ifCond .lt 12, 3) := by decide +kernel
theorem dX5_quotient_103 : decode cX5_quotient 103 = .ok (.lload 5, 2) := by decide +kernel
theorem dX5_quotient_105 : decode cX5_quotient 105 = .ok (.ldc2_w 125, 3) := by decide +kernel
theorem dX5_quotient_108 : decode cX5_quotient 108 = .ok (.lcmp, 1) := by decide +kernel
theorem dX5_quotient_109 : decode cX5_quotient 109 = .ok (.ifCond .le 17, 3) := by decide +kernel
theorem dX5_quotient_112 : decode cX5_quotient 112 = .ok (.aload_n 0, 1) := by decide +kernel
theorem dX5_quotient_113 : decode cX5_quotient 113 = .ok (.aload_n 0, 1) := by decide +kernel
theorem dX5_quotient_114 : decode cX5_quotient 114 = .ok (.getfield 90, 3) := by decide +kernel
theorem dX5_quotient_117 : decode cX5_quotient 117 = .ok (.bipush 12, 2) := by decide +kernel
theorem dX5_quotient_119 : decode cX5_quotient 119 = .ok (.iand, 1) := by decide +kernel
theorem dX5_quotient_120 : decode cX5_quotient 120 = .ok (.iconst 2, 1) := by decide +kernel
theorem dX5_quotient_121 : decode cX5_quotient 121 = .ok (.ior, 1) := by decide +kernel
theorem dX5_quotient_122 : decode cX5_quotient 122 = .ok (.putfield 90, 3) := by decide +kernel
theorem dX5_quotient_125 : decode cX5_quotient 125 = .ok (.return_, 1) := by decide +kernel
theorem dX5_quotient_126 : decode cX5_quotient 126 = .ok (.aload_n 0, 1) := by decide +kernel
theorem dX5_quotient_127 : decode cX5_quotient 127 = .ok (.getfield 19, 3) := by decide +kernel
theorem dX5_quotient_130 : decode cX5_quotient 130 = .ok (.iload_n 1, 1) := by decide +kernel
theorem dX5_quotient_131 : decode cX5_quotient 131 = .ok (.lload 5, 2) := by decide +kernel
theorem dX5_quotient_133 : decode cX5_quotient 133 = .ok (.l2i, 1) := by decide +kernel
theorem dX5_quotient_134 : decode cX5_quotient 134 = .ok (.ldc 30, 2) := by decide +kernel
theorem dX5_quotient_136 : decode cX5_quotient 136 = .ok (.iand, 1) := by decide +kernel
theorem dX5_quotient_137 : decode cX5_quotient 137 = .ok (.iastore, 1) := by decide +kernel
theorem dX5_quotient_138 : decode cX5_quotient 138 = .ok (.aload_n 0, 1) := by decide +kernel
theorem dX5_quotient_139 : decode cX5_quotient 139 = .ok (.getfield 19, 3) := by decide +kernel
theorem dX5_quotient_142 : decode cX5_quotient 142 = .ok (.iload_n 1, 1) := by decide +kernel
theorem dX5_quotient_143 : decode cX5_quotient 143 = .ok (.iconst 1, 1) := by decide +kernel
theorem dX5_quotient_144 : decode cX5_quotient 144 = .ok (.iadd, 1) := by decide +kernel
theorem dX5_quotient_145 : decode cX5_quotient 145 = .ok (.lload 7, 2) := by decide +kernel
theorem dX5_quotient_147 : decode cX5_quotient 147 = .ok (.l2i, 1) := by decide +kernel
theorem dX5_quotient_148 : decode cX5_quotient 148 = .ok (.ldc 30, 2) := by decide +kernel
theorem dX5_quotient_150 : decode cX5_quotient 150 = .ok (.iand, 1) := by decide +kernel
theorem dX5_quotient_151 : decode cX5_quotient 151 = .ok (.iastore, 1) := by decide +kernel
theorem dX5_quotient_152 : decode cX5_quotient 152 = .ok (.aload_n 0, 1) := by decide +kernel
theorem dX5_quotient_153 : decode cX5_quotient 153 = .ok (.lload 5, 2) := by decide +kernel
theorem dX5_quotient_155 : decode cX5_quotient 155 = .ok (.lconst 0, 1) := by decide +kernel
theorem dX5_quotient_156 : decode cX5_quotient 156 = .ok (.lcmp, 1) := by decide +kernel
theorem dX5_quotient_157 : decode cX5_quotient 157 = .ok (.ifCond .ge 7, 3) := by decide +kernel
theorem dX5_quotient_160 : decode cX5_quotient 160 = .ok (.iconst 1, 1) := by decide +kernel
theorem dX5_quotient_161 : decode cX5_quotient 161 = .ok (.goto 4, 3) := by decide +kernel
theorem dX5_quotient_164 : decode cX5_quotient 164 = .ok (.iconst 0, 1) := by decide +kernel
theorem dX5_quotient_165 : decode cX5_quotient 165 = .ok (.lload 5, 2) := by decide +kernel
theorem dX5_quotient_167 : decode cX5_quotient 167 = .ok (.lconst 0, 1) := by decide +kernel
theorem dX5_quotient_168 : decode cX5_quotient 168 = .ok (.lcmp, 1) := by decide +kernel
theorem dX5_quotient_169 : decode cX5_quotient 169 = .ok (.ifCond .ne 7, 3) := by decide +kernel
theorem dX5_quotient_172 : decode cX5_quotient 172 = .ok (.iconst 1, 1) := by decide +kernel
theorem dX5_quotient_173 : decode cX5_quotient 173 = .ok (.goto 4, 3) := by decide +kernel
theorem dX5_quotient_176 : decode cX5_quotient 176 = .ok (.iconst 0, 1) := by decide +kernel
theorem dX5_quotient_177 : decode cX5_quotient 177 = .ok (.iconst 0, 1) := by decide +kernel
theorem dX5_quotient_178 : decode cX5_quotient 178 = .ok (.iconst 0, 1) := by decide +kernel
theorem dX5_quotient_179 : decode cX5_quotient 179 = .ok (.invokevirtual 99, 3) := by decide +kernel
theorem dX5_quotient_182 : decode cX5_quotient 182 = .ok (.return_, 1) := by decide +kernel
theorem dX5_shift_0 : decode cX5_shift 0 = .ok (.aload_n 0, 1) := by decide +kernel
theorem dX5_shift_1 : decode cX5_shift 1 = .ok (.iload_n 2, 1) := by decide +kernel
theorem dX5_shift_2 : decode cX5_shift 2 = .ok (.bipush 63, 2) := by decide +kernel
theorem dX5_shift_4 : decode cX5_shift 4 = .ok (.iand, 1) := by decide +kernel
theorem dX5_shift_5 : decode cX5_shift 5 = .ok (.invokevirtual 103, 3) := by decide +kernel
theorem dX5_shift_8 : decode cX5_shift 8 = .ok (.aload_n 0, 1) := by decide +kernel
theorem dX5_shift_9 : decode cX5_shift 9 = .ok (.invokevirtual 106, 3) := by decide +kernel
theorem dX5_shift_12 : decode cX5_shift 12 = .ok (.bipush 63, 2) := by decide +kernel
theorem dX5_shift_14 : decode cX5_shift 14 = .ok (.iand, 1) := by decide +kernel
theorem dX5_shift_15 : decode cX5_shift 15 = .ok (.istore_n 3, 1) := by decide +kernel
theorem dX5_shift_16 : decode cX5_shift 16 = .ok (.iload_n 3, 1) := by decide +kernel
theorem dX5_shift_17 : decode cX5_shift 17 = .ok (.bipush 31, 2) := by decide +kernel
theorem dX5_shift_19 : decode cX5_shift 19 = .ok (.if_icmp .le 10, 3) := by decide +kernel
theorem dX5_shift_22 : decode cX5_shift 22 = .ok (.iload_n 3, 1) := by decide +kernel
theorem dX5_shift_23 : decode cX5_shift 23 = .ok (.bipush 64, 2) := by decide +kernel
theorem dX5_shift_25 : decode cX5_shift 25 = .ok (.isub, 1) := by decide +kernel
theorem dX5_shift_26 : decode cX5_shift 26 = .ok (.goto 4, 3) := by decide +kernel
theorem dX5_shift_29 : decode cX5_shift 29 = .ok (.iload_n 3, 1) := by decide +kernel
theorem dX5_shift_30 : decode cX5_shift 30 = .ok (.istore 4, 2) := by decide +kernel
theorem dX5_shift_32 : decode cX5_shift 32 = .ok (.aload_n 0, 1) := by decide +kernel
theorem dX5_shift_33 : decode cX5_shift 33 = .ok (.getfield 19, 3) := by decide +kernel
theorem dX5_shift_36 : decode cX5_shift 36 = .ok (.iload_n 1, 1) := by decide +kernel
theorem dX5_shift_37 : decode cX5_shift 37 = .ok (.iaload, 1) := by decide +kernel
theorem dX5_shift_38 : decode cX5_shift 38 = .ok (.istore 5, 2) := by decide +kernel
theorem dX5_shift_40 : decode cX5_shift 40 = .ok (.iload 5, 2) := by decide +kernel
theorem dX5_shift_42 : decode cX5_shift 42 = .ok (.sipush 32767, 3) := by decide +kernel
theorem dX5_shift_45 : decode cX5_shift 45 = .ok (.if_icmp .le 7, 3) := by decide +kernel
theorem dX5_shift_48 : decode cX5_shift 48 = .ok (.iconst 1, 1) := by decide +kernel
theorem dX5_shift_49 : decode cX5_shift 49 = .ok (.goto 4, 3) := by decide +kernel
theorem dX5_shift_52 : decode cX5_shift 52 = .ok (.iconst 0, 1) := by decide +kernel
theorem dX5_shift_53 : decode cX5_shift 53 = .ok (.istore 6, 2) := by decide +kernel
theorem dX5_shift_55 : decode cX5_shift 55 = .ok (.iconst 0, 1) := by decide +kernel
theorem dX5_shift_56 : decode cX5_shift 56 = .ok (.istore 7, 2) := by decide +kernel
theorem dX5_shift_58 : decode cX5_shift 58 = .ok (.iconst 0, 1) := by decide +kernel
theorem dX5_shift_59 : decode cX5_shift 59 = .ok (.istore 8, 2) := by decide +kernel
theorem dX5_shift_61 : decode cX5_shift 61 = .ok (.iconst 0, 1) := by decide +kernel
theorem dX5_shift_62 : decode cX5_shift 62 = .ok (.istore 9, 2) := by decide +kernel
theorem dX5_shift_64 : decode cX5_shift 64 = .ok (.iload 9, 2) := by decide +kernel
theorem dX5_shift_66 : decode cX5_shift 66 = .ok (.iload 4, 2) := by decide +kernel
theorem dX5_shift_68 : decode cX5_shift 68 = .ok (.if_icmp .ge 63, 3) := by decide +kernel
theorem dX5_shift_71 : decode cX5_shift 71 = .ok (.iload 5, 2) := by decide +kernel
theorem dX5_shift_73 : decode cX5_shift 73 = .ok (.sipush 32767, 3) := by decide +kernel
theorem dX5_shift_76 : decode cX5_shift 76 = .ok (.if_icmp .le 7, 3) := by decide +kernel
theorem dX5_shift_79 : decode cX5_shift 79 = .ok (.iconst 1, 1) := by decide +kernel
theorem dX5_shift_80 : decode cX5_shift 80 = .ok (.goto 4, 3) := by decide +kernel
theorem dX5_shift_83 : decode cX5_shift 83 = .ok (.iconst 0, 1) := by decide +kernel
theorem dX5_shift_84 : decode cX5_shift 84 = .ok (.istore 7, 2) := by decide +kernel
theorem dX5_shift_86 : decode cX5_shift 86 = .ok (.iload 5, 2) := by decide +kernel
theorem dX5_shift_88 : decode cX5_shift 88 = .ok (.iconst 1, 1) := by decide +kernel
theorem dX5_shift_89 : decode cX5_shift 89 = .ok (.ishl, 1) := by decide +kernel
theorem dX5_shift_90 : decode cX5_shift 90 = .ok (.ldc 30, 2) := by decide +kernel
theorem dX5_shift_92 : decode cX5_shift 92 = .ok (.iand, 1) := by decide +kernel
theorem dX5_shift_93 : decode cX5_shift 93 = .ok (.istore 5, 2) := by decide +kernel
theorem dX5_shift_95 : decode cX5_shift 95 = .ok (.iload 8, 2) := by decide +kernel
theorem dX5_shift_97 : decode cX5_shift 97 = .ok (.ifCond .ne 21, 3) := by decide +kernel
theorem dX5_shift_100 : decode cX5_shift 100 = .ok (.iload 5, 2) := by decide +kernel
theorem dX5_shift_102 : decode cX5_shift 102 = .ok (.sipush 32767, 3) := by decide +kernel
theorem dX5_shift_105 : decode cX5_shift 105 = .ok (.if_icmp .le 7, 3) := by decide +kernel
theorem dX5_shift_108 : decode cX5_shift 108 = .ok (.iconst 1, 1) := by decide +kernel
theorem dX5_shift_109 : decode cX5_shift 109 = .ok (.goto 4, 3) := by decide +kernel
theorem dX5_shift_112 : decode cX5_shift 112 = .ok (.iconst 0, 1) := by decide +kernel
theorem dX5_shift_113 : decode cX5_shift 113 = .ok (.iload 6, 2) := by decide +kernel
theorem dX5_shift_115 : decode cX5_shift 115 = .ok (.if_icmp .eq 7, 3) := by decide +kernel
theorem dX5_shift_118 : decode cX5_shift 118 = .ok (.iconst 1, 1) := by decide +kernel
theorem dX5_shift_119 : decode cX5_shift 119 = .ok (.goto 4, 3) := by decide +kernel
theorem dX5_shift_122 : decode cX5_shift 122 = .ok (.iconst 0, 1) := by decide +kernel
theorem dX5_shift_123 : decode cX5_shift 123 = .ok (.istore 8, 2) := by decide +kernel
theorem dX5_shift_125 : decode cX5_shift 125 = .ok (.iinc 9 1, 3) := by decide +kernel
theorem dX5_shift_128 : decode cX5_shift 128 = .ok (.goto (-64), 3) := by decide +kernel
theorem dX5_shift_131 : decode cX5_shift 131 = .ok (.iload 4, 2) := by decide +kernel
theorem dX5_shift_133 : decode cX5_shift 133 = .ok (.istore 9, 2) := by decide +kernel
theorem dX5_shift_135 : decode cX5_shift 135 = .ok (.iload 9, 2) := by decide +kernel
theorem dX5_shift_137 : decode cX5_shift 137 = .ok (.ifCond .ge 36, 3) := by decide +kernel
theorem dX5_shift_140 : decode cX5_shift 140 = .ok (.iload 5, 2) := by decide +kernel
theorem dX5_shift_142 : decode cX5_shift 142 = .ok (.iconst 1, 1) := by decide +kernel
theorem dX5_shift_143 : decode cX5_shift 143 = .ok (.iand, 1) := by decide +kernel
theorem dX5_shift_144 : decode cX5_shift 144 = .ok (.iconst 1, 1) := by decide +kernel
theorem dX5_shift_145 : decode cX5_shift 145 = .ok (.if_icmp .ne 7, 3) := by decide +kernel
theorem dX5_shift_148 : decode cX5_shift 148 = .ok (.iconst 1, 1) := by decide +kernel
theorem dX5_shift_149 : decode cX5_shift 149 = .ok (.goto 4, 3) := by decide +kernel
theorem dX5_shift_152 : decode cX5_shift 152 = .ok (.iconst 0, 1) := by decide +kernel
theorem dX5_shift_153 : decode cX5_shift 153 = .ok (.istore 7, 2) := by decide +kernel
theorem dX5_shift_155 : decode cX5_shift 155 = .ok (.iload 5, 2) := by decide +kernel
theorem dX5_shift_157 : decode cX5_shift 157 = .ok (.iconst 1, 1) := by decide +kernel
theorem dX5_shift_158 : decode cX5_shift 158 = .ok (.ishr, 1) := by decide +kernel
theorem dX5_shift_159 : decode cX5_shift 159 = .ok (.iload 5, 2) := by decide +kernel
theorem dX5_shift_161 : decode cX5_shift 161 = .ok (.ldc 86, 2) := by decide +kernel
theorem dX5_shift_163 : decode cX5_shift 163 = .ok (.iand, 1) := by decide +kernel
theorem dX5_shift_164 : decode cX5_shift 164 = .ok (.ior, 1) := by decide +kernel
theorem dX5_shift_165 : decode cX5_shift 165 = .ok (.istore 5, 2) := by decide +kernel
theorem dX5_shift_167 : decode cX5_shift 167 = .ok (.iinc 9 1, 3) := by decide +kernel
theorem dX5_shift_170 : decode cX5_shift 170 = .ok (.goto (-35), 3) := by decide +kernel
theorem dX5_shift_173 : decode cX5_shift 173 = .ok (.aload_n 0, 1) := by decide +kernel
theorem dX5_shift_174 : decode cX5_shift 174 = .ok (.getfield 19, 3) := by decide +kernel
theorem dX5_shift_177 : decode cX5_shift 177 = .ok (.iload_n 1, 1) := by decide +kernel
theorem dX5_shift_178 : decode cX5_shift 178 = .ok (.iload 5, 2) := by decide +kernel
theorem dX5_shift_180 : decode cX5_shift 180 = .ok (.iastore, 1) := by decide +kernel
theorem dX5_shift_181 : decode cX5_shift 181 = .ok (.aload_n 0, 1) := by decide +kernel
theorem dX5_shift_182 : decode cX5_shift 182 = .ok (.iload 5, 2) := by decide +kernel
theorem dX5_shift_184 : decode cX5_shift 184 = .ok (.sipush 32767, 3) := by decide +kernel
theorem dX5_shift_187 : decode cX5_shift 187 = .ok (.if_icmp .le 7, 3) := by decide +kernel
theorem dX5_shift_190 : decode cX5_shift 190 = .ok (.iconst 1, 1) := by decide +kernel
theorem dX5_shift_191 : decode cX5_shift 191 = .ok (.goto 4, 3) := by decide +kernel
theorem dX5_shift_194 : decode cX5_shift 194 = .ok (.iconst 0, 1) := by decide +kernel
theorem dX5_shift_195 : decode cX5_shift 195 = .ok (.iload 5, 2) := by decide +kernel
theorem dX5_shift_197 : decode cX5_shift 197 = .ok (.ifCond .ne 7, 3) := by decide +kernel
theorem dX5_shift_200 : decode cX5_shift 200 = .ok (.iconst 1, 1) := by decide +kernel
theorem dX5_shift_201 : decode cX5_shift 201 = .ok (.goto 4, 3) := by decide +kernel
theorem dX5_shift_204 : decode cX5_shift 204 = .ok (.iconst 0, 1) := by decide +kernel
theorem dX5_shift_205 : decode cX5_shift 205 = .ok (.iload 5, 2) := by decide +kernel
theorem dX5_shift_207 : decode cX5_shift 207 = .ok (.sipush 32767, 3) := by decide +kernel
theorem dX5_shift_210 : decode cX5_shift 210 = .ok (.if_icmp .le 7, 3) := by decide +kernel
theorem dX5_shift_213 : decode cX5_shift 213 = .ok (.iconst 1, 1) := by decide +kernel
theorem dX5_shift_214 : decode cX5_shift 214 = .ok (.goto 4, 3) := by decide +kernel
theorem dX5_shift_217 : decode cX5_shift 217 = .ok (.iconst 0, 1) := by decide +kernel
theorem dX5_shift_218 : decode cX5_shift 218 = .ok (.iload 6, 2) := by decide +kernel
theorem dX5_shift_220 : decode cX5_shift 220 = .ok (.if_icmp .eq 7, 3) := by decide +kernel
theorem dX5_shift_223 : decode cX5_shift 223 = .ok (.iconst 1, 1) := by decide +kernel
theorem dX5_shift_224 : decode cX5_shift 224 = .ok (.goto 4, 3) := by decide +kernel
theorem dX5_shift_227 : decode cX5_shift 227 = .ok (.iconst 0, 1) := by decide +kernel
theorem dX5_shift_228 : decode cX5_shift 228 = .ok (.iload 7, 2) := by decide +kernel
theorem dX5_shift_230 : decode cX5_shift 230 = .ok (.invokevirtual 99, 3) := by decide +kernel
theorem dX5_shift_233 : decode cX5_shift 233 = .ok (.return_, 1) := by decide +kernel
theorem dX5_either_0 : decode cX5_either 0 = .ok (.aload_n 0, 1) := by decide +kernel
theorem dX5_either_1 : decode cX5_either 1 = .ok (.iload_n 2, 1) := by decide +kernel
theorem dX5_either_2 : decode cX5_either 2 = .ok (.bipush 63, 2) := by decide +kernel
theorem dX5_either_4 : decode cX5_either 4 = .ok (.iand, 1) := by decide +kernel
theorem dX5_either_5 : decode cX5_either 5 = .ok (.invokevirtual 103, 3) := by decide +kernel
theorem dX5_either_8 : decode cX5_either 8 = .ok (.aload_n 0, 1) := by decide +kernel
theorem dX5_either_9 : decode cX5_either 9 = .ok (.invokevirtual 106, 3) := by decide +kernel
theorem dX5_either_12 : decode cX5_either 12 = .ok (.istore_n 3, 1) := by decide +kernel
theorem dX5_either_13 : decode cX5_either 13 = .ok (.iload_n 3, 1) := by decide +kernel
theorem dX5_either_14 : decode cX5_either 14 = .ok (.aload_n 0, 1) := by decide +kernel
theorem dX5_either_15 : decode cX5_either 15 = .ok (.getfield 19, 3) := by decide +kernel
theorem dX5_either_18 : decode cX5_either 18 = .ok (.iload_n 1, 1) := by decide +kernel
theorem dX5_either_19 : decode cX5_either 19 = .ok (.iaload, 1) := by decide +kernel
theorem dX5_either_20 : decode cX5_either 20 = .ok (.ixor, 1) := by decide +kernel
theorem dX5_either_21 : decode cX5_either 21 = .ok (.istore 4, 2) := by decide +kernel
theorem dX5_either_23 : decode cX5_either 23 = .ok (.aload_n 0, 1) := by decide +kernel
theorem dX5_either_24 : decode cX5_either 24 = .ok (.iload 4, 2) := by decide +kernel
theorem dX5_either_26 : decode cX5_either 26 = .ok (.iconst 0, 1) := by decide +kernel
theorem dX5_either_27 : decode cX5_either 27 = .ok (.aload_n 0, 1) := by decide +kernel
theorem dX5_either_28 : decode cX5_either 28 = .ok (.iconst 1, 1) := by decide +kernel
theorem dX5_either_29 : decode cX5_either 29 = .ok (.invokevirtual 109, 3) := by decide +kernel
theorem dX5_either_32 : decode cX5_either 32 = .ok (.invokevirtual 112, 3) := by decide +kernel
theorem dX5_either_35 : decode cX5_either 35 = .ok (.aload_n 0, 1) := by decide +kernel
theorem dX5_either_36 : decode cX5_either 36 = .ok (.iload 4, 2) := by decide +kernel
theorem dX5_either_38 : decode cX5_either 38 = .ok (.invokevirtual 116, 3) := by decide +kernel
theorem dX5_either_41 : decode cX5_either 41 = .ok (.return_, 1) := by decide +kernel
theorem dX5_jump_0 : decode cX5_jump 0 = .ok (.iload_n 2, 1) := by decide +kernel
theorem dX5_jump_1 : decode cX5_jump 1 = .ok (.iconst 3, 1) := by decide +kernel
theorem dX5_jump_2 : decode cX5_jump 2 = .ok (.ishr, 1) := by decide +kernel
theorem dX5_jump_3 : decode cX5_jump 3 = .ok (.bipush 7, 2) := by decide +kernel
theorem dX5_jump_5 : decode cX5_jump 5 = .ok (.iand, 1) := by decide +kernel
theorem dX5_jump_6 : decode cX5_jump 6 = .ok (.ifCond .ne 9, 3) := by decide +kernel
theorem dX5_jump_9 : decode cX5_jump 9 = .ok (.aload_n 0, 1) := by decide +kernel
theorem dX5_jump_10 : decode cX5_jump 10 = .ok (.iconst 4, 1) := by decide +kernel
theorem dX5_jump_11 : decode cX5_jump 11 = .ok (.invokevirtual 51, 3) := by decide +kernel
theorem dX5_jump_14 : decode cX5_jump 14 = .ok (.return_, 1) := by decide +kernel
theorem dX5_jump_15 : decode cX5_jump 15 = .ok (.aload_n 0, 1) := by decide +kernel
theorem dX5_jump_16 : decode cX5_jump 16 = .ok (.iload_n 2, 1) := by decide +kernel
theorem dX5_jump_17 : decode cX5_jump 17 = .ok (.bipush 63, 2) := by decide +kernel
theorem dX5_jump_19 : decode cX5_jump 19 = .ok (.iand, 1) := by decide +kernel
theorem dX5_jump_20 : decode cX5_jump 20 = .ok (.invokevirtual 103, 3) := by decide +kernel
theorem dX5_jump_23 : decode cX5_jump 23 = .ok (.aload_n 0, 1) := by decide +kernel
theorem dX5_jump_24 : decode cX5_jump 24 = .ok (.getfield 66, 3) := by decide +kernel
theorem dX5_jump_27 : decode cX5_jump 27 = .ok (.istore 4, 2) := by decide +kernel
theorem dX5_jump_29 : decode cX5_jump 29 = .ok (.iload_n 3, 1) := by decide +kernel
theorem dX5_jump_30 : decode cX5_jump 30 = .ok (.ifCond .eq 81, 3) := by decide +kernel
theorem dX5_jump_33 : decode cX5_jump 33 = .ok (.aload_n 0, 1) := by decide +kernel
theorem dX5_jump_34 : decode cX5_jump 34 = .ok (.getfield 48, 3) := by decide +kernel
theorem dX5_jump_37 : decode cX5_jump 37 = .ok (.ifCond .ne 74, 3) := by decide +kernel
theorem dX5_jump_40 : decode cX5_jump 40 = .ok (.aload_n 0, 1) := by decide +kernel
theorem dX5_jump_41 : decode cX5_jump 41 = .ok (.bipush 6, 2) := by decide +kernel
theorem dX5_jump_43 : decode cX5_jump 43 = .ok (.bipush (-2), 2) := by decide +kernel
theorem dX5_jump_45 : decode cX5_jump 45 = .ok (.invokevirtual 69, 3) := by decide +kernel
theorem dX5_jump_48 : decode cX5_jump 48 = .ok (.aload_n 0, 1) := by decide +kernel
theorem dX5_jump_49 : decode cX5_jump 49 = .ok (.getfield 19, 3) := by decide +kernel
theorem dX5_jump_52 : decode cX5_jump 52 = .ok (.iload_n 1, 1) := by decide +kernel
theorem dX5_jump_53 : decode cX5_jump 53 = .ok (.iaload, 1) := by decide +kernel
theorem dX5_jump_54 : decode cX5_jump 54 = .ok (.istore 5, 2) := by decide +kernel
theorem dX5_jump_56 : decode cX5_jump 56 = .ok (.aload_n 0, 1) := by decide +kernel
theorem dX5_jump_57 : decode cX5_jump 57 = .ok (.aload_n 0, 1) := by decide +kernel
theorem dX5_jump_58 : decode cX5_jump 58 = .ok (.getfield 19, 3) := by decide +kernel
theorem dX5_jump_61 : decode cX5_jump 61 = .ok (.bipush 6, 2) := by decide +kernel
theorem dX5_jump_63 : decode cX5_jump 63 = .ok (.iaload, 1) := by decide +kernel
theorem dX5_jump_64 : decode cX5_jump 64 = .ok (.iconst 0, 1) := by decide +kernel
theorem dX5_jump_65 : decode cX5_jump 65 = .ok (.invokevirtual 55, 3) := by decide +kernel
theorem dX5_jump_68 : decode cX5_jump 68 = .ok (.pop, 1) := by decide +kernel
theorem dX5_jump_69 : decode cX5_jump 69 = .ok (.aload_n 0, 1) := by decide +kernel
theorem dX5_jump_70 : decode cX5_jump 70 = .ok (.getfield 48, 3) := by decide +kernel
theorem dX5_jump_73 : decode cX5_jump 73 = .ok (.ifCond .ne 25, 3) := by decide +kernel
theorem dX5_jump_76 : decode cX5_jump 76 = .ok (.aload_n 0, 1) := by decide +kernel
theorem dX5_jump_77 : decode cX5_jump 77 = .ok (.aload_n 0, 1) := by decide +kernel
theorem dX5_jump_78 : decode cX5_jump 78 = .ok (.getfield 19, 3) := by decide +kernel
theorem dX5_jump_81 : decode cX5_jump 81 = .ok (.bipush 6, 2) := by decide +kernel
theorem dX5_jump_83 : decode cX5_jump 83 = .ok (.iaload, 1) := by decide +kernel
theorem dX5_jump_84 : decode cX5_jump 84 = .ok (.putfield 77, 3) := by decide +kernel
theorem dX5_jump_87 : decode cX5_jump 87 = .ok (.aload_n 0, 1) := by decide +kernel
theorem dX5_jump_88 : decode cX5_jump 88 = .ok (.iconst 2, 1) := by decide +kernel
theorem dX5_jump_89 : decode cX5_jump 89 = .ok (.putfield 80, 3) := by decide +kernel
theorem dX5_jump_92 : decode cX5_jump 92 = .ok (.aload_n 0, 1) := by decide +kernel
theorem dX5_jump_93 : decode cX5_jump 93 = .ok (.iload 5, 2) := by decide +kernel
theorem dX5_jump_95 : decode cX5_jump 95 = .ok (.putfield 83, 3) := by decide +kernel
theorem dX5_jump_98 : decode cX5_jump 98 = .ok (.aload_n 0, 1) := by decide +kernel
theorem dX5_jump_99 : decode cX5_jump 99 = .ok (.getfield 19, 3) := by decide +kernel
theorem dX5_jump_102 : decode cX5_jump 102 = .ok (.iload_n 1, 1) := by decide +kernel
theorem dX5_jump_103 : decode cX5_jump 103 = .ok (.aload_n 0, 1) := by decide +kernel
theorem dX5_jump_104 : decode cX5_jump 104 = .ok (.getfield 19, 3) := by decide +kernel
theorem dX5_jump_107 : decode cX5_jump 107 = .ok (.bipush 7, 2) := by decide +kernel
theorem dX5_jump_109 : decode cX5_jump 109 = .ok (.iaload, 1) := by decide +kernel
theorem dX5_jump_110 : decode cX5_jump 110 = .ok (.iastore, 1) := by decide +kernel
theorem dX5_jump_111 : decode cX5_jump 111 = .ok (.aload_n 0, 1) := by decide +kernel
theorem dX5_jump_112 : decode cX5_jump 112 = .ok (.getfield 19, 3) := by decide +kernel
theorem dX5_jump_115 : decode cX5_jump 115 = .ok (.bipush 7, 2) := by decide +kernel
theorem dX5_jump_117 : decode cX5_jump 117 = .ok (.iload 4, 2) := by decide +kernel
theorem dX5_jump_119 : decode cX5_jump 119 = .ok (.iastore, 1) := by decide +kernel
theorem dX5_jump_120 : decode cX5_jump 120 = .ok (.return_, 1) := by decide +kernel
theorem dX5_back_0 : decode cX5_back 0 = .ok (.aload_n 0, 1) := by decide +kernel
theorem dX5_back_1 : decode cX5_back 1 = .ok (.getfield 19, 3) := by decide +kernel
theorem dX5_back_4 : decode cX5_back 4 = .ok (.bipush 7, 2) := by decide +kernel
theorem dX5_back_6 : decode cX5_back 6 = .ok (.aload_n 0, 1) := by decide +kernel
theorem dX5_back_7 : decode cX5_back 7 = .ok (.getfield 19, 3) := by decide +kernel
theorem dX5_back_10 : decode cX5_back 10 = .ok (.iload_n 1, 1) := by decide +kernel
theorem dX5_back_11 : decode cX5_back 11 = .ok (.iaload, 1) := by decide +kernel
theorem dX5_back_12 : decode cX5_back 12 = .ok (.iastore, 1) := by decide +kernel
theorem dX5_back_13 : decode cX5_back 13 = .ok (.aload_n 0, 1) := by decide +kernel
theorem dX5_back_14 : decode cX5_back 14 = .ok (.aload_n 0, 1) := by decide +kernel
theorem dX5_back_15 : decode cX5_back 15 = .ok (.getfield 19, 3) := by decide +kernel
theorem dX5_back_18 : decode cX5_back 18 = .ok (.bipush 6, 2) := by decide +kernel
theorem dX5_back_20 : decode cX5_back 20 = .ok (.iaload, 1) := by decide +kernel
theorem dX5_back_21 : decode cX5_back 21 = .ok (.iconst 0, 1) := by decide +kernel
theorem dX5_back_22 : decode cX5_back 22 = .ok (.invokevirtual 55, 3) := by decide +kernel
theorem dX5_back_25 : decode cX5_back 25 = .ok (.istore_n 2, 1) := by decide +kernel
theorem dX5_back_26 : decode cX5_back 26 = .ok (.aload_n 0, 1) := by decide +kernel
theorem dX5_back_27 : decode cX5_back 27 = .ok (.bipush 6, 2) := by decide +kernel
theorem dX5_back_29 : decode cX5_back 29 = .ok (.iconst 2, 1) := by decide +kernel
theorem dX5_back_30 : decode cX5_back 30 = .ok (.invokevirtual 69, 3) := by decide +kernel
theorem dX5_back_33 : decode cX5_back 33 = .ok (.aload_n 0, 1) := by decide +kernel
theorem dX5_back_34 : decode cX5_back 34 = .ok (.getfield 19, 3) := by decide +kernel
theorem dX5_back_37 : decode cX5_back 37 = .ok (.iload_n 1, 1) := by decide +kernel
theorem dX5_back_38 : decode cX5_back 38 = .ok (.iload_n 2, 1) := by decide +kernel
theorem dX5_back_39 : decode cX5_back 39 = .ok (.iastore, 1) := by decide +kernel
theorem dX5_back_40 : decode cX5_back 40 = .ok (.return_, 1) := by decide +kernel
theorem dX5_goes_0 : decode cX5_goes 0 = .ok (.aload_n 0, 1) := by decide +kernel
theorem dX5_goes_1 : decode cX5_goes 1 = .ok (.bipush 8, 2) := by decide +kernel
theorem dX5_goes_3 : decode cX5_goes 3 = .ok (.invokevirtual 109, 3) := by decide +kernel
theorem dX5_goes_6 : decode cX5_goes 6 = .ok (.istore_n 2, 1) := by decide +kernel
theorem dX5_goes_7 : decode cX5_goes 7 = .ok (.aload_n 0, 1) := by decide +kernel
theorem dX5_goes_8 : decode cX5_goes 8 = .ok (.iconst 4, 1) := by decide +kernel
theorem dX5_goes_9 : decode cX5_goes 9 = .ok (.invokevirtual 109, 3) := by decide +kernel
theorem dX5_goes_12 : decode cX5_goes 12 = .ok (.istore_n 3, 1) := by decide +kernel
theorem dX5_goes_13 : decode cX5_goes 13 = .ok (.aload_n 0, 1) := by decide +kernel
theorem dX5_goes_14 : decode cX5_goes 14 = .ok (.iconst 2, 1) := by decide +kernel
theorem dX5_goes_15 : decode cX5_goes 15 = .ok (.invokevirtual 109, 3) := by decide +kernel
theorem dX5_goes_18 : decode cX5_goes 18 = .ok (.istore 4, 2) := by decide +kernel
theorem dX5_goes_20 : decode cX5_goes 20 = .ok (.aload_n 0, 1) := by decide +kernel
theorem dX5_goes_21 : decode cX5_goes 21 = .ok (.iconst 1, 1) := by decide +kernel
theorem dX5_goes_22 : decode cX5_goes 22 = .ok (.invokevirtual 109, 3) := by decide +kernel
theorem dX5_goes_25 : decode cX5_goes 25 = .ok (.istore 5, 2) := by decide +kernel
theorem dX5_goes_27 : decode cX5_goes 27 = .ok (.iload_n 1, 1) := by decide +kernel
theorem dX5_goes_28 : decode cX5_goes 28 = .ok (.lookupswitch 261 #[(1, 124), (2, 126), (3, 136), (4, 138), (5, 150), (6, 162), (7, 178), (128, 194), (129, 204), (130, 206), (131, 221), (132, 236), (133, 247), (134, 250)], 124) := by decide +kernel
theorem dX5_goes_152 : decode cX5_goes 152 = .ok (.iconst 1, 1) := by decide +kernel
theorem dX5_goes_153 : decode cX5_goes 153 = .ok (.ireturn, 1) := by decide +kernel
theorem dX5_goes_154 : decode cX5_goes 154 = .ok (.iload_n 3, 1) := by decide +kernel
theorem dX5_goes_155 : decode cX5_goes 155 = .ok (.ifCond .ne 7, 3) := by decide +kernel
theorem dX5_goes_158 : decode cX5_goes 158 = .ok (.iconst 1, 1) := by decide +kernel
theorem dX5_goes_159 : decode cX5_goes 159 = .ok (.goto 4, 3) := by decide +kernel
theorem dX5_goes_162 : decode cX5_goes 162 = .ok (.iconst 0, 1) := by decide +kernel
theorem dX5_goes_163 : decode cX5_goes 163 = .ok (.ireturn, 1) := by decide +kernel
theorem dX5_goes_164 : decode cX5_goes 164 = .ok (.iload_n 3, 1) := by decide +kernel
theorem dX5_goes_165 : decode cX5_goes 165 = .ok (.ireturn, 1) := by decide +kernel
theorem dX5_goes_166 : decode cX5_goes 166 = .ok (.iload_n 2, 1) := by decide +kernel
theorem dX5_goes_167 : decode cX5_goes 167 = .ok (.iload 4, 2) := by decide +kernel
theorem dX5_goes_169 : decode cX5_goes 169 = .ok (.if_icmp .ne 7, 3) := by decide +kernel
theorem dX5_goes_172 : decode cX5_goes 172 = .ok (.iconst 1, 1) := by decide +kernel
theorem dX5_goes_173 : decode cX5_goes 173 = .ok (.goto 4, 3) := by decide +kernel
theorem dX5_goes_176 : decode cX5_goes 176 = .ok (.iconst 0, 1) := by decide +kernel
theorem dX5_goes_177 : decode cX5_goes 177 = .ok (.ireturn, 1) := by decide +kernel
theorem dX5_goes_178 : decode cX5_goes 178 = .ok (.iload_n 2, 1) := by decide +kernel
theorem dX5_goes_179 : decode cX5_goes 179 = .ok (.iload 4, 2) := by decide +kernel
theorem dX5_goes_181 : decode cX5_goes 181 = .ok (.if_icmp .eq 7, 3) := by decide +kernel
theorem dX5_goes_184 : decode cX5_goes 184 = .ok (.iconst 1, 1) := by decide +kernel
theorem dX5_goes_185 : decode cX5_goes 185 = .ok (.goto 4, 3) := by decide +kernel
theorem dX5_goes_188 : decode cX5_goes 188 = .ok (.iconst 0, 1) := by decide +kernel
theorem dX5_goes_189 : decode cX5_goes 189 = .ok (.ireturn, 1) := by decide +kernel
theorem dX5_goes_190 : decode cX5_goes 190 = .ok (.iload_n 3, 1) := by decide +kernel
theorem dX5_goes_191 : decode cX5_goes 191 = .ok (.ifCond .ne 13, 3) := by decide +kernel
theorem dX5_goes_194 : decode cX5_goes 194 = .ok (.iload_n 2, 1) := by decide +kernel
theorem dX5_goes_195 : decode cX5_goes 195 = .ok (.iload 4, 2) := by decide +kernel
theorem dX5_goes_197 : decode cX5_goes 197 = .ok (.if_icmp .ne 7, 3) := by decide +kernel
theorem dX5_goes_200 : decode cX5_goes 200 = .ok (.iconst 1, 1) := by decide +kernel
theorem dX5_goes_201 : decode cX5_goes 201 = .ok (.goto 4, 3) := by decide +kernel
theorem dX5_goes_204 : decode cX5_goes 204 = .ok (.iconst 0, 1) := by decide +kernel
theorem dX5_goes_205 : decode cX5_goes 205 = .ok (.ireturn, 1) := by decide +kernel
theorem dX5_goes_206 : decode cX5_goes 206 = .ok (.iload_n 3, 1) := by decide +kernel
theorem dX5_goes_207 : decode cX5_goes 207 = .ok (.ifCond .ne 9, 3) := by decide +kernel
theorem dX5_goes_210 : decode cX5_goes 210 = .ok (.iload_n 2, 1) := by decide +kernel
theorem dX5_goes_211 : decode cX5_goes 211 = .ok (.iload 4, 2) := by decide +kernel
