theorem dX3_fitsWord_5 : decode cX3_fitsWord 5 = .ok (.ifCond .lt 15, 3) := by decide +kernel
theorem dX3_fitsWord_8 : decode cX3_fitsWord 8 = .ok (.lload_n 0, 1) := by decide +kernel
theorem dX3_fitsWord_9 : decode cX3_fitsWord 9 = .ok (.ldc2_w 193, 3) := by decide +kernel
theorem dX3_fitsWord_12 : decode cX3_fitsWord 12 = .ok (.lcmp, 1) := by decide +kernel
theorem dX3_fitsWord_13 : decode cX3_fitsWord 13 = .ok (.ifCond .ge 7, 3) := by decide +kernel
theorem dX3_fitsWord_16 : decode cX3_fitsWord 16 = .ok (.iconst 1, 1) := by decide +kernel
theorem dX3_fitsWord_17 : decode cX3_fitsWord 17 = .ok (.goto 4, 3) := by decide +kernel
theorem dX3_fitsWord_20 : decode cX3_fitsWord 20 = .ok (.iconst 0, 1) := by decide +kernel
theorem dX3_fitsWord_21 : decode cX3_fitsWord 21 = .ok (.ireturn, 1) := by decide +kernel
theorem dX3_shift_0 : decode cX3_shift 0 = .ok (.aload_n 0, 1) := by decide +kernel
theorem dX3_shift_1 : decode cX3_shift 1 = .ok (.getfield 23, 3) := by decide +kernel
theorem dX3_shift_4 : decode cX3_shift 4 = .ok (.aload_n 0, 1) := by decide +kernel
theorem dX3_shift_5 : decode cX3_shift 5 = .ok (.getfield 23, 3) := by decide +kernel
theorem dX3_shift_8 : decode cX3_shift 8 = .ok (.iload_n 2, 1) := by decide +kernel
theorem dX3_shift_9 : decode cX3_shift 9 = .ok (.ldc 69, 2) := by decide +kernel
theorem dX3_shift_11 : decode cX3_shift 11 = .ok (.invokevirtual 74, 3) := by decide +kernel
theorem dX3_shift_14 : decode cX3_shift 14 = .ok (.ldc 69, 2) := by decide +kernel
theorem dX3_shift_16 : decode cX3_shift 16 = .ok (.invokevirtual 78, 3) := by decide +kernel
theorem dX3_shift_19 : decode cX3_shift 19 = .ok (.bipush 63, 2) := by decide +kernel
theorem dX3_shift_21 : decode cX3_shift 21 = .ok (.iand, 1) := by decide +kernel
theorem dX3_shift_22 : decode cX3_shift 22 = .ok (.istore_n 3, 1) := by decide +kernel
theorem dX3_shift_23 : decode cX3_shift 23 = .ok (.aload_n 0, 1) := by decide +kernel
theorem dX3_shift_24 : decode cX3_shift 24 = .ok (.getfield 23, 3) := by decide +kernel
theorem dX3_shift_27 : decode cX3_shift 27 = .ok (.getfield 181, 3) := by decide +kernel
theorem dX3_shift_30 : decode cX3_shift 30 = .ok (.iload_n 1, 1) := by decide +kernel
theorem dX3_shift_31 : decode cX3_shift 31 = .ok (.iaload, 1) := by decide +kernel
theorem dX3_shift_32 : decode cX3_shift 32 = .ok (.istore 4, 2) := by decide +kernel
theorem dX3_shift_34 : decode cX3_shift 34 = .ok (.iload 4, 2) := by decide +kernel
theorem dX3_shift_36 : decode cX3_shift 36 = .ok (.ldc 69, 2) := by decide +kernel
theorem dX3_shift_38 : decode cX3_shift 38 = .ok (.invokestatic 178, 3) := by decide +kernel
theorem dX3_shift_41 : decode cX3_shift 41 = .ok (.i2l, 1) := by decide +kernel
theorem dX3_shift_42 : decode cX3_shift 42 = .ok (.lstore 5, 2) := by decide +kernel
theorem dX3_shift_44 : decode cX3_shift 44 = .ok (.iload_n 3, 1) := by decide +kernel
theorem dX3_shift_45 : decode cX3_shift 45 = .ok (.bipush 32, 2) := by decide +kernel
theorem dX3_shift_47 : decode cX3_shift 47 = .ok (.if_icmp .ge 40, 3) := by decide +kernel
theorem dX3_shift_50 : decode cX3_shift 50 = .ok (.lload 5, 2) := by decide +kernel
theorem dX3_shift_52 : decode cX3_shift 52 = .ok (.iload_n 3, 1) := by decide +kernel
theorem dX3_shift_53 : decode cX3_shift 53 = .ok (.lshl, 1) := by decide +kernel
theorem dX3_shift_54 : decode cX3_shift 54 = .ok (.lstore 7, 2) := by decide +kernel
theorem dX3_shift_56 : decode cX3_shift 56 = .ok (.aload_n 0, 1) := by decide +kernel
theorem dX3_shift_57 : decode cX3_shift 57 = .ok (.getfield 12, 3) := by decide +kernel
theorem dX3_shift_60 : decode cX3_shift 60 = .ok (.iload_n 3, 1) := by decide +kernel
theorem dX3_shift_61 : decode cX3_shift 61 = .ok (.ifCond .le 19, 3) := by decide +kernel
theorem dX3_shift_64 : decode cX3_shift 64 = .ok (.lload 7, 2) := by decide +kernel
theorem dX3_shift_66 : decode cX3_shift 66 = .ok (.bipush 16, 2) := by decide +kernel
theorem dX3_shift_68 : decode cX3_shift 68 = .ok (.lshr, 1) := by decide +kernel
theorem dX3_shift_69 : decode cX3_shift 69 = .ok (.lconst 1, 1) := by decide +kernel
theorem dX3_shift_70 : decode cX3_shift 70 = .ok (.land, 1) := by decide +kernel
theorem dX3_shift_71 : decode cX3_shift 71 = .ok (.lconst 0, 1) := by decide +kernel
theorem dX3_shift_72 : decode cX3_shift 72 = .ok (.lcmp, 1) := by decide +kernel
theorem dX3_shift_73 : decode cX3_shift 73 = .ok (.ifCond .eq 7, 3) := by decide +kernel
theorem dX3_shift_76 : decode cX3_shift 76 = .ok (.iconst 1, 1) := by decide +kernel
theorem dX3_shift_77 : decode cX3_shift 77 = .ok (.goto 4, 3) := by decide +kernel
theorem dX3_shift_80 : decode cX3_shift 80 = .ok (.iconst 0, 1) := by decide +kernel
theorem dX3_shift_81 : decode cX3_shift 81 = .ok (.putfield 102, 3) := by decide +kernel
theorem dX3_shift_84 : decode cX3_shift 84 = .ok (.goto 42, 3) := by decide +kernel
theorem dX3_shift_87 : decode cX3_shift 87 = .ok (.bipush 64, 2) := by decide +kernel
theorem dX3_shift_89 : decode cX3_shift 89 = .ok (.iload_n 3, 1) := by decide +kernel
theorem dX3_shift_90 : decode cX3_shift 90 = .ok (.isub, 1) := by decide +kernel
theorem dX3_shift_91 : decode cX3_shift 91 = .ok (.istore 9, 2) := by decide +kernel
theorem dX3_shift_93 : decode cX3_shift 93 = .ok (.lload 5, 2) := by decide +kernel
theorem dX3_shift_95 : decode cX3_shift 95 = .ok (.iload 9, 2) := by decide +kernel
theorem dX3_shift_97 : decode cX3_shift 97 = .ok (.lshr, 1) := by decide +kernel
theorem dX3_shift_98 : decode cX3_shift 98 = .ok (.lstore 7, 2) := by decide +kernel
theorem dX3_shift_100 : decode cX3_shift 100 = .ok (.aload_n 0, 1) := by decide +kernel
theorem dX3_shift_101 : decode cX3_shift 101 = .ok (.getfield 12, 3) := by decide +kernel
theorem dX3_shift_104 : decode cX3_shift 104 = .ok (.lload 5, 2) := by decide +kernel
theorem dX3_shift_106 : decode cX3_shift 106 = .ok (.iload 9, 2) := by decide +kernel
theorem dX3_shift_108 : decode cX3_shift 108 = .ok (.iconst 1, 1) := by decide +kernel
theorem dX3_shift_109 : decode cX3_shift 109 = .ok (.isub, 1) := by decide +kernel
theorem dX3_shift_110 : decode cX3_shift 110 = .ok (.lshr, 1) := by decide +kernel
theorem dX3_shift_111 : decode cX3_shift 111 = .ok (.lconst 1, 1) := by decide +kernel
theorem dX3_shift_112 : decode cX3_shift 112 = .ok (.land, 1) := by decide +kernel
theorem dX3_shift_113 : decode cX3_shift 113 = .ok (.lconst 0, 1) := by decide +kernel
theorem dX3_shift_114 : decode cX3_shift 114 = .ok (.lcmp, 1) := by decide +kernel
theorem dX3_shift_115 : decode cX3_shift 115 = .ok (.ifCond .eq 7, 3) := by decide +kernel
theorem dX3_shift_118 : decode cX3_shift 118 = .ok (.iconst 1, 1) := by decide +kernel
theorem dX3_shift_119 : decode cX3_shift 119 = .ok (.goto 4, 3) := by decide +kernel
theorem dX3_shift_122 : decode cX3_shift 122 = .ok (.iconst 0, 1) := by decide +kernel
theorem dX3_shift_123 : decode cX3_shift 123 = .ok (.putfield 102, 3) := by decide +kernel
theorem dX3_shift_126 : decode cX3_shift 126 = .ok (.lload 7, 2) := by decide +kernel
theorem dX3_shift_128 : decode cX3_shift 128 = .ok (.ldc2_w 189, 3) := by decide +kernel
theorem dX3_shift_131 : decode cX3_shift 131 = .ok (.land, 1) := by decide +kernel
theorem dX3_shift_132 : decode cX3_shift 132 = .ok (.l2i, 1) := by decide +kernel
theorem dX3_shift_133 : decode cX3_shift 133 = .ok (.istore 9, 2) := by decide +kernel
theorem dX3_shift_135 : decode cX3_shift 135 = .ok (.aload_n 0, 1) := by decide +kernel
theorem dX3_shift_136 : decode cX3_shift 136 = .ok (.getfield 12, 3) := by decide +kernel
theorem dX3_shift_139 : decode cX3_shift 139 = .ok (.iload 9, 2) := by decide +kernel
theorem dX3_shift_141 : decode cX3_shift 141 = .ok (.ldc 69, 2) := by decide +kernel
theorem dX3_shift_143 : decode cX3_shift 143 = .ok (.invokevirtual 89, 3) := by decide +kernel
theorem dX3_shift_146 : decode cX3_shift 146 = .ok (.aload_n 0, 1) := by decide +kernel
theorem dX3_shift_147 : decode cX3_shift 147 = .ok (.getfield 12, 3) := by decide +kernel
theorem dX3_shift_150 : decode cX3_shift 150 = .ok (.iload 4, 2) := by decide +kernel
theorem dX3_shift_152 : decode cX3_shift 152 = .ok (.iload 9, 2) := by decide +kernel
theorem dX3_shift_154 : decode cX3_shift 154 = .ok (.ixor, 1) := by decide +kernel
theorem dX3_shift_155 : decode cX3_shift 155 = .ok (.ldc 64, 2) := by decide +kernel
theorem dX3_shift_157 : decode cX3_shift 157 = .ok (.iand, 1) := by decide +kernel
theorem dX3_shift_158 : decode cX3_shift 158 = .ok (.ifCond .eq 7, 3) := by decide +kernel
theorem dX3_shift_161 : decode cX3_shift 161 = .ok (.iconst 1, 1) := by decide +kernel
theorem dX3_shift_162 : decode cX3_shift 162 = .ok (.goto 4, 3) := by decide +kernel
theorem dX3_shift_165 : decode cX3_shift 165 = .ok (.iconst 0, 1) := by decide +kernel
theorem dX3_shift_166 : decode cX3_shift 166 = .ok (.putfield 92, 3) := by decide +kernel
theorem dX3_shift_169 : decode cX3_shift 169 = .ok (.aload_n 0, 1) := by decide +kernel
theorem dX3_shift_170 : decode cX3_shift 170 = .ok (.getfield 23, 3) := by decide +kernel
theorem dX3_shift_173 : decode cX3_shift 173 = .ok (.getfield 181, 3) := by decide +kernel
theorem dX3_shift_176 : decode cX3_shift 176 = .ok (.iload_n 1, 1) := by decide +kernel
theorem dX3_shift_177 : decode cX3_shift 177 = .ok (.iload 9, 2) := by decide +kernel
theorem dX3_shift_179 : decode cX3_shift 179 = .ok (.iastore, 1) := by decide +kernel
theorem dX3_shift_180 : decode cX3_shift 180 = .ok (.return_, 1) := by decide +kernel
theorem dX3_exclude_0 : decode cX3_exclude 0 = .ok (.aload_n 0, 1) := by decide +kernel
theorem dX3_exclude_1 : decode cX3_exclude 1 = .ok (.getfield 23, 3) := by decide +kernel
theorem dX3_exclude_4 : decode cX3_exclude 4 = .ok (.iload_n 2, 1) := by decide +kernel
theorem dX3_exclude_5 : decode cX3_exclude 5 = .ok (.ldc 69, 2) := by decide +kernel
theorem dX3_exclude_7 : decode cX3_exclude 7 = .ok (.invokevirtual 74, 3) := by decide +kernel
theorem dX3_exclude_10 : decode cX3_exclude 10 = .ok (.istore_n 3, 1) := by decide +kernel
theorem dX3_exclude_11 : decode cX3_exclude 11 = .ok (.aload_n 0, 1) := by decide +kernel
theorem dX3_exclude_12 : decode cX3_exclude 12 = .ok (.getfield 23, 3) := by decide +kernel
theorem dX3_exclude_15 : decode cX3_exclude 15 = .ok (.iload_n 3, 1) := by decide +kernel
theorem dX3_exclude_16 : decode cX3_exclude 16 = .ok (.ldc 69, 2) := by decide +kernel
theorem dX3_exclude_18 : decode cX3_exclude 18 = .ok (.invokevirtual 78, 3) := by decide +kernel
theorem dX3_exclude_21 : decode cX3_exclude 21 = .ok (.aload_n 0, 1) := by decide +kernel
theorem dX3_exclude_22 : decode cX3_exclude 22 = .ok (.getfield 23, 3) := by decide +kernel
theorem dX3_exclude_25 : decode cX3_exclude 25 = .ok (.getfield 181, 3) := by decide +kernel
theorem dX3_exclude_28 : decode cX3_exclude 28 = .ok (.iload_n 1, 1) := by decide +kernel
theorem dX3_exclude_29 : decode cX3_exclude 29 = .ok (.iaload, 1) := by decide +kernel
theorem dX3_exclude_30 : decode cX3_exclude 30 = .ok (.ixor, 1) := by decide +kernel
theorem dX3_exclude_31 : decode cX3_exclude 31 = .ok (.istore 4, 2) := by decide +kernel
theorem dX3_exclude_33 : decode cX3_exclude 33 = .ok (.aload_n 0, 1) := by decide +kernel
theorem dX3_exclude_34 : decode cX3_exclude 34 = .ok (.getfield 12, 3) := by decide +kernel
theorem dX3_exclude_37 : decode cX3_exclude 37 = .ok (.iload 4, 2) := by decide +kernel
theorem dX3_exclude_39 : decode cX3_exclude 39 = .ok (.ldc 69, 2) := by decide +kernel
theorem dX3_exclude_41 : decode cX3_exclude 41 = .ok (.invokevirtual 89, 3) := by decide +kernel
theorem dX3_exclude_44 : decode cX3_exclude 44 = .ok (.aload_n 0, 1) := by decide +kernel
theorem dX3_exclude_45 : decode cX3_exclude 45 = .ok (.getfield 12, 3) := by decide +kernel
theorem dX3_exclude_48 : decode cX3_exclude 48 = .ok (.iconst 0, 1) := by decide +kernel
theorem dX3_exclude_49 : decode cX3_exclude 49 = .ok (.putfield 92, 3) := by decide +kernel
theorem dX3_exclude_52 : decode cX3_exclude 52 = .ok (.aload_n 0, 1) := by decide +kernel
theorem dX3_exclude_53 : decode cX3_exclude 53 = .ok (.getfield 23, 3) := by decide +kernel
theorem dX3_exclude_56 : decode cX3_exclude 56 = .ok (.iload_n 3, 1) := by decide +kernel
theorem dX3_exclude_57 : decode cX3_exclude 57 = .ok (.ldc 69, 2) := by decide +kernel
theorem dX3_exclude_59 : decode cX3_exclude 59 = .ok (.iload 4, 2) := by decide +kernel
theorem dX3_exclude_61 : decode cX3_exclude 61 = .ok (.invokevirtual 99, 3) := by decide +kernel
theorem dX3_exclude_64 : decode cX3_exclude 64 = .ok (.return_, 1) := by decide +kernel
theorem dX3_countDown_0 : decode cX3_countDown 0 = .ok (.aload_n 0, 1) := by decide +kernel
theorem dX3_countDown_1 : decode cX3_countDown 1 = .ok (.getfield 23, 3) := by decide +kernel
theorem dX3_countDown_4 : decode cX3_countDown 4 = .ok (.getfield 181, 3) := by decide +kernel
theorem dX3_countDown_7 : decode cX3_countDown 7 = .ok (.iload_n 1, 1) := by decide +kernel
theorem dX3_countDown_8 : decode cX3_countDown 8 = .ok (.aload_n 0, 1) := by decide +kernel
theorem dX3_countDown_9 : decode cX3_countDown 9 = .ok (.getfield 23, 3) := by decide +kernel
theorem dX3_countDown_12 : decode cX3_countDown 12 = .ok (.getfield 181, 3) := by decide +kernel
theorem dX3_countDown_15 : decode cX3_countDown 15 = .ok (.iload_n 1, 1) := by decide +kernel
theorem dX3_countDown_16 : decode cX3_countDown 16 = .ok (.iaload, 1) := by decide +kernel
theorem dX3_countDown_17 : decode cX3_countDown 17 = .ok (.iconst 1, 1) := by decide +kernel
theorem dX3_countDown_18 : decode cX3_countDown 18 = .ok (.isub, 1) := by decide +kernel
theorem dX3_countDown_19 : decode cX3_countDown 19 = .ok (.ldc 69, 2) := by decide +kernel
theorem dX3_countDown_21 : decode cX3_countDown 21 = .ok (.iand, 1) := by decide +kernel
theorem dX3_countDown_22 : decode cX3_countDown 22 = .ok (.iastore, 1) := by decide +kernel
theorem dX3_countDown_23 : decode cX3_countDown 23 = .ok (.aload_n 0, 1) := by decide +kernel
theorem dX3_countDown_24 : decode cX3_countDown 24 = .ok (.getfield 23, 3) := by decide +kernel
theorem dX3_countDown_27 : decode cX3_countDown 27 = .ok (.getfield 181, 3) := by decide +kernel
theorem dX3_countDown_30 : decode cX3_countDown 30 = .ok (.iload_n 1, 1) := by decide +kernel
theorem dX3_countDown_31 : decode cX3_countDown 31 = .ok (.iaload, 1) := by decide +kernel
theorem dX3_countDown_32 : decode cX3_countDown 32 = .ok (.ifCond .eq 12, 3) := by decide +kernel
theorem dX3_countDown_35 : decode cX3_countDown 35 = .ok (.aload_n 0, 1) := by decide +kernel
theorem dX3_countDown_36 : decode cX3_countDown 36 = .ok (.getfield 23, 3) := by decide +kernel
theorem dX3_countDown_39 : decode cX3_countDown 39 = .ok (.iload_n 2, 1) := by decide +kernel
theorem dX3_countDown_40 : decode cX3_countDown 40 = .ok (.ineg, 1) := by decide +kernel
theorem dX3_countDown_41 : decode cX3_countDown 41 = .ok (.invokevirtual 195, 3) := by decide +kernel
theorem dX3_countDown_44 : decode cX3_countDown 44 = .ok (.return_, 1) := by decide +kernel
theorem dX3_branch_0 : decode cX3_branch 0 = .ok (.aload_n 0, 1) := by decide +kernel
theorem dX3_branch_1 : decode cX3_branch 1 = .ok (.iload_n 1, 1) := by decide +kernel
theorem dX3_branch_2 : decode cX3_branch 2 = .ok (.invokestatic 65, 3) := by decide +kernel
theorem dX3_branch_5 : decode cX3_branch 5 = .ok (.ifCond .eq 8, 3) := by decide +kernel
theorem dX3_branch_8 : decode cX3_branch 8 = .ok (.bipush 8, 2) := by decide +kernel
theorem dX3_branch_10 : decode cX3_branch 10 = .ok (.goto 4, 3) := by decide +kernel
theorem dX3_branch_13 : decode cX3_branch 13 = .ok (.iconst 0, 1) := by decide +kernel
theorem dX3_branch_14 : decode cX3_branch 14 = .ok (.iload_n 1, 1) := by decide +kernel
theorem dX3_branch_15 : decode cX3_branch 15 = .ok (.bipush 8, 2) := by decide +kernel
theorem dX3_branch_17 : decode cX3_branch 17 = .ok (.ishr, 1) := by decide +kernel
theorem dX3_branch_18 : decode cX3_branch 18 = .ok (.bipush 7, 2) := by decide +kernel
theorem dX3_branch_20 : decode cX3_branch 20 = .ok (.iand, 1) := by decide +kernel
theorem dX3_branch_21 : decode cX3_branch 21 = .ok (.ior, 1) := by decide +kernel
theorem dX3_branch_22 : decode cX3_branch 22 = .ok (.invokevirtual 198, 3) := by decide +kernel
theorem dX3_branch_25 : decode cX3_branch 25 = .ok (.ifCond .eq 17, 3) := by decide +kernel
theorem dX3_branch_28 : decode cX3_branch 28 = .ok (.aload_n 0, 1) := by decide +kernel
theorem dX3_branch_29 : decode cX3_branch 29 = .ok (.getfield 23, 3) := by decide +kernel
theorem dX3_branch_32 : decode cX3_branch 32 = .ok (.iload_n 1, 1) := by decide +kernel
theorem dX3_branch_33 : decode cX3_branch 33 = .ok (.sipush 255, 3) := by decide +kernel
theorem dX3_branch_36 : decode cX3_branch 36 = .ok (.invokestatic 178, 3) := by decide +kernel
theorem dX3_branch_39 : decode cX3_branch 39 = .ok (.invokevirtual 195, 3) := by decide +kernel
theorem dX3_branch_42 : decode cX3_branch 42 = .ok (.return_, 1) := by decide +kernel
theorem dX3_isMet_0 : decode cX3_isMet 0 = .ok (.iload_n 1, 1) := by decide +kernel
theorem dX3_isMet_1 : decode cX3_isMet 1 = .ok (.iconst 1, 1) := by decide +kernel
theorem dX3_isMet_2 : decode cX3_isMet 2 = .ok (.iand, 1) := by decide +kernel
theorem dX3_isMet_3 : decode cX3_isMet 3 = .ok (.ifCond .eq 7, 3) := by decide +kernel
theorem dX3_isMet_6 : decode cX3_isMet 6 = .ok (.iconst 1, 1) := by decide +kernel
theorem dX3_isMet_7 : decode cX3_isMet 7 = .ok (.goto 4, 3) := by decide +kernel
theorem dX3_isMet_10 : decode cX3_isMet 10 = .ok (.iconst 0, 1) := by decide +kernel
theorem dX3_isMet_11 : decode cX3_isMet 11 = .ok (.istore_n 2, 1) := by decide +kernel
theorem dX3_isMet_12 : decode cX3_isMet 12 = .ok (.iload_n 1, 1) := by decide +kernel
theorem dX3_isMet_13 : decode cX3_isMet 13 = .ok (.iconst 1, 1) := by decide +kernel
theorem dX3_isMet_14 : decode cX3_isMet 14 = .ok (.ishr, 1) := by decide +kernel
theorem dX3_isMet_15 : decode cX3_isMet 15 = .ok (.tableswitch 181 0 6 #[41, 43, 60, 77, 112, 129, 164], 41) := by decide +kernel
theorem dX3_isMet_56 : decode cX3_isMet 56 = .ok (.iconst 1, 1) := by decide +kernel
theorem dX3_isMet_57 : decode cX3_isMet 57 = .ok (.ireturn, 1) := by decide +kernel
theorem dX3_isMet_58 : decode cX3_isMet 58 = .ok (.aload_n 0, 1) := by decide +kernel
theorem dX3_isMet_59 : decode cX3_isMet 59 = .ok (.getfield 12, 3) := by decide +kernel
theorem dX3_isMet_62 : decode cX3_isMet 62 = .ok (.getfield 160, 3) := by decide +kernel
theorem dX3_isMet_65 : decode cX3_isMet 65 = .ok (.iload_n 2, 1) := by decide +kernel
theorem dX3_isMet_66 : decode cX3_isMet 66 = .ok (.if_icmp .ne 7, 3) := by decide +kernel
theorem dX3_isMet_69 : decode cX3_isMet 69 = .ok (.iconst 1, 1) := by decide +kernel
theorem dX3_isMet_70 : decode cX3_isMet 70 = .ok (.goto 4, 3) := by decide +kernel
theorem dX3_isMet_73 : decode cX3_isMet 73 = .ok (.iconst 0, 1) := by decide +kernel
theorem dX3_isMet_74 : decode cX3_isMet 74 = .ok (.ireturn, 1) := by decide +kernel
theorem dX3_isMet_75 : decode cX3_isMet 75 = .ok (.aload_n 0, 1) := by decide +kernel
theorem dX3_isMet_76 : decode cX3_isMet 76 = .ok (.getfield 12, 3) := by decide +kernel
theorem dX3_isMet_79 : decode cX3_isMet 79 = .ok (.invokevirtual 201, 3) := by decide +kernel
theorem dX3_isMet_82 : decode cX3_isMet 82 = .ok (.iload_n 2, 1) := by decide +kernel
theorem dX3_isMet_83 : decode cX3_isMet 83 = .ok (.if_icmp .ne 7, 3) := by decide +kernel
theorem dX3_isMet_86 : decode cX3_isMet 86 = .ok (.iconst 1, 1) := by decide +kernel
theorem dX3_isMet_87 : decode cX3_isMet 87 = .ok (.goto 4, 3) := by decide +kernel
theorem dX3_isMet_90 : decode cX3_isMet 90 = .ok (.iconst 0, 1) := by decide +kernel
theorem dX3_isMet_91 : decode cX3_isMet 91 = .ok (.ireturn, 1) := by decide +kernel
theorem dX3_isMet_92 : decode cX3_isMet 92 = .ok (.aload_n 0, 1) := by decide +kernel
theorem dX3_isMet_93 : decode cX3_isMet 93 = .ok (.getfield 12, 3) := by decide +kernel
theorem dX3_isMet_96 : decode cX3_isMet 96 = .ok (.getfield 160, 3) := by decide +kernel
theorem dX3_isMet_99 : decode cX3_isMet 99 = .ok (.ifCond .ne 13, 3) := by decide +kernel
theorem dX3_isMet_102 : decode cX3_isMet 102 = .ok (.aload_n 0, 1) := by decide +kernel
theorem dX3_isMet_103 : decode cX3_isMet 103 = .ok (.getfield 12, 3) := by decide +kernel
theorem dX3_isMet_106 : decode cX3_isMet 106 = .ok (.invokevirtual 201, 3) := by decide +kernel
theorem dX3_isMet_109 : decode cX3_isMet 109 = .ok (.ifCond .eq 7, 3) := by decide +kernel
theorem dX3_isMet_112 : decode cX3_isMet 112 = .ok (.iconst 1, 1) := by decide +kernel
theorem dX3_isMet_113 : decode cX3_isMet 113 = .ok (.goto 4, 3) := by decide +kernel
theorem dX3_isMet_116 : decode cX3_isMet 116 = .ok (.iconst 0, 1) := by decide +kernel
theorem dX3_isMet_117 : decode cX3_isMet 117 = .ok (.iload_n 2, 1) := by decide +kernel
theorem dX3_isMet_118 : decode cX3_isMet 118 = .ok (.if_icmp .ne 7, 3) := by decide +kernel
theorem dX3_isMet_121 : decode cX3_isMet 121 = .ok (.iconst 1, 1) := by decide +kernel
theorem dX3_isMet_122 : decode cX3_isMet 122 = .ok (.goto 4, 3) := by decide +kernel
theorem dX3_isMet_125 : decode cX3_isMet 125 = .ok (.iconst 0, 1) := by decide +kernel
theorem dX3_isMet_126 : decode cX3_isMet 126 = .ok (.ireturn, 1) := by decide +kernel
theorem dX3_isMet_127 : decode cX3_isMet 127 = .ok (.aload_n 0, 1) := by decide +kernel
theorem dX3_isMet_128 : decode cX3_isMet 128 = .ok (.getfield 12, 3) := by decide +kernel
theorem dX3_isMet_131 : decode cX3_isMet 131 = .ok (.getfield 138, 3) := by decide +kernel
theorem dX3_isMet_134 : decode cX3_isMet 134 = .ok (.iload_n 2, 1) := by decide +kernel
theorem dX3_isMet_135 : decode cX3_isMet 135 = .ok (.if_icmp .ne 7, 3) := by decide +kernel
theorem dX3_isMet_138 : decode cX3_isMet 138 = .ok (.iconst 1, 1) := by decide +kernel
theorem dX3_isMet_139 : decode cX3_isMet 139 = .ok (.goto 4, 3) := by decide +kernel
theorem dX3_isMet_142 : decode cX3_isMet 142 = .ok (.iconst 0, 1) := by decide +kernel
theorem dX3_isMet_143 : decode cX3_isMet 143 = .ok (.ireturn, 1) := by decide +kernel
theorem dX3_isMet_144 : decode cX3_isMet 144 = .ok (.aload_n 0, 1) := by decide +kernel
theorem dX3_isMet_145 : decode cX3_isMet 145 = .ok (.getfield 12, 3) := by decide +kernel
theorem dX3_isMet_148 : decode cX3_isMet 148 = .ok (.getfield 102, 3) := by decide +kernel
theorem dX3_isMet_151 : decode cX3_isMet 151 = .ok (.ifCond .ne 13, 3) := by decide +kernel
theorem dX3_isMet_154 : decode cX3_isMet 154 = .ok (.aload_n 0, 1) := by decide +kernel
theorem dX3_isMet_155 : decode cX3_isMet 155 = .ok (.getfield 12, 3) := by decide +kernel
theorem dX3_isMet_158 : decode cX3_isMet 158 = .ok (.getfield 160, 3) := by decide +kernel
theorem dX3_isMet_161 : decode cX3_isMet 161 = .ok (.ifCond .eq 7, 3) := by decide +kernel
theorem dX3_isMet_164 : decode cX3_isMet 164 = .ok (.iconst 1, 1) := by decide +kernel
theorem dX3_isMet_165 : decode cX3_isMet 165 = .ok (.goto 4, 3) := by decide +kernel
theorem dX3_isMet_168 : decode cX3_isMet 168 = .ok (.iconst 0, 1) := by decide +kernel
theorem dX3_isMet_169 : decode cX3_isMet 169 = .ok (.iload_n 2, 1) := by decide +kernel
theorem dX3_isMet_170 : decode cX3_isMet 170 = .ok (.if_icmp .ne 7, 3) := by decide +kernel
theorem dX3_isMet_173 : decode cX3_isMet 173 = .ok (.iconst 1, 1) := by decide +kernel
theorem dX3_isMet_174 : decode cX3_isMet 174 = .ok (.goto 4, 3) := by decide +kernel
theorem dX3_isMet_177 : decode cX3_isMet 177 = .ok (.iconst 0, 1) := by decide +kernel
theorem dX3_isMet_178 : decode cX3_isMet 178 = .ok (.ireturn, 1) := by decide +kernel
theorem dX3_isMet_179 : decode cX3_isMet 179 = .ok (.aload_n 0, 1) := by decide +kernel
theorem dX3_isMet_180 : decode cX3_isMet 180 = .ok (.getfield 12, 3) := by decide +kernel
theorem dX3_isMet_183 : decode cX3_isMet 183 = .ok (.getfield 92, 3) := by decide +kernel
theorem dX3_isMet_186 : decode cX3_isMet 186 = .ok (.iload_n 2, 1) := by decide +kernel
theorem dX3_isMet_187 : decode cX3_isMet 187 = .ok (.if_icmp .ne 7, 3) := by decide +kernel
theorem dX3_isMet_190 : decode cX3_isMet 190 = .ok (.iconst 1, 1) := by decide +kernel
theorem dX3_isMet_191 : decode cX3_isMet 191 = .ok (.goto 4, 3) := by decide +kernel
theorem dX3_isMet_194 : decode cX3_isMet 194 = .ok (.iconst 0, 1) := by decide +kernel
theorem dX3_isMet_195 : decode cX3_isMet 195 = .ok (.ireturn, 1) := by decide +kernel
theorem dX3_isMet_196 : decode cX3_isMet 196 = .ok (.aload_n 0, 1) := by decide +kernel
theorem dX3_isMet_197 : decode cX3_isMet 197 = .ok (.getfield 12, 3) := by decide +kernel
theorem dX3_isMet_200 : decode cX3_isMet 200 = .ok (.getfield 102, 3) := by decide +kernel
theorem dX3_isMet_203 : decode cX3_isMet 203 = .ok (.iload_n 2, 1) := by decide +kernel
theorem dX3_isMet_204 : decode cX3_isMet 204 = .ok (.if_icmp .ne 7, 3) := by decide +kernel
theorem dX3_isMet_207 : decode cX3_isMet 207 = .ok (.iconst 1, 1) := by decide +kernel
theorem dX3_isMet_208 : decode cX3_isMet 208 = .ok (.goto 4, 3) := by decide +kernel
theorem dX3_isMet_211 : decode cX3_isMet 211 = .ok (.iconst 0, 1) := by decide +kernel
theorem dX3_isMet_212 : decode cX3_isMet 212 = .ok (.ireturn, 1) := by decide +kernel
theorem dX3_isRegisterWay_0 : decode cX3_isRegisterWay 0 = .ok (.iload_n 0, 1) := by decide +kernel
theorem dX3_isRegisterWay_1 : decode cX3_isRegisterWay 1 = .ok (.bipush 56, 2) := by decide +kernel
theorem dX3_isRegisterWay_3 : decode cX3_isRegisterWay 3 = .ok (.iand, 1) := by decide +kernel
theorem dX3_isRegisterWay_4 : decode cX3_isRegisterWay 4 = .ok (.ifCond .ne 7, 3) := by decide +kernel
theorem dX3_isRegisterWay_7 : decode cX3_isRegisterWay 7 = .ok (.iconst 1, 1) := by decide +kernel
theorem dX3_isRegisterWay_8 : decode cX3_isRegisterWay 8 = .ok (.goto 4, 3) := by decide +kernel
theorem dX3_isRegisterWay_11 : decode cX3_isRegisterWay 11 = .ok (.iconst 0, 1) := by decide +kernel
theorem dX3_isRegisterWay_12 : decode cX3_isRegisterWay 12 = .ok (.ireturn, 1) := by decide +kernel
theorem dX3_jump_0 : decode cX3_jump 0 = .ok (.iload_n 1, 1) := by decide +kernel
theorem dX3_jump_1 : decode cX3_jump 1 = .ok (.invokestatic 205, 3) := by decide +kernel
theorem dX3_jump_4 : decode cX3_jump 4 = .ok (.ifCond .eq 8, 3) := by decide +kernel
theorem dX3_jump_7 : decode cX3_jump 7 = .ok (.aload_n 0, 1) := by decide +kernel
theorem dX3_jump_8 : decode cX3_jump 8 = .ok (.invokevirtual 114, 3) := by decide +kernel
theorem dX3_jump_11 : decode cX3_jump 11 = .ok (.return_, 1) := by decide +kernel
theorem dX3_jump_12 : decode cX3_jump 12 = .ok (.aload_n 0, 1) := by decide +kernel
theorem dX3_jump_13 : decode cX3_jump 13 = .ok (.getfield 23, 3) := by decide +kernel
theorem dX3_jump_16 : decode cX3_jump 16 = .ok (.getfield 181, 3) := by decide +kernel
theorem dX3_jump_19 : decode cX3_jump 19 = .ok (.bipush 7, 2) := by decide +kernel
theorem dX3_jump_21 : decode cX3_jump 21 = .ok (.aload_n 0, 1) := by decide +kernel
theorem dX3_jump_22 : decode cX3_jump 22 = .ok (.getfield 23, 3) := by decide +kernel
theorem dX3_jump_25 : decode cX3_jump 25 = .ok (.iload_n 1, 1) := by decide +kernel
theorem dX3_jump_26 : decode cX3_jump 26 = .ok (.ldc 69, 2) := by decide +kernel
theorem dX3_jump_28 : decode cX3_jump 28 = .ok (.invokevirtual 74, 3) := by decide +kernel
theorem dX3_jump_31 : decode cX3_jump 31 = .ok (.iastore, 1) := by decide +kernel
theorem dX3_jump_32 : decode cX3_jump 32 = .ok (.return_, 1) := by decide +kernel
theorem dX3_callPart_0 : decode cX3_callPart 0 = .ok (.iload_n 1, 1) := by decide +kernel
theorem dX3_callPart_1 : decode cX3_callPart 1 = .ok (.invokestatic 205, 3) := by decide +kernel
theorem dX3_callPart_4 : decode cX3_callPart 4 = .ok (.ifCond .eq 8, 3) := by decide +kernel
theorem dX3_callPart_7 : decode cX3_callPart 7 = .ok (.aload_n 0, 1) := by decide +kernel
theorem dX3_callPart_8 : decode cX3_callPart 8 = .ok (.invokevirtual 114, 3) := by decide +kernel
theorem dX3_callPart_11 : decode cX3_callPart 11 = .ok (.return_, 1) := by decide +kernel
theorem dX3_callPart_12 : decode cX3_callPart 12 = .ok (.iload_n 1, 1) := by decide +kernel
theorem dX3_callPart_13 : decode cX3_callPart 13 = .ok (.bipush 6, 2) := by decide +kernel
theorem dX3_callPart_15 : decode cX3_callPart 15 = .ok (.ishr, 1) := by decide +kernel
theorem dX3_callPart_16 : decode cX3_callPart 16 = .ok (.bipush 7, 2) := by decide +kernel
theorem dX3_callPart_18 : decode cX3_callPart 18 = .ok (.iand, 1) := by decide +kernel
theorem dX3_callPart_19 : decode cX3_callPart 19 = .ok (.istore_n 2, 1) := by decide +kernel
theorem dX3_callPart_20 : decode cX3_callPart 20 = .ok (.aload_n 0, 1) := by decide +kernel
theorem dX3_callPart_21 : decode cX3_callPart 21 = .ok (.getfield 23, 3) := by decide +kernel
theorem dX3_callPart_24 : decode cX3_callPart 24 = .ok (.iload_n 1, 1) := by decide +kernel
theorem dX3_callPart_25 : decode cX3_callPart 25 = .ok (.ldc 69, 2) := by decide +kernel
theorem dX3_callPart_27 : decode cX3_callPart 27 = .ok (.invokevirtual 74, 3) := by decide +kernel
theorem dX3_callPart_30 : decode cX3_callPart 30 = .ok (.istore_n 3, 1) := by decide +kernel
theorem dX3_callPart_31 : decode cX3_callPart 31 = .ok (.aload_n 0, 1) := by decide +kernel
theorem dX3_callPart_32 : decode cX3_callPart 32 = .ok (.getfield 23, 3) := by decide +kernel
theorem dX3_callPart_35 : decode cX3_callPart 35 = .ok (.aload_n 0, 1) := by decide +kernel
theorem dX3_callPart_36 : decode cX3_callPart 36 = .ok (.getfield 23, 3) := by decide +kernel
theorem dX3_callPart_39 : decode cX3_callPart 39 = .ok (.getfield 181, 3) := by decide +kernel
theorem dX3_callPart_42 : decode cX3_callPart 42 = .ok (.iload_n 2, 1) := by decide +kernel
theorem dX3_callPart_43 : decode cX3_callPart 43 = .ok (.iaload, 1) := by decide +kernel
theorem dX3_callPart_44 : decode cX3_callPart 44 = .ok (.invokevirtual 208, 3) := by decide +kernel
theorem dX3_callPart_47 : decode cX3_callPart 47 = .ok (.aload_n 0, 1) := by decide +kernel
theorem dX3_callPart_48 : decode cX3_callPart 48 = .ok (.getfield 23, 3) := by decide +kernel
theorem dX3_callPart_51 : decode cX3_callPart 51 = .ok (.getfield 181, 3) := by decide +kernel
theorem dX3_callPart_54 : decode cX3_callPart 54 = .ok (.iload_n 2, 1) := by decide +kernel
theorem dX3_callPart_55 : decode cX3_callPart 55 = .ok (.aload_n 0, 1) := by decide +kernel
theorem dX3_callPart_56 : decode cX3_callPart 56 = .ok (.getfield 23, 3) := by decide +kernel
theorem dX3_callPart_59 : decode cX3_callPart 59 = .ok (.getfield 181, 3) := by decide +kernel
theorem dX3_callPart_62 : decode cX3_callPart 62 = .ok (.bipush 7, 2) := by decide +kernel
theorem dX3_callPart_64 : decode cX3_callPart 64 = .ok (.iaload, 1) := by decide +kernel
theorem dX3_callPart_65 : decode cX3_callPart 65 = .ok (.iastore, 1) := by decide +kernel
theorem dX3_callPart_66 : decode cX3_callPart 66 = .ok (.aload_n 0, 1) := by decide +kernel
theorem dX3_callPart_67 : decode cX3_callPart 67 = .ok (.getfield 23, 3) := by decide +kernel
theorem dX3_callPart_70 : decode cX3_callPart 70 = .ok (.getfield 181, 3) := by decide +kernel
theorem dX3_callPart_73 : decode cX3_callPart 73 = .ok (.bipush 7, 2) := by decide +kernel
theorem dX3_callPart_75 : decode cX3_callPart 75 = .ok (.iload_n 3, 1) := by decide +kernel
theorem dX3_callPart_76 : decode cX3_callPart 76 = .ok (.iastore, 1) := by decide +kernel
theorem dX3_callPart_77 : decode cX3_callPart 77 = .ok (.return_, 1) := by decide +kernel
theorem dX3_returnOrSetFlags_0 : decode cX3_returnOrSetFlags 0 = .ok (.iload_n 1, 1) := by decide +kernel
theorem dX3_returnOrSetFlags_1 : decode cX3_returnOrSetFlags 1 = .ok (.bipush 63, 2) := by decide +kernel
theorem dX3_returnOrSetFlags_3 : decode cX3_returnOrSetFlags 3 = .ok (.iand, 1) := by decide +kernel
theorem dX3_returnOrSetFlags_4 : decode cX3_returnOrSetFlags 4 = .ok (.istore_n 2, 1) := by decide +kernel
theorem dX3_returnOrSetFlags_5 : decode cX3_returnOrSetFlags 5 = .ok (.iload_n 1, 1) := by decide +kernel
theorem dX3_returnOrSetFlags_6 : decode cX3_returnOrSetFlags 6 = .ok (.bipush 15, 2) := by decide +kernel
theorem dX3_returnOrSetFlags_8 : decode cX3_returnOrSetFlags 8 = .ok (.iand, 1) := by decide +kernel
theorem dX3_returnOrSetFlags_9 : decode cX3_returnOrSetFlags 9 = .ok (.istore_n 3, 1) := by decide +kernel
theorem dX3_returnOrSetFlags_10 : decode cX3_returnOrSetFlags 10 = .ok (.iload_n 2, 1) := by decide +kernel
theorem dX3_returnOrSetFlags_11 : decode cX3_returnOrSetFlags 11 = .ok (.bipush 8, 2) := by decide +kernel
theorem dX3_returnOrSetFlags_13 : decode cX3_returnOrSetFlags 13 = .ok (.if_icmp .ge 41, 3) := by decide +kernel
theorem dX3_returnOrSetFlags_16 : decode cX3_returnOrSetFlags 16 = .ok (.aload_n 0, 1) := by decide +kernel
theorem dX3_returnOrSetFlags_17 : decode cX3_returnOrSetFlags 17 = .ok (.getfield 23, 3) := by decide +kernel
theorem dX3_returnOrSetFlags_20 : decode cX3_returnOrSetFlags 20 = .ok (.getfield 181, 3) := by decide +kernel
theorem dX3_returnOrSetFlags_23 : decode cX3_returnOrSetFlags 23 = .ok (.bipush 7, 2) := by decide +kernel
theorem dX3_returnOrSetFlags_25 : decode cX3_returnOrSetFlags 25 = .ok (.aload_n 0, 1) := by decide +kernel
theorem dX3_returnOrSetFlags_26 : decode cX3_returnOrSetFlags 26 = .ok (.getfield 23, 3) := by decide +kernel
theorem dX3_returnOrSetFlags_29 : decode cX3_returnOrSetFlags 29 = .ok (.getfield 181, 3) := by decide +kernel
theorem dX3_returnOrSetFlags_32 : decode cX3_returnOrSetFlags 32 = .ok (.iload_n 2, 1) := by decide +kernel
theorem dX3_returnOrSetFlags_33 : decode cX3_returnOrSetFlags 33 = .ok (.iaload, 1) := by decide +kernel
theorem dX3_returnOrSetFlags_34 : decode cX3_returnOrSetFlags 34 = .ok (.iastore, 1) := by decide +kernel
theorem dX3_returnOrSetFlags_35 : decode cX3_returnOrSetFlags 35 = .ok (.aload_n 0, 1) := by decide +kernel
theorem dX3_returnOrSetFlags_36 : decode cX3_returnOrSetFlags 36 = .ok (.getfield 23, 3) := by decide +kernel
theorem dX3_returnOrSetFlags_39 : decode cX3_returnOrSetFlags 39 = .ok (.getfield 181, 3) := by decide +kernel
theorem dX3_returnOrSetFlags_42 : decode cX3_returnOrSetFlags 42 = .ok (.iload_n 2, 1) := by decide +kernel
theorem dX3_returnOrSetFlags_43 : decode cX3_returnOrSetFlags 43 = .ok (.aload_n 0, 1) := by decide +kernel
theorem dX3_returnOrSetFlags_44 : decode cX3_returnOrSetFlags 44 = .ok (.getfield 23, 3) := by decide +kernel
theorem dX3_returnOrSetFlags_47 : decode cX3_returnOrSetFlags 47 = .ok (.invokevirtual 211, 3) := by decide +kernel
theorem dX3_returnOrSetFlags_50 : decode cX3_returnOrSetFlags 50 = .ok (.iastore, 1) := by decide +kernel
theorem dX3_returnOrSetFlags_51 : decode cX3_returnOrSetFlags 51 = .ok (.goto 59, 3) := by decide +kernel
theorem dX3_returnOrSetFlags_54 : decode cX3_returnOrSetFlags 54 = .ok (.iload_n 2, 1) := by decide +kernel
theorem dX3_returnOrSetFlags_55 : decode cX3_returnOrSetFlags 55 = .ok (.bipush 32, 2) := by decide +kernel
theorem dX3_returnOrSetFlags_57 : decode cX3_returnOrSetFlags 57 = .ok (.if_icmp .ge 10, 3) := by decide +kernel
theorem dX3_returnOrSetFlags_60 : decode cX3_returnOrSetFlags 60 = .ok (.aload_n 0, 1) := by decide +kernel
theorem dX3_returnOrSetFlags_61 : decode cX3_returnOrSetFlags 61 = .ok (.invokevirtual 114, 3) := by decide +kernel
theorem dX3_returnOrSetFlags_64 : decode cX3_returnOrSetFlags 64 = .ok (.goto 46, 3) := by decide +kernel
theorem dX3_returnOrSetFlags_67 : decode cX3_returnOrSetFlags 67 = .ok (.iload_n 2, 1) := by decide +kernel
theorem dX3_returnOrSetFlags_68 : decode cX3_returnOrSetFlags 68 = .ok (.bipush 48, 2) := by decide +kernel
theorem dX3_returnOrSetFlags_70 : decode cX3_returnOrSetFlags 70 = .ok (.if_icmp .ge 24, 3) := by decide +kernel
theorem dX3_returnOrSetFlags_73 : decode cX3_returnOrSetFlags 73 = .ok (.aload_n 0, 1) := by decide +kernel
theorem dX3_returnOrSetFlags_74 : decode cX3_returnOrSetFlags 74 = .ok (.getfield 12, 3) := by decide +kernel
theorem dX3_returnOrSetFlags_77 : decode cX3_returnOrSetFlags 77 = .ok (.aload_n 0, 1) := by decide +kernel
theorem dX3_returnOrSetFlags_78 : decode cX3_returnOrSetFlags 78 = .ok (.getfield 12, 3) := by decide +kernel
theorem dX3_returnOrSetFlags_81 : decode cX3_returnOrSetFlags 81 = .ok (.invokevirtual 37, 3) := by decide +kernel
theorem dX3_returnOrSetFlags_84 : decode cX3_returnOrSetFlags 84 = .ok (.iload_n 3, 1) := by decide +kernel
theorem dX3_returnOrSetFlags_85 : decode cX3_returnOrSetFlags 85 = .ok (.iconst (-1), 1) := by decide +kernel
theorem dX3_returnOrSetFlags_86 : decode cX3_returnOrSetFlags 86 = .ok (.ixor, 1) := by decide +kernel
theorem dX3_returnOrSetFlags_87 : decode cX3_returnOrSetFlags 87 = .ok (.iand, 1) := by decide +kernel
