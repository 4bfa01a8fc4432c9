theorem dX3_addOrSubtract_94 : decode cX3_addOrSubtract 94 = .ok (.aload_n 0, 1) := by decide +kernel
theorem dX3_addOrSubtract_95 : decode cX3_addOrSubtract 95 = .ok (.getfield 12, 3) := by decide +kernel
theorem dX3_addOrSubtract_98 : decode cX3_addOrSubtract 98 = .ok (.iload_n 2, 1) := by decide +kernel
theorem dX3_addOrSubtract_99 : decode cX3_addOrSubtract 99 = .ok (.iload 4, 2) := by decide +kernel
theorem dX3_addOrSubtract_101 : decode cX3_addOrSubtract 101 = .ok (.ixor, 1) := by decide +kernel
theorem dX3_addOrSubtract_102 : decode cX3_addOrSubtract 102 = .ok (.iconst (-1), 1) := by decide +kernel
theorem dX3_addOrSubtract_103 : decode cX3_addOrSubtract 103 = .ok (.ixor, 1) := by decide +kernel
theorem dX3_addOrSubtract_104 : decode cX3_addOrSubtract 104 = .ok (.iload_n 2, 1) := by decide +kernel
theorem dX3_addOrSubtract_105 : decode cX3_addOrSubtract 105 = .ok (.iload 5, 2) := by decide +kernel
theorem dX3_addOrSubtract_107 : decode cX3_addOrSubtract 107 = .ok (.ixor, 1) := by decide +kernel
theorem dX3_addOrSubtract_108 : decode cX3_addOrSubtract 108 = .ok (.iand, 1) := by decide +kernel
theorem dX3_addOrSubtract_109 : decode cX3_addOrSubtract 109 = .ok (.ldc 64, 2) := by decide +kernel
theorem dX3_addOrSubtract_111 : decode cX3_addOrSubtract 111 = .ok (.iand, 1) := by decide +kernel
theorem dX3_addOrSubtract_112 : decode cX3_addOrSubtract 112 = .ok (.ifCond .eq 7, 3) := by decide +kernel
theorem dX3_addOrSubtract_115 : decode cX3_addOrSubtract 115 = .ok (.iconst 1, 1) := by decide +kernel
theorem dX3_addOrSubtract_116 : decode cX3_addOrSubtract 116 = .ok (.goto 4, 3) := by decide +kernel
theorem dX3_addOrSubtract_119 : decode cX3_addOrSubtract 119 = .ok (.iconst 0, 1) := by decide +kernel
theorem dX3_addOrSubtract_120 : decode cX3_addOrSubtract 120 = .ok (.putfield 92, 3) := by decide +kernel
theorem dX3_addOrSubtract_123 : decode cX3_addOrSubtract 123 = .ok (.aload_n 0, 1) := by decide +kernel
theorem dX3_addOrSubtract_124 : decode cX3_addOrSubtract 124 = .ok (.getfield 12, 3) := by decide +kernel
theorem dX3_addOrSubtract_127 : decode cX3_addOrSubtract 127 = .ok (.iload_n 2, 1) := by decide +kernel
theorem dX3_addOrSubtract_128 : decode cX3_addOrSubtract 128 = .ok (.iload 4, 2) := by decide +kernel
theorem dX3_addOrSubtract_130 : decode cX3_addOrSubtract 130 = .ok (.iadd, 1) := by decide +kernel
theorem dX3_addOrSubtract_131 : decode cX3_addOrSubtract 131 = .ok (.ldc 69, 2) := by decide +kernel
theorem dX3_addOrSubtract_133 : decode cX3_addOrSubtract 133 = .ok (.if_icmp .le 7, 3) := by decide +kernel
theorem dX3_addOrSubtract_136 : decode cX3_addOrSubtract 136 = .ok (.iconst 1, 1) := by decide +kernel
theorem dX3_addOrSubtract_137 : decode cX3_addOrSubtract 137 = .ok (.goto 4, 3) := by decide +kernel
theorem dX3_addOrSubtract_140 : decode cX3_addOrSubtract 140 = .ok (.iconst 0, 1) := by decide +kernel
theorem dX3_addOrSubtract_141 : decode cX3_addOrSubtract 141 = .ok (.putfield 102, 3) := by decide +kernel
theorem dX3_addOrSubtract_144 : decode cX3_addOrSubtract 144 = .ok (.aload_n 0, 1) := by decide +kernel
theorem dX3_addOrSubtract_145 : decode cX3_addOrSubtract 145 = .ok (.getfield 23, 3) := by decide +kernel
theorem dX3_addOrSubtract_148 : decode cX3_addOrSubtract 148 = .ok (.iload_n 3, 1) := by decide +kernel
theorem dX3_addOrSubtract_149 : decode cX3_addOrSubtract 149 = .ok (.ldc 69, 2) := by decide +kernel
theorem dX3_addOrSubtract_151 : decode cX3_addOrSubtract 151 = .ok (.iload 5, 2) := by decide +kernel
theorem dX3_addOrSubtract_153 : decode cX3_addOrSubtract 153 = .ok (.invokevirtual 99, 3) := by decide +kernel
theorem dX3_addOrSubtract_156 : decode cX3_addOrSubtract 156 = .ok (.return_, 1) := by decide +kernel
theorem dX3_setByDifference_0 : decode cX3_setByDifference 0 = .ok (.iload_n 1, 1) := by decide +kernel
theorem dX3_setByDifference_1 : decode cX3_setByDifference 1 = .ok (.iload_n 2, 1) := by decide +kernel
theorem dX3_setByDifference_2 : decode cX3_setByDifference 2 = .ok (.isub, 1) := by decide +kernel
theorem dX3_setByDifference_3 : decode cX3_setByDifference 3 = .ok (.iload_n 3, 1) := by decide +kernel
theorem dX3_setByDifference_4 : decode cX3_setByDifference 4 = .ok (.iand, 1) := by decide +kernel
theorem dX3_setByDifference_5 : decode cX3_setByDifference 5 = .ok (.istore 4, 2) := by decide +kernel
theorem dX3_setByDifference_7 : decode cX3_setByDifference 7 = .ok (.aload_n 0, 1) := by decide +kernel
theorem dX3_setByDifference_8 : decode cX3_setByDifference 8 = .ok (.getfield 12, 3) := by decide +kernel
theorem dX3_setByDifference_11 : decode cX3_setByDifference 11 = .ok (.iload 4, 2) := by decide +kernel
theorem dX3_setByDifference_13 : decode cX3_setByDifference 13 = .ok (.iload_n 3, 1) := by decide +kernel
theorem dX3_setByDifference_14 : decode cX3_setByDifference 14 = .ok (.invokevirtual 89, 3) := by decide +kernel
theorem dX3_setByDifference_17 : decode cX3_setByDifference 17 = .ok (.aload_n 0, 1) := by decide +kernel
theorem dX3_setByDifference_18 : decode cX3_setByDifference 18 = .ok (.getfield 12, 3) := by decide +kernel
theorem dX3_setByDifference_21 : decode cX3_setByDifference 21 = .ok (.iload_n 1, 1) := by decide +kernel
theorem dX3_setByDifference_22 : decode cX3_setByDifference 22 = .ok (.iload_n 2, 1) := by decide +kernel
theorem dX3_setByDifference_23 : decode cX3_setByDifference 23 = .ok (.ixor, 1) := by decide +kernel
theorem dX3_setByDifference_24 : decode cX3_setByDifference 24 = .ok (.iload 4, 2) := by decide +kernel
theorem dX3_setByDifference_26 : decode cX3_setByDifference 26 = .ok (.iload_n 2, 1) := by decide +kernel
theorem dX3_setByDifference_27 : decode cX3_setByDifference 27 = .ok (.ixor, 1) := by decide +kernel
theorem dX3_setByDifference_28 : decode cX3_setByDifference 28 = .ok (.iconst (-1), 1) := by decide +kernel
theorem dX3_setByDifference_29 : decode cX3_setByDifference 29 = .ok (.ixor, 1) := by decide +kernel
theorem dX3_setByDifference_30 : decode cX3_setByDifference 30 = .ok (.iand, 1) := by decide +kernel
theorem dX3_setByDifference_31 : decode cX3_setByDifference 31 = .ok (.iload_n 3, 1) := by decide +kernel
theorem dX3_setByDifference_32 : decode cX3_setByDifference 32 = .ok (.invokestatic 105, 3) := by decide +kernel
theorem dX3_setByDifference_35 : decode cX3_setByDifference 35 = .ok (.iand, 1) := by decide +kernel
theorem dX3_setByDifference_36 : decode cX3_setByDifference 36 = .ok (.ifCond .eq 7, 3) := by decide +kernel
theorem dX3_setByDifference_39 : decode cX3_setByDifference 39 = .ok (.iconst 1, 1) := by decide +kernel
theorem dX3_setByDifference_40 : decode cX3_setByDifference 40 = .ok (.goto 4, 3) := by decide +kernel
theorem dX3_setByDifference_43 : decode cX3_setByDifference 43 = .ok (.iconst 0, 1) := by decide +kernel
theorem dX3_setByDifference_44 : decode cX3_setByDifference 44 = .ok (.putfield 92, 3) := by decide +kernel
theorem dX3_setByDifference_47 : decode cX3_setByDifference 47 = .ok (.aload_n 0, 1) := by decide +kernel
theorem dX3_setByDifference_48 : decode cX3_setByDifference 48 = .ok (.getfield 12, 3) := by decide +kernel
theorem dX3_setByDifference_51 : decode cX3_setByDifference 51 = .ok (.iload_n 1, 1) := by decide +kernel
theorem dX3_setByDifference_52 : decode cX3_setByDifference 52 = .ok (.iload_n 2, 1) := by decide +kernel
theorem dX3_setByDifference_53 : decode cX3_setByDifference 53 = .ok (.if_icmp .ge 7, 3) := by decide +kernel
theorem dX3_setByDifference_56 : decode cX3_setByDifference 56 = .ok (.iconst 1, 1) := by decide +kernel
theorem dX3_setByDifference_57 : decode cX3_setByDifference 57 = .ok (.goto 4, 3) := by decide +kernel
theorem dX3_setByDifference_60 : decode cX3_setByDifference 60 = .ok (.iconst 0, 1) := by decide +kernel
theorem dX3_setByDifference_61 : decode cX3_setByDifference 61 = .ok (.putfield 102, 3) := by decide +kernel
theorem dX3_setByDifference_64 : decode cX3_setByDifference 64 = .ok (.return_, 1) := by decide +kernel
theorem dX3_performByHead_0 : decode cX3_performByHead 0 = .ok (.iload_n 1, 1) := by decide +kernel
theorem dX3_performByHead_1 : decode cX3_performByHead 1 = .ok (.bipush 6, 2) := by decide +kernel
theorem dX3_performByHead_3 : decode cX3_performByHead 3 = .ok (.ishr, 1) := by decide +kernel
theorem dX3_performByHead_4 : decode cX3_performByHead 4 = .ok (.bipush 63, 2) := by decide +kernel
theorem dX3_performByHead_6 : decode cX3_performByHead 6 = .ok (.iand, 1) := by decide +kernel
theorem dX3_performByHead_7 : decode cX3_performByHead 7 = .ok (.istore_n 2, 1) := by decide +kernel
theorem dX3_performByHead_8 : decode cX3_performByHead 8 = .ok (.iload_n 1, 1) := by decide +kernel
theorem dX3_performByHead_9 : decode cX3_performByHead 9 = .ok (.invokestatic 65, 3) := by decide +kernel
theorem dX3_performByHead_12 : decode cX3_performByHead 12 = .ok (.istore_n 3, 1) := by decide +kernel
theorem dX3_performByHead_13 : decode cX3_performByHead 13 = .ok (.iload_n 2, 1) := by decide +kernel
theorem dX3_performByHead_14 : decode cX3_performByHead 14 = .ok (.bipush 40, 2) := by decide +kernel
theorem dX3_performByHead_16 : decode cX3_performByHead 16 = .ok (.if_icmp .lt 18, 3) := by decide +kernel
theorem dX3_performByHead_19 : decode cX3_performByHead 19 = .ok (.iload_n 2, 1) := by decide +kernel
theorem dX3_performByHead_20 : decode cX3_performByHead 20 = .ok (.bipush 51, 2) := by decide +kernel
theorem dX3_performByHead_22 : decode cX3_performByHead 22 = .ok (.if_icmp .gt 12, 3) := by decide +kernel
theorem dX3_performByHead_25 : decode cX3_performByHead 25 = .ok (.aload_n 0, 1) := by decide +kernel
theorem dX3_performByHead_26 : decode cX3_performByHead 26 = .ok (.iload_n 1, 1) := by decide +kernel
theorem dX3_performByHead_27 : decode cX3_performByHead 27 = .ok (.iload_n 2, 1) := by decide +kernel
theorem dX3_performByHead_28 : decode cX3_performByHead 28 = .ok (.invokevirtual 108, 3) := by decide +kernel
theorem dX3_performByHead_31 : decode cX3_performByHead 31 = .ok (.goto 114, 3) := by decide +kernel
theorem dX3_performByHead_34 : decode cX3_performByHead 34 = .ok (.iload_n 2, 1) := by decide +kernel
theorem dX3_performByHead_35 : decode cX3_performByHead 35 = .ok (.bipush 32, 2) := by decide +kernel
theorem dX3_performByHead_37 : decode cX3_performByHead 37 = .ok (.if_icmp .ge 20, 3) := by decide +kernel
theorem dX3_performByHead_40 : decode cX3_performByHead 40 = .ok (.iload_n 3, 1) := by decide +kernel
theorem dX3_performByHead_41 : decode cX3_performByHead 41 = .ok (.ifCond .ne 8, 3) := by decide +kernel
theorem dX3_performByHead_44 : decode cX3_performByHead 44 = .ok (.iload_n 2, 1) := by decide +kernel
theorem dX3_performByHead_45 : decode cX3_performByHead 45 = .ok (.iconst 4, 1) := by decide +kernel
theorem dX3_performByHead_46 : decode cX3_performByHead 46 = .ok (.if_icmp .lt 11, 3) := by decide +kernel
theorem dX3_performByHead_49 : decode cX3_performByHead 49 = .ok (.aload_n 0, 1) := by decide +kernel
theorem dX3_performByHead_50 : decode cX3_performByHead 50 = .ok (.iload_n 1, 1) := by decide +kernel
theorem dX3_performByHead_51 : decode cX3_performByHead 51 = .ok (.invokevirtual 111, 3) := by decide +kernel
theorem dX3_performByHead_54 : decode cX3_performByHead 54 = .ok (.goto 91, 3) := by decide +kernel
theorem dX3_performByHead_57 : decode cX3_performByHead 57 = .ok (.iload_n 3, 1) := by decide +kernel
theorem dX3_performByHead_58 : decode cX3_performByHead 58 = .ok (.ifCond .eq 10, 3) := by decide +kernel
theorem dX3_performByHead_61 : decode cX3_performByHead 61 = .ok (.aload_n 0, 1) := by decide +kernel
theorem dX3_performByHead_62 : decode cX3_performByHead 62 = .ok (.invokevirtual 114, 3) := by decide +kernel
theorem dX3_performByHead_65 : decode cX3_performByHead 65 = .ok (.goto 80, 3) := by decide +kernel
theorem dX3_performByHead_68 : decode cX3_performByHead 68 = .ok (.iload_n 2, 1) := by decide +kernel
theorem dX3_performByHead_69 : decode cX3_performByHead 69 = .ok (.bipush 32, 2) := by decide +kernel
theorem dX3_performByHead_71 : decode cX3_performByHead 71 = .ok (.if_icmp .lt 17, 3) := by decide +kernel
theorem dX3_performByHead_74 : decode cX3_performByHead 74 = .ok (.iload_n 2, 1) := by decide +kernel
theorem dX3_performByHead_75 : decode cX3_performByHead 75 = .ok (.bipush 40, 2) := by decide +kernel
theorem dX3_performByHead_77 : decode cX3_performByHead 77 = .ok (.if_icmp .ge 11, 3) := by decide +kernel
theorem dX3_performByHead_80 : decode cX3_performByHead 80 = .ok (.aload_n 0, 1) := by decide +kernel
theorem dX3_performByHead_81 : decode cX3_performByHead 81 = .ok (.iload_n 1, 1) := by decide +kernel
theorem dX3_performByHead_82 : decode cX3_performByHead 82 = .ok (.invokevirtual 117, 3) := by decide +kernel
theorem dX3_performByHead_85 : decode cX3_performByHead 85 = .ok (.goto 60, 3) := by decide +kernel
theorem dX3_performByHead_88 : decode cX3_performByHead 88 = .ok (.iload_n 2, 1) := by decide +kernel
theorem dX3_performByHead_89 : decode cX3_performByHead 89 = .ok (.iconst 1, 1) := by decide +kernel
theorem dX3_performByHead_90 : decode cX3_performByHead 90 = .ok (.if_icmp .ne 11, 3) := by decide +kernel
theorem dX3_performByHead_93 : decode cX3_performByHead 93 = .ok (.aload_n 0, 1) := by decide +kernel
theorem dX3_performByHead_94 : decode cX3_performByHead 94 = .ok (.iload_n 1, 1) := by decide +kernel
theorem dX3_performByHead_95 : decode cX3_performByHead 95 = .ok (.invokevirtual 120, 3) := by decide +kernel
theorem dX3_performByHead_98 : decode cX3_performByHead 98 = .ok (.goto 47, 3) := by decide +kernel
theorem dX3_performByHead_101 : decode cX3_performByHead 101 = .ok (.iload_n 2, 1) := by decide +kernel
theorem dX3_performByHead_102 : decode cX3_performByHead 102 = .ok (.iconst 2, 1) := by decide +kernel
theorem dX3_performByHead_103 : decode cX3_performByHead 103 = .ok (.if_icmp .ne 11, 3) := by decide +kernel
theorem dX3_performByHead_106 : decode cX3_performByHead 106 = .ok (.aload_n 0, 1) := by decide +kernel
theorem dX3_performByHead_107 : decode cX3_performByHead 107 = .ok (.iload_n 1, 1) := by decide +kernel
theorem dX3_performByHead_108 : decode cX3_performByHead 108 = .ok (.invokevirtual 123, 3) := by decide +kernel
theorem dX3_performByHead_111 : decode cX3_performByHead 111 = .ok (.goto 34, 3) := by decide +kernel
theorem dX3_performByHead_114 : decode cX3_performByHead 114 = .ok (.iload_n 2, 1) := by decide +kernel
theorem dX3_performByHead_115 : decode cX3_performByHead 115 = .ok (.iconst 3, 1) := by decide +kernel
theorem dX3_performByHead_116 : decode cX3_performByHead 116 = .ok (.if_icmp .ne 11, 3) := by decide +kernel
theorem dX3_performByHead_119 : decode cX3_performByHead 119 = .ok (.aload_n 0, 1) := by decide +kernel
theorem dX3_performByHead_120 : decode cX3_performByHead 120 = .ok (.iload_n 1, 1) := by decide +kernel
theorem dX3_performByHead_121 : decode cX3_performByHead 121 = .ok (.invokevirtual 126, 3) := by decide +kernel
theorem dX3_performByHead_124 : decode cX3_performByHead 124 = .ok (.goto 21, 3) := by decide +kernel
theorem dX3_performByHead_127 : decode cX3_performByHead 127 = .ok (.iload_n 2, 1) := by decide +kernel
theorem dX3_performByHead_128 : decode cX3_performByHead 128 = .ok (.bipush 55, 2) := by decide +kernel
theorem dX3_performByHead_130 : decode cX3_performByHead 130 = .ok (.if_icmp .ne 11, 3) := by decide +kernel
theorem dX3_performByHead_133 : decode cX3_performByHead 133 = .ok (.aload_n 0, 1) := by decide +kernel
theorem dX3_performByHead_134 : decode cX3_performByHead 134 = .ok (.iload_n 1, 1) := by decide +kernel
theorem dX3_performByHead_135 : decode cX3_performByHead 135 = .ok (.invokevirtual 129, 3) := by decide +kernel
theorem dX3_performByHead_138 : decode cX3_performByHead 138 = .ok (.goto 7, 3) := by decide +kernel
theorem dX3_performByHead_141 : decode cX3_performByHead 141 = .ok (.aload_n 0, 1) := by decide +kernel
theorem dX3_performByHead_142 : decode cX3_performByHead 142 = .ok (.invokevirtual 114, 3) := by decide +kernel
theorem dX3_performByHead_145 : decode cX3_performByHead 145 = .ok (.return_, 1) := by decide +kernel
theorem dX3_performOne_0 : decode cX3_performOne 0 = .ok (.iload_n 1, 1) := by decide +kernel
theorem dX3_performOne_1 : decode cX3_performOne 1 = .ok (.invokestatic 70, 3) := by decide +kernel
theorem dX3_performOne_4 : decode cX3_performOne 4 = .ok (.istore_n 3, 1) := by decide +kernel
theorem dX3_performOne_5 : decode cX3_performOne 5 = .ok (.aload_n 0, 1) := by decide +kernel
theorem dX3_performOne_6 : decode cX3_performOne 6 = .ok (.getfield 23, 3) := by decide +kernel
theorem dX3_performOne_9 : decode cX3_performOne 9 = .ok (.iload_n 1, 1) := by decide +kernel
theorem dX3_performOne_10 : decode cX3_performOne 10 = .ok (.iload_n 3, 1) := by decide +kernel
theorem dX3_performOne_11 : decode cX3_performOne 11 = .ok (.invokevirtual 74, 3) := by decide +kernel
theorem dX3_performOne_14 : decode cX3_performOne 14 = .ok (.istore 4, 2) := by decide +kernel
theorem dX3_performOne_16 : decode cX3_performOne 16 = .ok (.aload_n 0, 1) := by decide +kernel
theorem dX3_performOne_17 : decode cX3_performOne 17 = .ok (.getfield 23, 3) := by decide +kernel
theorem dX3_performOne_20 : decode cX3_performOne 20 = .ok (.iload 4, 2) := by decide +kernel
theorem dX3_performOne_22 : decode cX3_performOne 22 = .ok (.iload_n 3, 1) := by decide +kernel
theorem dX3_performOne_23 : decode cX3_performOne 23 = .ok (.invokevirtual 78, 3) := by decide +kernel
theorem dX3_performOne_26 : decode cX3_performOne 26 = .ok (.istore 5, 2) := by decide +kernel
theorem dX3_performOne_28 : decode cX3_performOne 28 = .ok (.iload_n 2, 1) := by decide +kernel
theorem dX3_performOne_29 : decode cX3_performOne 29 = .ok (.bipush 48, 2) := by decide +kernel
theorem dX3_performOne_31 : decode cX3_performOne 31 = .ok (.if_icmp .ge 26, 3) := by decide +kernel
theorem dX3_performOne_34 : decode cX3_performOne 34 = .ok (.aload_n 0, 1) := by decide +kernel
theorem dX3_performOne_35 : decode cX3_performOne 35 = .ok (.iload_n 2, 1) := by decide +kernel
theorem dX3_performOne_36 : decode cX3_performOne 36 = .ok (.iload 5, 2) := by decide +kernel
theorem dX3_performOne_38 : decode cX3_performOne 38 = .ok (.iload_n 3, 1) := by decide +kernel
theorem dX3_performOne_39 : decode cX3_performOne 39 = .ok (.invokevirtual 132, 3) := by decide +kernel
theorem dX3_performOne_42 : decode cX3_performOne 42 = .ok (.istore 6, 2) := by decide +kernel
theorem dX3_performOne_44 : decode cX3_performOne 44 = .ok (.aload_n 0, 1) := by decide +kernel
theorem dX3_performOne_45 : decode cX3_performOne 45 = .ok (.getfield 12, 3) := by decide +kernel
theorem dX3_performOne_48 : decode cX3_performOne 48 = .ok (.iload 6, 2) := by decide +kernel
theorem dX3_performOne_50 : decode cX3_performOne 50 = .ok (.iload_n 3, 1) := by decide +kernel
theorem dX3_performOne_51 : decode cX3_performOne 51 = .ok (.invokevirtual 89, 3) := by decide +kernel
theorem dX3_performOne_54 : decode cX3_performOne 54 = .ok (.goto 52, 3) := by decide +kernel
theorem dX3_performOne_57 : decode cX3_performOne 57 = .ok (.aload_n 0, 1) := by decide +kernel
theorem dX3_performOne_58 : decode cX3_performOne 58 = .ok (.iload_n 2, 1) := by decide +kernel
theorem dX3_performOne_59 : decode cX3_performOne 59 = .ok (.iload 5, 2) := by decide +kernel
theorem dX3_performOne_61 : decode cX3_performOne 61 = .ok (.iload_n 3, 1) := by decide +kernel
theorem dX3_performOne_62 : decode cX3_performOne 62 = .ok (.invokevirtual 135, 3) := by decide +kernel
theorem dX3_performOne_65 : decode cX3_performOne 65 = .ok (.istore 6, 2) := by decide +kernel
theorem dX3_performOne_67 : decode cX3_performOne 67 = .ok (.aload_n 0, 1) := by decide +kernel
theorem dX3_performOne_68 : decode cX3_performOne 68 = .ok (.getfield 12, 3) := by decide +kernel
theorem dX3_performOne_71 : decode cX3_performOne 71 = .ok (.iload 6, 2) := by decide +kernel
theorem dX3_performOne_73 : decode cX3_performOne 73 = .ok (.iload_n 3, 1) := by decide +kernel
theorem dX3_performOne_74 : decode cX3_performOne 74 = .ok (.invokevirtual 89, 3) := by decide +kernel
theorem dX3_performOne_77 : decode cX3_performOne 77 = .ok (.aload_n 0, 1) := by decide +kernel
theorem dX3_performOne_78 : decode cX3_performOne 78 = .ok (.getfield 12, 3) := by decide +kernel
theorem dX3_performOne_81 : decode cX3_performOne 81 = .ok (.aload_n 0, 1) := by decide +kernel
theorem dX3_performOne_82 : decode cX3_performOne 82 = .ok (.getfield 12, 3) := by decide +kernel
theorem dX3_performOne_85 : decode cX3_performOne 85 = .ok (.getfield 138, 3) := by decide +kernel
theorem dX3_performOne_88 : decode cX3_performOne 88 = .ok (.aload_n 0, 1) := by decide +kernel
theorem dX3_performOne_89 : decode cX3_performOne 89 = .ok (.getfield 12, 3) := by decide +kernel
theorem dX3_performOne_92 : decode cX3_performOne 92 = .ok (.getfield 102, 3) := by decide +kernel
theorem dX3_performOne_95 : decode cX3_performOne 95 = .ok (.if_icmp .eq 7, 3) := by decide +kernel
theorem dX3_performOne_98 : decode cX3_performOne 98 = .ok (.iconst 1, 1) := by decide +kernel
theorem dX3_performOne_99 : decode cX3_performOne 99 = .ok (.goto 4, 3) := by decide +kernel
theorem dX3_performOne_102 : decode cX3_performOne 102 = .ok (.iconst 0, 1) := by decide +kernel
theorem dX3_performOne_103 : decode cX3_performOne 103 = .ok (.putfield 92, 3) := by decide +kernel
theorem dX3_performOne_106 : decode cX3_performOne 106 = .ok (.iload_n 2, 1) := by decide +kernel
theorem dX3_performOne_107 : decode cX3_performOne 107 = .ok (.bipush 47, 2) := by decide +kernel
theorem dX3_performOne_109 : decode cX3_performOne 109 = .ok (.if_icmp .ne 7, 3) := by decide +kernel
theorem dX3_performOne_112 : decode cX3_performOne 112 = .ok (.iconst 1, 1) := by decide +kernel
theorem dX3_performOne_113 : decode cX3_performOne 113 = .ok (.goto 4, 3) := by decide +kernel
theorem dX3_performOne_116 : decode cX3_performOne 116 = .ok (.iconst 0, 1) := by decide +kernel
theorem dX3_performOne_117 : decode cX3_performOne 117 = .ok (.istore 7, 2) := by decide +kernel
theorem dX3_performOne_119 : decode cX3_performOne 119 = .ok (.iload 7, 2) := by decide +kernel
theorem dX3_performOne_121 : decode cX3_performOne 121 = .ok (.ifCond .ne 15, 3) := by decide +kernel
theorem dX3_performOne_124 : decode cX3_performOne 124 = .ok (.aload_n 0, 1) := by decide +kernel
theorem dX3_performOne_125 : decode cX3_performOne 125 = .ok (.getfield 23, 3) := by decide +kernel
theorem dX3_performOne_128 : decode cX3_performOne 128 = .ok (.iload 4, 2) := by decide +kernel
theorem dX3_performOne_130 : decode cX3_performOne 130 = .ok (.iload_n 3, 1) := by decide +kernel
theorem dX3_performOne_131 : decode cX3_performOne 131 = .ok (.iload 6, 2) := by decide +kernel
theorem dX3_performOne_133 : decode cX3_performOne 133 = .ok (.invokevirtual 99, 3) := by decide +kernel
theorem dX3_performOne_136 : decode cX3_performOne 136 = .ok (.return_, 1) := by decide +kernel
theorem dX3_count_0 : decode cX3_count 0 = .ok (.iload_n 1, 1) := by decide +kernel
theorem dX3_count_1 : decode cX3_count 1 = .ok (.tableswitch 96 40 46 #[43, 50, 61, 68, 75, 82, 89], 43) := by decide +kernel
theorem dX3_count_44 : decode cX3_count 44 = .ok (.aload_n 0, 1) := by decide +kernel
theorem dX3_count_45 : decode cX3_count 45 = .ok (.iconst 0, 1) := by decide +kernel
theorem dX3_count_46 : decode cX3_count 46 = .ok (.iconst 0, 1) := by decide +kernel
theorem dX3_count_47 : decode cX3_count 47 = .ok (.invokevirtual 141, 3) := by decide +kernel
theorem dX3_count_50 : decode cX3_count 50 = .ok (.ireturn, 1) := by decide +kernel
theorem dX3_count_51 : decode cX3_count 51 = .ok (.aload_n 0, 1) := by decide +kernel
theorem dX3_count_52 : decode cX3_count 52 = .ok (.iload_n 2, 1) := by decide +kernel
theorem dX3_count_53 : decode cX3_count 53 = .ok (.iconst (-1), 1) := by decide +kernel
theorem dX3_count_54 : decode cX3_count 54 = .ok (.ixor, 1) := by decide +kernel
theorem dX3_count_55 : decode cX3_count 55 = .ok (.iload_n 3, 1) := by decide +kernel
theorem dX3_count_56 : decode cX3_count 56 = .ok (.iand, 1) := by decide +kernel
theorem dX3_count_57 : decode cX3_count 57 = .ok (.iconst 1, 1) := by decide +kernel
theorem dX3_count_58 : decode cX3_count 58 = .ok (.invokevirtual 141, 3) := by decide +kernel
theorem dX3_count_61 : decode cX3_count 61 = .ok (.ireturn, 1) := by decide +kernel
theorem dX3_count_62 : decode cX3_count 62 = .ok (.aload_n 0, 1) := by decide +kernel
theorem dX3_count_63 : decode cX3_count 63 = .ok (.iload_n 2, 1) := by decide +kernel
theorem dX3_count_64 : decode cX3_count 64 = .ok (.iload_n 3, 1) := by decide +kernel
theorem dX3_count_65 : decode cX3_count 65 = .ok (.invokevirtual 145, 3) := by decide +kernel
theorem dX3_count_68 : decode cX3_count 68 = .ok (.ireturn, 1) := by decide +kernel
theorem dX3_count_69 : decode cX3_count 69 = .ok (.aload_n 0, 1) := by decide +kernel
theorem dX3_count_70 : decode cX3_count 70 = .ok (.iload_n 2, 1) := by decide +kernel
theorem dX3_count_71 : decode cX3_count 71 = .ok (.iload_n 3, 1) := by decide +kernel
theorem dX3_count_72 : decode cX3_count 72 = .ok (.invokevirtual 148, 3) := by decide +kernel
theorem dX3_count_75 : decode cX3_count 75 = .ok (.ireturn, 1) := by decide +kernel
theorem dX3_count_76 : decode cX3_count 76 = .ok (.aload_n 0, 1) := by decide +kernel
theorem dX3_count_77 : decode cX3_count 77 = .ok (.iload_n 2, 1) := by decide +kernel
theorem dX3_count_78 : decode cX3_count 78 = .ok (.iload_n 3, 1) := by decide +kernel
theorem dX3_count_79 : decode cX3_count 79 = .ok (.invokevirtual 151, 3) := by decide +kernel
theorem dX3_count_82 : decode cX3_count 82 = .ok (.ireturn, 1) := by decide +kernel
theorem dX3_count_83 : decode cX3_count 83 = .ok (.aload_n 0, 1) := by decide +kernel
theorem dX3_count_84 : decode cX3_count 84 = .ok (.iload_n 2, 1) := by decide +kernel
theorem dX3_count_85 : decode cX3_count 85 = .ok (.iload_n 3, 1) := by decide +kernel
theorem dX3_count_86 : decode cX3_count 86 = .ok (.invokevirtual 154, 3) := by decide +kernel
theorem dX3_count_89 : decode cX3_count 89 = .ok (.ireturn, 1) := by decide +kernel
theorem dX3_count_90 : decode cX3_count 90 = .ok (.aload_n 0, 1) := by decide +kernel
theorem dX3_count_91 : decode cX3_count 91 = .ok (.iload_n 2, 1) := by decide +kernel
theorem dX3_count_92 : decode cX3_count 92 = .ok (.iload_n 3, 1) := by decide +kernel
theorem dX3_count_93 : decode cX3_count 93 = .ok (.invokevirtual 157, 3) := by decide +kernel
theorem dX3_count_96 : decode cX3_count 96 = .ok (.ireturn, 1) := by decide +kernel
theorem dX3_count_97 : decode cX3_count 97 = .ok (.aload_n 0, 1) := by decide +kernel
theorem dX3_count_98 : decode cX3_count 98 = .ok (.iload_n 2, 1) := by decide +kernel
theorem dX3_count_99 : decode cX3_count 99 = .ok (.iconst 0, 1) := by decide +kernel
theorem dX3_count_100 : decode cX3_count 100 = .ok (.invokevirtual 141, 3) := by decide +kernel
theorem dX3_count_103 : decode cX3_count 103 = .ok (.ireturn, 1) := by decide +kernel
theorem dX3_withoutOverflow_0 : decode cX3_withoutOverflow 0 = .ok (.aload_n 0, 1) := by decide +kernel
theorem dX3_withoutOverflow_1 : decode cX3_withoutOverflow 1 = .ok (.getfield 12, 3) := by decide +kernel
theorem dX3_withoutOverflow_4 : decode cX3_withoutOverflow 4 = .ok (.iconst 0, 1) := by decide +kernel
theorem dX3_withoutOverflow_5 : decode cX3_withoutOverflow 5 = .ok (.putfield 92, 3) := by decide +kernel
theorem dX3_withoutOverflow_8 : decode cX3_withoutOverflow 8 = .ok (.aload_n 0, 1) := by decide +kernel
theorem dX3_withoutOverflow_9 : decode cX3_withoutOverflow 9 = .ok (.getfield 12, 3) := by decide +kernel
theorem dX3_withoutOverflow_12 : decode cX3_withoutOverflow 12 = .ok (.iload_n 2, 1) := by decide +kernel
theorem dX3_withoutOverflow_13 : decode cX3_withoutOverflow 13 = .ok (.putfield 102, 3) := by decide +kernel
theorem dX3_withoutOverflow_16 : decode cX3_withoutOverflow 16 = .ok (.iload_n 1, 1) := by decide +kernel
theorem dX3_withoutOverflow_17 : decode cX3_withoutOverflow 17 = .ok (.ireturn, 1) := by decide +kernel
theorem dX3_oneMore_0 : decode cX3_oneMore 0 = .ok (.iload_n 1, 1) := by decide +kernel
theorem dX3_oneMore_1 : decode cX3_oneMore 1 = .ok (.iconst 1, 1) := by decide +kernel
theorem dX3_oneMore_2 : decode cX3_oneMore 2 = .ok (.iadd, 1) := by decide +kernel
theorem dX3_oneMore_3 : decode cX3_oneMore 3 = .ok (.iload_n 2, 1) := by decide +kernel
theorem dX3_oneMore_4 : decode cX3_oneMore 4 = .ok (.iand, 1) := by decide +kernel
theorem dX3_oneMore_5 : decode cX3_oneMore 5 = .ok (.istore_n 3, 1) := by decide +kernel
theorem dX3_oneMore_6 : decode cX3_oneMore 6 = .ok (.aload_n 0, 1) := by decide +kernel
theorem dX3_oneMore_7 : decode cX3_oneMore 7 = .ok (.getfield 12, 3) := by decide +kernel
theorem dX3_oneMore_10 : decode cX3_oneMore 10 = .ok (.iload_n 3, 1) := by decide +kernel
theorem dX3_oneMore_11 : decode cX3_oneMore 11 = .ok (.iload_n 2, 1) := by decide +kernel
theorem dX3_oneMore_12 : decode cX3_oneMore 12 = .ok (.invokestatic 105, 3) := by decide +kernel
theorem dX3_oneMore_15 : decode cX3_oneMore 15 = .ok (.if_icmp .ne 7, 3) := by decide +kernel
theorem dX3_oneMore_18 : decode cX3_oneMore 18 = .ok (.iconst 1, 1) := by decide +kernel
theorem dX3_oneMore_19 : decode cX3_oneMore 19 = .ok (.goto 4, 3) := by decide +kernel
theorem dX3_oneMore_22 : decode cX3_oneMore 22 = .ok (.iconst 0, 1) := by decide +kernel
theorem dX3_oneMore_23 : decode cX3_oneMore 23 = .ok (.putfield 92, 3) := by decide +kernel
theorem dX3_oneMore_26 : decode cX3_oneMore 26 = .ok (.iload_n 3, 1) := by decide +kernel
theorem dX3_oneMore_27 : decode cX3_oneMore 27 = .ok (.ireturn, 1) := by decide +kernel
theorem dX3_oneLess_0 : decode cX3_oneLess 0 = .ok (.iload_n 1, 1) := by decide +kernel
theorem dX3_oneLess_1 : decode cX3_oneLess 1 = .ok (.iconst 1, 1) := by decide +kernel
theorem dX3_oneLess_2 : decode cX3_oneLess 2 = .ok (.isub, 1) := by decide +kernel
theorem dX3_oneLess_3 : decode cX3_oneLess 3 = .ok (.iload_n 2, 1) := by decide +kernel
theorem dX3_oneLess_4 : decode cX3_oneLess 4 = .ok (.iand, 1) := by decide +kernel
theorem dX3_oneLess_5 : decode cX3_oneLess 5 = .ok (.istore_n 3, 1) := by decide +kernel
theorem dX3_oneLess_6 : decode cX3_oneLess 6 = .ok (.aload_n 0, 1) := by decide +kernel
theorem dX3_oneLess_7 : decode cX3_oneLess 7 = .ok (.getfield 12, 3) := by decide +kernel
theorem dX3_oneLess_10 : decode cX3_oneLess 10 = .ok (.iload_n 3, 1) := by decide +kernel
theorem dX3_oneLess_11 : decode cX3_oneLess 11 = .ok (.iload_n 2, 1) := by decide +kernel
theorem dX3_oneLess_12 : decode cX3_oneLess 12 = .ok (.invokestatic 105, 3) := by decide +kernel
theorem dX3_oneLess_15 : decode cX3_oneLess 15 = .ok (.iconst 1, 1) := by decide +kernel
theorem dX3_oneLess_16 : decode cX3_oneLess 16 = .ok (.isub, 1) := by decide +kernel
theorem dX3_oneLess_17 : decode cX3_oneLess 17 = .ok (.if_icmp .ne 7, 3) := by decide +kernel
theorem dX3_oneLess_20 : decode cX3_oneLess 20 = .ok (.iconst 1, 1) := by decide +kernel
theorem dX3_oneLess_21 : decode cX3_oneLess 21 = .ok (.goto 4, 3) := by decide +kernel
theorem dX3_oneLess_24 : decode cX3_oneLess 24 = .ok (.iconst 0, 1) := by decide +kernel
theorem dX3_oneLess_25 : decode cX3_oneLess 25 = .ok (.putfield 92, 3) := by decide +kernel
theorem dX3_oneLess_28 : decode cX3_oneLess 28 = .ok (.iload_n 3, 1) := by decide +kernel
theorem dX3_oneLess_29 : decode cX3_oneLess 29 = .ok (.ireturn, 1) := by decide +kernel
theorem dX3_minus_0 : decode cX3_minus 0 = .ok (.iload_n 1, 1) := by decide +kernel
theorem dX3_minus_1 : decode cX3_minus 1 = .ok (.ineg, 1) := by decide +kernel
theorem dX3_minus_2 : decode cX3_minus 2 = .ok (.iload_n 2, 1) := by decide +kernel
theorem dX3_minus_3 : decode cX3_minus 3 = .ok (.iand, 1) := by decide +kernel
theorem dX3_minus_4 : decode cX3_minus 4 = .ok (.istore_n 3, 1) := by decide +kernel
theorem dX3_minus_5 : decode cX3_minus 5 = .ok (.aload_n 0, 1) := by decide +kernel
theorem dX3_minus_6 : decode cX3_minus 6 = .ok (.getfield 12, 3) := by decide +kernel
theorem dX3_minus_9 : decode cX3_minus 9 = .ok (.iload_n 3, 1) := by decide +kernel
theorem dX3_minus_10 : decode cX3_minus 10 = .ok (.iload_n 2, 1) := by decide +kernel
theorem dX3_minus_11 : decode cX3_minus 11 = .ok (.invokestatic 105, 3) := by decide +kernel
theorem dX3_minus_14 : decode cX3_minus 14 = .ok (.if_icmp .ne 7, 3) := by decide +kernel
theorem dX3_minus_17 : decode cX3_minus 17 = .ok (.iconst 1, 1) := by decide +kernel
theorem dX3_minus_18 : decode cX3_minus 18 = .ok (.goto 4, 3) := by decide +kernel
theorem dX3_minus_21 : decode cX3_minus 21 = .ok (.iconst 0, 1) := by decide +kernel
theorem dX3_minus_22 : decode cX3_minus 22 = .ok (.putfield 92, 3) := by decide +kernel
theorem dX3_minus_25 : decode cX3_minus 25 = .ok (.aload_n 0, 1) := by decide +kernel
theorem dX3_minus_26 : decode cX3_minus 26 = .ok (.getfield 12, 3) := by decide +kernel
theorem dX3_minus_29 : decode cX3_minus 29 = .ok (.iload_n 3, 1) := by decide +kernel
theorem dX3_minus_30 : decode cX3_minus 30 = .ok (.ifCond .eq 7, 3) := by decide +kernel
theorem dX3_minus_33 : decode cX3_minus 33 = .ok (.iconst 1, 1) := by decide +kernel
theorem dX3_minus_34 : decode cX3_minus 34 = .ok (.goto 4, 3) := by decide +kernel
theorem dX3_minus_37 : decode cX3_minus 37 = .ok (.iconst 0, 1) := by decide +kernel
theorem dX3_minus_38 : decode cX3_minus 38 = .ok (.putfield 102, 3) := by decide +kernel
theorem dX3_minus_41 : decode cX3_minus 41 = .ok (.iload_n 3, 1) := by decide +kernel
theorem dX3_minus_42 : decode cX3_minus 42 = .ok (.ireturn, 1) := by decide +kernel
theorem dX3_carryMore_0 : decode cX3_carryMore 0 = .ok (.aload_n 0, 1) := by decide +kernel
theorem dX3_carryMore_1 : decode cX3_carryMore 1 = .ok (.getfield 12, 3) := by decide +kernel
theorem dX3_carryMore_4 : decode cX3_carryMore 4 = .ok (.getfield 102, 3) := by decide +kernel
theorem dX3_carryMore_7 : decode cX3_carryMore 7 = .ok (.ifCond .ne 13, 3) := by decide +kernel
theorem dX3_carryMore_10 : decode cX3_carryMore 10 = .ok (.aload_n 0, 1) := by decide +kernel
theorem dX3_carryMore_11 : decode cX3_carryMore 11 = .ok (.getfield 12, 3) := by decide +kernel
theorem dX3_carryMore_14 : decode cX3_carryMore 14 = .ok (.iconst 0, 1) := by decide +kernel
theorem dX3_carryMore_15 : decode cX3_carryMore 15 = .ok (.putfield 92, 3) := by decide +kernel
theorem dX3_carryMore_18 : decode cX3_carryMore 18 = .ok (.iload_n 1, 1) := by decide +kernel
theorem dX3_carryMore_19 : decode cX3_carryMore 19 = .ok (.ireturn, 1) := by decide +kernel
theorem dX3_carryMore_20 : decode cX3_carryMore 20 = .ok (.aload_n 0, 1) := by decide +kernel
theorem dX3_carryMore_21 : decode cX3_carryMore 21 = .ok (.getfield 12, 3) := by decide +kernel
theorem dX3_carryMore_24 : decode cX3_carryMore 24 = .ok (.iload_n 1, 1) := by decide +kernel
theorem dX3_carryMore_25 : decode cX3_carryMore 25 = .ok (.iload_n 2, 1) := by decide +kernel
theorem dX3_carryMore_26 : decode cX3_carryMore 26 = .ok (.invokestatic 105, 3) := by decide +kernel
theorem dX3_carryMore_29 : decode cX3_carryMore 29 = .ok (.iconst 1, 1) := by decide +kernel
theorem dX3_carryMore_30 : decode cX3_carryMore 30 = .ok (.isub, 1) := by decide +kernel
theorem dX3_carryMore_31 : decode cX3_carryMore 31 = .ok (.if_icmp .ne 7, 3) := by decide +kernel
theorem dX3_carryMore_34 : decode cX3_carryMore 34 = .ok (.iconst 1, 1) := by decide +kernel
theorem dX3_carryMore_35 : decode cX3_carryMore 35 = .ok (.goto 4, 3) := by decide +kernel
theorem dX3_carryMore_38 : decode cX3_carryMore 38 = .ok (.iconst 0, 1) := by decide +kernel
theorem dX3_carryMore_39 : decode cX3_carryMore 39 = .ok (.putfield 92, 3) := by decide +kernel
theorem dX3_carryMore_42 : decode cX3_carryMore 42 = .ok (.aload_n 0, 1) := by decide +kernel
theorem dX3_carryMore_43 : decode cX3_carryMore 43 = .ok (.getfield 12, 3) := by decide +kernel
theorem dX3_carryMore_46 : decode cX3_carryMore 46 = .ok (.iload_n 1, 1) := by decide +kernel
theorem dX3_carryMore_47 : decode cX3_carryMore 47 = .ok (.iload_n 2, 1) := by decide +kernel
theorem dX3_carryMore_48 : decode cX3_carryMore 48 = .ok (.if_icmp .ne 7, 3) := by decide +kernel
theorem dX3_carryMore_51 : decode cX3_carryMore 51 = .ok (.iconst 1, 1) := by decide +kernel
theorem dX3_carryMore_52 : decode cX3_carryMore 52 = .ok (.goto 4, 3) := by decide +kernel
theorem dX3_carryMore_55 : decode cX3_carryMore 55 = .ok (.iconst 0, 1) := by decide +kernel
theorem dX3_carryMore_56 : decode cX3_carryMore 56 = .ok (.putfield 102, 3) := by decide +kernel
theorem dX3_carryMore_59 : decode cX3_carryMore 59 = .ok (.iload_n 1, 1) := by decide +kernel
theorem dX3_carryMore_60 : decode cX3_carryMore 60 = .ok (.iconst 1, 1) := by decide +kernel
theorem dX3_carryMore_61 : decode cX3_carryMore 61 = .ok (.iadd, 1) := by decide +kernel
theorem dX3_carryMore_62 : decode cX3_carryMore 62 = .ok (.iload_n 2, 1) := by decide +kernel
theorem dX3_carryMore_63 : decode cX3_carryMore 63 = .ok (.iand, 1) := by decide +kernel
theorem dX3_carryMore_64 : decode cX3_carryMore 64 = .ok (.ireturn, 1) := by decide +kernel
theorem dX3_carryLess_0 : decode cX3_carryLess 0 = .ok (.aload_n 0, 1) := by decide +kernel
theorem dX3_carryLess_1 : decode cX3_carryLess 1 = .ok (.getfield 12, 3) := by decide +kernel
theorem dX3_carryLess_4 : decode cX3_carryLess 4 = .ok (.getfield 102, 3) := by decide +kernel
theorem dX3_carryLess_7 : decode cX3_carryLess 7 = .ok (.ifCond .ne 13, 3) := by decide +kernel
theorem dX3_carryLess_10 : decode cX3_carryLess 10 = .ok (.aload_n 0, 1) := by decide +kernel
theorem dX3_carryLess_11 : decode cX3_carryLess 11 = .ok (.getfield 12, 3) := by decide +kernel
theorem dX3_carryLess_14 : decode cX3_carryLess 14 = .ok (.iconst 0, 1) := by decide +kernel
theorem dX3_carryLess_15 : decode cX3_carryLess 15 = .ok (.putfield 92, 3) := by decide +kernel
theorem dX3_carryLess_18 : decode cX3_carryLess 18 = .ok (.iload_n 1, 1) := by decide +kernel
theorem dX3_carryLess_19 : decode cX3_carryLess 19 = .ok (.ireturn, 1) := by decide +kernel
theorem dX3_carryLess_20 : decode cX3_carryLess 20 = .ok (.aload_n 0, 1) := by decide +kernel
theorem dX3_carryLess_21 : decode cX3_carryLess 21 = .ok (.getfield 12, 3) := by decide +kernel
theorem dX3_carryLess_24 : decode cX3_carryLess 24 = .ok (.iload_n 1, 1) := by decide +kernel
theorem dX3_carryLess_25 : decode cX3_carryLess 25 = .ok (.iload_n 2, 1) := by decide +kernel
theorem dX3_carryLess_26 : decode cX3_carryLess 26 = .ok (.invokestatic 105, 3) := by decide +kernel
theorem dX3_carryLess_29 : decode cX3_carryLess 29 = .ok (.if_icmp .ne 7, 3) := by decide +kernel
theorem dX3_carryLess_32 : decode cX3_carryLess 32 = .ok (.iconst 1, 1) := by decide +kernel
theorem dX3_carryLess_33 : decode cX3_carryLess 33 = .ok (.goto 4, 3) := by decide +kernel
theorem dX3_carryLess_36 : decode cX3_carryLess 36 = .ok (.iconst 0, 1) := by decide +kernel
theorem dX3_carryLess_37 : decode cX3_carryLess 37 = .ok (.putfield 92, 3) := by decide +kernel
