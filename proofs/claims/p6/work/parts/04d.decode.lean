theorem dX3_carryLess_40 : decode cX3_carryLess 40 = .ok (.aload_n 0, 1) := by decide +kernel
theorem dX3_carryLess_41 : decode cX3_carryLess 41 = .ok (.getfield 12, 3) := by decide +kernel
theorem dX3_carryLess_44 : decode cX3_carryLess 44 = .ok (.iload_n 1, 1) := by decide +kernel
theorem dX3_carryLess_45 : decode cX3_carryLess 45 = .ok (.ifCond .ne 7, 3) := by decide +kernel
theorem dX3_carryLess_48 : decode cX3_carryLess 48 = .ok (.iconst 1, 1) := by decide +kernel
theorem dX3_carryLess_49 : decode cX3_carryLess 49 = .ok (.goto 4, 3) := by decide +kernel
theorem dX3_carryLess_52 : decode cX3_carryLess 52 = .ok (.iconst 0, 1) := by decide +kernel
theorem dX3_carryLess_53 : decode cX3_carryLess 53 = .ok (.putfield 102, 3) := by decide +kernel
theorem dX3_carryLess_56 : decode cX3_carryLess 56 = .ok (.iload_n 1, 1) := by decide +kernel
theorem dX3_carryLess_57 : decode cX3_carryLess 57 = .ok (.iconst 1, 1) := by decide +kernel
theorem dX3_carryLess_58 : decode cX3_carryLess 58 = .ok (.isub, 1) := by decide +kernel
theorem dX3_carryLess_59 : decode cX3_carryLess 59 = .ok (.iload_n 2, 1) := by decide +kernel
theorem dX3_carryLess_60 : decode cX3_carryLess 60 = .ok (.iand, 1) := by decide +kernel
theorem dX3_carryLess_61 : decode cX3_carryLess 61 = .ok (.ireturn, 1) := by decide +kernel
theorem dX3_shiftByOne_0 : decode cX3_shiftByOne 0 = .ok (.iload_n 3, 1) := by decide +kernel
theorem dX3_shiftByOne_1 : decode cX3_shiftByOne 1 = .ok (.invokestatic 105, 3) := by decide +kernel
theorem dX3_shiftByOne_4 : decode cX3_shiftByOne 4 = .ok (.istore 4, 2) := by decide +kernel
theorem dX3_shiftByOne_6 : decode cX3_shiftByOne 6 = .ok (.aload_n 0, 1) := by decide +kernel
theorem dX3_shiftByOne_7 : decode cX3_shiftByOne 7 = .ok (.getfield 12, 3) := by decide +kernel
theorem dX3_shiftByOne_10 : decode cX3_shiftByOne 10 = .ok (.getfield 102, 3) := by decide +kernel
theorem dX3_shiftByOne_13 : decode cX3_shiftByOne 13 = .ok (.istore 5, 2) := by decide +kernel
theorem dX3_shiftByOne_15 : decode cX3_shiftByOne 15 = .ok (.iload_n 1, 1) := by decide +kernel
theorem dX3_shiftByOne_16 : decode cX3_shiftByOne 16 = .ok (.bipush 49, 2) := by decide +kernel
theorem dX3_shiftByOne_18 : decode cX3_shiftByOne 18 = .ok (.if_icmp .eq 9, 3) := by decide +kernel
theorem dX3_shiftByOne_21 : decode cX3_shiftByOne 21 = .ok (.iload_n 1, 1) := by decide +kernel
theorem dX3_shiftByOne_22 : decode cX3_shiftByOne 22 = .ok (.bipush 51, 2) := by decide +kernel
theorem dX3_shiftByOne_24 : decode cX3_shiftByOne 24 = .ok (.if_icmp .ne 7, 3) := by decide +kernel
theorem dX3_shiftByOne_27 : decode cX3_shiftByOne 27 = .ok (.iconst 1, 1) := by decide +kernel
theorem dX3_shiftByOne_28 : decode cX3_shiftByOne 28 = .ok (.goto 4, 3) := by decide +kernel
theorem dX3_shiftByOne_31 : decode cX3_shiftByOne 31 = .ok (.iconst 0, 1) := by decide +kernel
theorem dX3_shiftByOne_32 : decode cX3_shiftByOne 32 = .ok (.istore 6, 2) := by decide +kernel
theorem dX3_shiftByOne_34 : decode cX3_shiftByOne 34 = .ok (.aload_n 0, 1) := by decide +kernel
theorem dX3_shiftByOne_35 : decode cX3_shiftByOne 35 = .ok (.getfield 12, 3) := by decide +kernel
theorem dX3_shiftByOne_38 : decode cX3_shiftByOne 38 = .ok (.iload_n 2, 1) := by decide +kernel
theorem dX3_shiftByOne_39 : decode cX3_shiftByOne 39 = .ok (.iload 6, 2) := by decide +kernel
theorem dX3_shiftByOne_41 : decode cX3_shiftByOne 41 = .ok (.ifCond .eq 8, 3) := by decide +kernel
theorem dX3_shiftByOne_44 : decode cX3_shiftByOne 44 = .ok (.iload 4, 2) := by decide +kernel
theorem dX3_shiftByOne_46 : decode cX3_shiftByOne 46 = .ok (.goto 4, 3) := by decide +kernel
theorem dX3_shiftByOne_49 : decode cX3_shiftByOne 49 = .ok (.iconst 1, 1) := by decide +kernel
theorem dX3_shiftByOne_50 : decode cX3_shiftByOne 50 = .ok (.iand, 1) := by decide +kernel
theorem dX3_shiftByOne_51 : decode cX3_shiftByOne 51 = .ok (.ifCond .eq 7, 3) := by decide +kernel
theorem dX3_shiftByOne_54 : decode cX3_shiftByOne 54 = .ok (.iconst 1, 1) := by decide +kernel
theorem dX3_shiftByOne_55 : decode cX3_shiftByOne 55 = .ok (.goto 4, 3) := by decide +kernel
theorem dX3_shiftByOne_58 : decode cX3_shiftByOne 58 = .ok (.iconst 0, 1) := by decide +kernel
theorem dX3_shiftByOne_59 : decode cX3_shiftByOne 59 = .ok (.putfield 102, 3) := by decide +kernel
theorem dX3_shiftByOne_62 : decode cX3_shiftByOne 62 = .ok (.iload_n 1, 1) := by decide +kernel
theorem dX3_shiftByOne_63 : decode cX3_shiftByOne 63 = .ok (.tableswitch 67 48 50 #[25, 41, 58], 25) := by decide +kernel
theorem dX3_shiftByOne_88 : decode cX3_shiftByOne 88 = .ok (.iload_n 2, 1) := by decide +kernel
theorem dX3_shiftByOne_89 : decode cX3_shiftByOne 89 = .ok (.iconst 1, 1) := by decide +kernel
theorem dX3_shiftByOne_90 : decode cX3_shiftByOne 90 = .ok (.ishr, 1) := by decide +kernel
theorem dX3_shiftByOne_91 : decode cX3_shiftByOne 91 = .ok (.iload 5, 2) := by decide +kernel
theorem dX3_shiftByOne_93 : decode cX3_shiftByOne 93 = .ok (.ifCond .eq 8, 3) := by decide +kernel
theorem dX3_shiftByOne_96 : decode cX3_shiftByOne 96 = .ok (.iload 4, 2) := by decide +kernel
theorem dX3_shiftByOne_98 : decode cX3_shiftByOne 98 = .ok (.goto 4, 3) := by decide +kernel
theorem dX3_shiftByOne_101 : decode cX3_shiftByOne 101 = .ok (.iconst 0, 1) := by decide +kernel
theorem dX3_shiftByOne_102 : decode cX3_shiftByOne 102 = .ok (.ior, 1) := by decide +kernel
theorem dX3_shiftByOne_103 : decode cX3_shiftByOne 103 = .ok (.ireturn, 1) := by decide +kernel
theorem dX3_shiftByOne_104 : decode cX3_shiftByOne 104 = .ok (.iload_n 2, 1) := by decide +kernel
theorem dX3_shiftByOne_105 : decode cX3_shiftByOne 105 = .ok (.iconst 1, 1) := by decide +kernel
theorem dX3_shiftByOne_106 : decode cX3_shiftByOne 106 = .ok (.ishl, 1) := by decide +kernel
theorem dX3_shiftByOne_107 : decode cX3_shiftByOne 107 = .ok (.iload_n 3, 1) := by decide +kernel
theorem dX3_shiftByOne_108 : decode cX3_shiftByOne 108 = .ok (.iand, 1) := by decide +kernel
theorem dX3_shiftByOne_109 : decode cX3_shiftByOne 109 = .ok (.iload 5, 2) := by decide +kernel
theorem dX3_shiftByOne_111 : decode cX3_shiftByOne 111 = .ok (.ifCond .eq 7, 3) := by decide +kernel
theorem dX3_shiftByOne_114 : decode cX3_shiftByOne 114 = .ok (.iconst 1, 1) := by decide +kernel
theorem dX3_shiftByOne_115 : decode cX3_shiftByOne 115 = .ok (.goto 4, 3) := by decide +kernel
theorem dX3_shiftByOne_118 : decode cX3_shiftByOne 118 = .ok (.iconst 0, 1) := by decide +kernel
theorem dX3_shiftByOne_119 : decode cX3_shiftByOne 119 = .ok (.ior, 1) := by decide +kernel
theorem dX3_shiftByOne_120 : decode cX3_shiftByOne 120 = .ok (.ireturn, 1) := by decide +kernel
theorem dX3_shiftByOne_121 : decode cX3_shiftByOne 121 = .ok (.iload_n 2, 1) := by decide +kernel
theorem dX3_shiftByOne_122 : decode cX3_shiftByOne 122 = .ok (.iconst 1, 1) := by decide +kernel
theorem dX3_shiftByOne_123 : decode cX3_shiftByOne 123 = .ok (.ishr, 1) := by decide +kernel
theorem dX3_shiftByOne_124 : decode cX3_shiftByOne 124 = .ok (.iload_n 2, 1) := by decide +kernel
theorem dX3_shiftByOne_125 : decode cX3_shiftByOne 125 = .ok (.iload 4, 2) := by decide +kernel
theorem dX3_shiftByOne_127 : decode cX3_shiftByOne 127 = .ok (.iand, 1) := by decide +kernel
theorem dX3_shiftByOne_128 : decode cX3_shiftByOne 128 = .ok (.ior, 1) := by decide +kernel
theorem dX3_shiftByOne_129 : decode cX3_shiftByOne 129 = .ok (.ireturn, 1) := by decide +kernel
theorem dX3_shiftByOne_130 : decode cX3_shiftByOne 130 = .ok (.iload_n 2, 1) := by decide +kernel
theorem dX3_shiftByOne_131 : decode cX3_shiftByOne 131 = .ok (.iconst 1, 1) := by decide +kernel
theorem dX3_shiftByOne_132 : decode cX3_shiftByOne 132 = .ok (.ishl, 1) := by decide +kernel
theorem dX3_shiftByOne_133 : decode cX3_shiftByOne 133 = .ok (.iload_n 3, 1) := by decide +kernel
theorem dX3_shiftByOne_134 : decode cX3_shiftByOne 134 = .ok (.iand, 1) := by decide +kernel
theorem dX3_shiftByOne_135 : decode cX3_shiftByOne 135 = .ok (.ireturn, 1) := by decide +kernel
theorem dX3_exchangeBytes_0 : decode cX3_exchangeBytes 0 = .ok (.aload_n 0, 1) := by decide +kernel
theorem dX3_exchangeBytes_1 : decode cX3_exchangeBytes 1 = .ok (.getfield 23, 3) := by decide +kernel
theorem dX3_exchangeBytes_4 : decode cX3_exchangeBytes 4 = .ok (.iload_n 1, 1) := by decide +kernel
theorem dX3_exchangeBytes_5 : decode cX3_exchangeBytes 5 = .ok (.ldc 69, 2) := by decide +kernel
theorem dX3_exchangeBytes_7 : decode cX3_exchangeBytes 7 = .ok (.invokevirtual 74, 3) := by decide +kernel
theorem dX3_exchangeBytes_10 : decode cX3_exchangeBytes 10 = .ok (.istore_n 2, 1) := by decide +kernel
theorem dX3_exchangeBytes_11 : decode cX3_exchangeBytes 11 = .ok (.aload_n 0, 1) := by decide +kernel
theorem dX3_exchangeBytes_12 : decode cX3_exchangeBytes 12 = .ok (.getfield 23, 3) := by decide +kernel
theorem dX3_exchangeBytes_15 : decode cX3_exchangeBytes 15 = .ok (.iload_n 2, 1) := by decide +kernel
theorem dX3_exchangeBytes_16 : decode cX3_exchangeBytes 16 = .ok (.ldc 69, 2) := by decide +kernel
theorem dX3_exchangeBytes_18 : decode cX3_exchangeBytes 18 = .ok (.invokevirtual 78, 3) := by decide +kernel
theorem dX3_exchangeBytes_21 : decode cX3_exchangeBytes 21 = .ok (.istore_n 3, 1) := by decide +kernel
theorem dX3_exchangeBytes_22 : decode cX3_exchangeBytes 22 = .ok (.iload_n 3, 1) := by decide +kernel
theorem dX3_exchangeBytes_23 : decode cX3_exchangeBytes 23 = .ok (.bipush 8, 2) := by decide +kernel
theorem dX3_exchangeBytes_25 : decode cX3_exchangeBytes 25 = .ok (.ishl, 1) := by decide +kernel
theorem dX3_exchangeBytes_26 : decode cX3_exchangeBytes 26 = .ok (.iload_n 3, 1) := by decide +kernel
theorem dX3_exchangeBytes_27 : decode cX3_exchangeBytes 27 = .ok (.bipush 8, 2) := by decide +kernel
theorem dX3_exchangeBytes_29 : decode cX3_exchangeBytes 29 = .ok (.ishr, 1) := by decide +kernel
theorem dX3_exchangeBytes_30 : decode cX3_exchangeBytes 30 = .ok (.ior, 1) := by decide +kernel
theorem dX3_exchangeBytes_31 : decode cX3_exchangeBytes 31 = .ok (.ldc 69, 2) := by decide +kernel
theorem dX3_exchangeBytes_33 : decode cX3_exchangeBytes 33 = .ok (.iand, 1) := by decide +kernel
theorem dX3_exchangeBytes_34 : decode cX3_exchangeBytes 34 = .ok (.istore 4, 2) := by decide +kernel
theorem dX3_exchangeBytes_36 : decode cX3_exchangeBytes 36 = .ok (.aload_n 0, 1) := by decide +kernel
theorem dX3_exchangeBytes_37 : decode cX3_exchangeBytes 37 = .ok (.getfield 12, 3) := by decide +kernel
theorem dX3_exchangeBytes_40 : decode cX3_exchangeBytes 40 = .ok (.iload 4, 2) := by decide +kernel
theorem dX3_exchangeBytes_42 : decode cX3_exchangeBytes 42 = .ok (.sipush 255, 3) := by decide +kernel
theorem dX3_exchangeBytes_45 : decode cX3_exchangeBytes 45 = .ok (.invokevirtual 89, 3) := by decide +kernel
theorem dX3_exchangeBytes_48 : decode cX3_exchangeBytes 48 = .ok (.aload_n 0, 1) := by decide +kernel
theorem dX3_exchangeBytes_49 : decode cX3_exchangeBytes 49 = .ok (.getfield 12, 3) := by decide +kernel
theorem dX3_exchangeBytes_52 : decode cX3_exchangeBytes 52 = .ok (.iconst 0, 1) := by decide +kernel
theorem dX3_exchangeBytes_53 : decode cX3_exchangeBytes 53 = .ok (.putfield 92, 3) := by decide +kernel
theorem dX3_exchangeBytes_56 : decode cX3_exchangeBytes 56 = .ok (.aload_n 0, 1) := by decide +kernel
theorem dX3_exchangeBytes_57 : decode cX3_exchangeBytes 57 = .ok (.getfield 12, 3) := by decide +kernel
theorem dX3_exchangeBytes_60 : decode cX3_exchangeBytes 60 = .ok (.iconst 0, 1) := by decide +kernel
theorem dX3_exchangeBytes_61 : decode cX3_exchangeBytes 61 = .ok (.putfield 102, 3) := by decide +kernel
theorem dX3_exchangeBytes_64 : decode cX3_exchangeBytes 64 = .ok (.aload_n 0, 1) := by decide +kernel
theorem dX3_exchangeBytes_65 : decode cX3_exchangeBytes 65 = .ok (.getfield 23, 3) := by decide +kernel
theorem dX3_exchangeBytes_68 : decode cX3_exchangeBytes 68 = .ok (.iload_n 2, 1) := by decide +kernel
theorem dX3_exchangeBytes_69 : decode cX3_exchangeBytes 69 = .ok (.ldc 69, 2) := by decide +kernel
theorem dX3_exchangeBytes_71 : decode cX3_exchangeBytes 71 = .ok (.iload 4, 2) := by decide +kernel
theorem dX3_exchangeBytes_73 : decode cX3_exchangeBytes 73 = .ok (.invokevirtual 99, 3) := by decide +kernel
theorem dX3_exchangeBytes_76 : decode cX3_exchangeBytes 76 = .ok (.return_, 1) := by decide +kernel
theorem dX3_spreadSign_0 : decode cX3_spreadSign 0 = .ok (.aload_n 0, 1) := by decide +kernel
theorem dX3_spreadSign_1 : decode cX3_spreadSign 1 = .ok (.getfield 23, 3) := by decide +kernel
theorem dX3_spreadSign_4 : decode cX3_spreadSign 4 = .ok (.iload_n 1, 1) := by decide +kernel
theorem dX3_spreadSign_5 : decode cX3_spreadSign 5 = .ok (.ldc 69, 2) := by decide +kernel
theorem dX3_spreadSign_7 : decode cX3_spreadSign 7 = .ok (.invokevirtual 74, 3) := by decide +kernel
theorem dX3_spreadSign_10 : decode cX3_spreadSign 10 = .ok (.istore_n 2, 1) := by decide +kernel
theorem dX3_spreadSign_11 : decode cX3_spreadSign 11 = .ok (.aload_n 0, 1) := by decide +kernel
theorem dX3_spreadSign_12 : decode cX3_spreadSign 12 = .ok (.getfield 12, 3) := by decide +kernel
theorem dX3_spreadSign_15 : decode cX3_spreadSign 15 = .ok (.getfield 138, 3) := by decide +kernel
theorem dX3_spreadSign_18 : decode cX3_spreadSign 18 = .ok (.ifCond .eq 8, 3) := by decide +kernel
theorem dX3_spreadSign_21 : decode cX3_spreadSign 21 = .ok (.ldc 69, 2) := by decide +kernel
theorem dX3_spreadSign_23 : decode cX3_spreadSign 23 = .ok (.goto 4, 3) := by decide +kernel
theorem dX3_spreadSign_26 : decode cX3_spreadSign 26 = .ok (.iconst 0, 1) := by decide +kernel
theorem dX3_spreadSign_27 : decode cX3_spreadSign 27 = .ok (.istore_n 3, 1) := by decide +kernel
theorem dX3_spreadSign_28 : decode cX3_spreadSign 28 = .ok (.aload_n 0, 1) := by decide +kernel
theorem dX3_spreadSign_29 : decode cX3_spreadSign 29 = .ok (.getfield 12, 3) := by decide +kernel
theorem dX3_spreadSign_32 : decode cX3_spreadSign 32 = .ok (.iload_n 3, 1) := by decide +kernel
theorem dX3_spreadSign_33 : decode cX3_spreadSign 33 = .ok (.ifCond .ne 7, 3) := by decide +kernel
theorem dX3_spreadSign_36 : decode cX3_spreadSign 36 = .ok (.iconst 1, 1) := by decide +kernel
theorem dX3_spreadSign_37 : decode cX3_spreadSign 37 = .ok (.goto 4, 3) := by decide +kernel
theorem dX3_spreadSign_40 : decode cX3_spreadSign 40 = .ok (.iconst 0, 1) := by decide +kernel
theorem dX3_spreadSign_41 : decode cX3_spreadSign 41 = .ok (.putfield 160, 3) := by decide +kernel
theorem dX3_spreadSign_44 : decode cX3_spreadSign 44 = .ok (.aload_n 0, 1) := by decide +kernel
theorem dX3_spreadSign_45 : decode cX3_spreadSign 45 = .ok (.getfield 12, 3) := by decide +kernel
theorem dX3_spreadSign_48 : decode cX3_spreadSign 48 = .ok (.iconst 0, 1) := by decide +kernel
theorem dX3_spreadSign_49 : decode cX3_spreadSign 49 = .ok (.putfield 92, 3) := by decide +kernel
theorem dX3_spreadSign_52 : decode cX3_spreadSign 52 = .ok (.aload_n 0, 1) := by decide +kernel
theorem dX3_spreadSign_53 : decode cX3_spreadSign 53 = .ok (.getfield 23, 3) := by decide +kernel
theorem dX3_spreadSign_56 : decode cX3_spreadSign 56 = .ok (.iload_n 2, 1) := by decide +kernel
theorem dX3_spreadSign_57 : decode cX3_spreadSign 57 = .ok (.ldc 69, 2) := by decide +kernel
theorem dX3_spreadSign_59 : decode cX3_spreadSign 59 = .ok (.iload_n 3, 1) := by decide +kernel
theorem dX3_spreadSign_60 : decode cX3_spreadSign 60 = .ok (.invokevirtual 99, 3) := by decide +kernel
theorem dX3_spreadSign_63 : decode cX3_spreadSign 63 = .ok (.return_, 1) := by decide +kernel
theorem dX3_performWithRegister_0 : decode cX3_performWithRegister 0 = .ok (.iload_n 1, 1) := by decide +kernel
theorem dX3_performWithRegister_1 : decode cX3_performWithRegister 1 = .ok (.invokestatic 65, 3) := by decide +kernel
theorem dX3_performWithRegister_4 : decode cX3_performWithRegister 4 = .ok (.ifCond .eq 8, 3) := by decide +kernel
theorem dX3_performWithRegister_7 : decode cX3_performWithRegister 7 = .ok (.aload_n 0, 1) := by decide +kernel
theorem dX3_performWithRegister_8 : decode cX3_performWithRegister 8 = .ok (.invokevirtual 114, 3) := by decide +kernel
theorem dX3_performWithRegister_11 : decode cX3_performWithRegister 11 = .ok (.return_, 1) := by decide +kernel
theorem dX3_performWithRegister_12 : decode cX3_performWithRegister 12 = .ok (.iload_n 1, 1) := by decide +kernel
theorem dX3_performWithRegister_13 : decode cX3_performWithRegister 13 = .ok (.bipush 6, 2) := by decide +kernel
theorem dX3_performWithRegister_15 : decode cX3_performWithRegister 15 = .ok (.ishr, 1) := by decide +kernel
theorem dX3_performWithRegister_16 : decode cX3_performWithRegister 16 = .ok (.bipush 7, 2) := by decide +kernel
theorem dX3_performWithRegister_18 : decode cX3_performWithRegister 18 = .ok (.iand, 1) := by decide +kernel
theorem dX3_performWithRegister_19 : decode cX3_performWithRegister 19 = .ok (.istore_n 2, 1) := by decide +kernel
theorem dX3_performWithRegister_20 : decode cX3_performWithRegister 20 = .ok (.iload_n 1, 1) := by decide +kernel
theorem dX3_performWithRegister_21 : decode cX3_performWithRegister 21 = .ok (.bipush 9, 2) := by decide +kernel
theorem dX3_performWithRegister_23 : decode cX3_performWithRegister 23 = .ok (.ishr, 1) := by decide +kernel
theorem dX3_performWithRegister_24 : decode cX3_performWithRegister 24 = .ok (.bipush 7, 2) := by decide +kernel
theorem dX3_performWithRegister_26 : decode cX3_performWithRegister 26 = .ok (.iand, 1) := by decide +kernel
theorem dX3_performWithRegister_27 : decode cX3_performWithRegister 27 = .ok (.tableswitch 93 0 7 #[45, 54, 63, 93, 72, 93, 93, 81], 45) := by decide +kernel
theorem dX3_performWithRegister_72 : decode cX3_performWithRegister 72 = .ok (.aload_n 0, 1) := by decide +kernel
theorem dX3_performWithRegister_73 : decode cX3_performWithRegister 73 = .ok (.iload_n 2, 1) := by decide +kernel
theorem dX3_performWithRegister_74 : decode cX3_performWithRegister 74 = .ok (.iload_n 1, 1) := by decide +kernel
theorem dX3_performWithRegister_75 : decode cX3_performWithRegister 75 = .ok (.invokevirtual 163, 3) := by decide +kernel
theorem dX3_performWithRegister_78 : decode cX3_performWithRegister 78 = .ok (.goto 46, 3) := by decide +kernel
theorem dX3_performWithRegister_81 : decode cX3_performWithRegister 81 = .ok (.aload_n 0, 1) := by decide +kernel
theorem dX3_performWithRegister_82 : decode cX3_performWithRegister 82 = .ok (.iload_n 2, 1) := by decide +kernel
theorem dX3_performWithRegister_83 : decode cX3_performWithRegister 83 = .ok (.iload_n 1, 1) := by decide +kernel
theorem dX3_performWithRegister_84 : decode cX3_performWithRegister 84 = .ok (.invokevirtual 166, 3) := by decide +kernel
theorem dX3_performWithRegister_87 : decode cX3_performWithRegister 87 = .ok (.goto 37, 3) := by decide +kernel
theorem dX3_performWithRegister_90 : decode cX3_performWithRegister 90 = .ok (.aload_n 0, 1) := by decide +kernel
theorem dX3_performWithRegister_91 : decode cX3_performWithRegister 91 = .ok (.iload_n 2, 1) := by decide +kernel
theorem dX3_performWithRegister_92 : decode cX3_performWithRegister 92 = .ok (.iload_n 1, 1) := by decide +kernel
theorem dX3_performWithRegister_93 : decode cX3_performWithRegister 93 = .ok (.invokevirtual 169, 3) := by decide +kernel
theorem dX3_performWithRegister_96 : decode cX3_performWithRegister 96 = .ok (.goto 28, 3) := by decide +kernel
theorem dX3_performWithRegister_99 : decode cX3_performWithRegister 99 = .ok (.aload_n 0, 1) := by decide +kernel
theorem dX3_performWithRegister_100 : decode cX3_performWithRegister 100 = .ok (.iload_n 2, 1) := by decide +kernel
theorem dX3_performWithRegister_101 : decode cX3_performWithRegister 101 = .ok (.iload_n 1, 1) := by decide +kernel
theorem dX3_performWithRegister_102 : decode cX3_performWithRegister 102 = .ok (.invokevirtual 172, 3) := by decide +kernel
theorem dX3_performWithRegister_105 : decode cX3_performWithRegister 105 = .ok (.goto 19, 3) := by decide +kernel
theorem dX3_performWithRegister_108 : decode cX3_performWithRegister 108 = .ok (.aload_n 0, 1) := by decide +kernel
theorem dX3_performWithRegister_109 : decode cX3_performWithRegister 109 = .ok (.iload_n 2, 1) := by decide +kernel
theorem dX3_performWithRegister_110 : decode cX3_performWithRegister 110 = .ok (.iload_n 1, 1) := by decide +kernel
theorem dX3_performWithRegister_111 : decode cX3_performWithRegister 111 = .ok (.bipush 63, 2) := by decide +kernel
theorem dX3_performWithRegister_113 : decode cX3_performWithRegister 113 = .ok (.iand, 1) := by decide +kernel
theorem dX3_performWithRegister_114 : decode cX3_performWithRegister 114 = .ok (.invokevirtual 175, 3) := by decide +kernel
theorem dX3_performWithRegister_117 : decode cX3_performWithRegister 117 = .ok (.goto 7, 3) := by decide +kernel
theorem dX3_performWithRegister_120 : decode cX3_performWithRegister 120 = .ok (.aload_n 0, 1) := by decide +kernel
theorem dX3_performWithRegister_121 : decode cX3_performWithRegister 121 = .ok (.invokevirtual 114, 3) := by decide +kernel
theorem dX3_performWithRegister_124 : decode cX3_performWithRegister 124 = .ok (.return_, 1) := by decide +kernel
theorem dX3_multiply_0 : decode cX3_multiply 0 = .ok (.aload_n 0, 1) := by decide +kernel
theorem dX3_multiply_1 : decode cX3_multiply 1 = .ok (.getfield 23, 3) := by decide +kernel
theorem dX3_multiply_4 : decode cX3_multiply 4 = .ok (.aload_n 0, 1) := by decide +kernel
theorem dX3_multiply_5 : decode cX3_multiply 5 = .ok (.getfield 23, 3) := by decide +kernel
theorem dX3_multiply_8 : decode cX3_multiply 8 = .ok (.iload_n 2, 1) := by decide +kernel
theorem dX3_multiply_9 : decode cX3_multiply 9 = .ok (.ldc 69, 2) := by decide +kernel
theorem dX3_multiply_11 : decode cX3_multiply 11 = .ok (.invokevirtual 74, 3) := by decide +kernel
theorem dX3_multiply_14 : decode cX3_multiply 14 = .ok (.ldc 69, 2) := by decide +kernel
theorem dX3_multiply_16 : decode cX3_multiply 16 = .ok (.invokevirtual 78, 3) := by decide +kernel
theorem dX3_multiply_19 : decode cX3_multiply 19 = .ok (.ldc 69, 2) := by decide +kernel
theorem dX3_multiply_21 : decode cX3_multiply 21 = .ok (.invokestatic 178, 3) := by decide +kernel
theorem dX3_multiply_24 : decode cX3_multiply 24 = .ok (.istore_n 3, 1) := by decide +kernel
theorem dX3_multiply_25 : decode cX3_multiply 25 = .ok (.iload_n 3, 1) := by decide +kernel
theorem dX3_multiply_26 : decode cX3_multiply 26 = .ok (.aload_n 0, 1) := by decide +kernel
theorem dX3_multiply_27 : decode cX3_multiply 27 = .ok (.getfield 23, 3) := by decide +kernel
theorem dX3_multiply_30 : decode cX3_multiply 30 = .ok (.getfield 181, 3) := by decide +kernel
theorem dX3_multiply_33 : decode cX3_multiply 33 = .ok (.iload_n 1, 1) := by decide +kernel
theorem dX3_multiply_34 : decode cX3_multiply 34 = .ok (.iaload, 1) := by decide +kernel
theorem dX3_multiply_35 : decode cX3_multiply 35 = .ok (.ldc 69, 2) := by decide +kernel
theorem dX3_multiply_37 : decode cX3_multiply 37 = .ok (.invokestatic 178, 3) := by decide +kernel
theorem dX3_multiply_40 : decode cX3_multiply 40 = .ok (.imul, 1) := by decide +kernel
theorem dX3_multiply_41 : decode cX3_multiply 41 = .ok (.istore 4, 2) := by decide +kernel
theorem dX3_multiply_43 : decode cX3_multiply 43 = .ok (.aload_n 0, 1) := by decide +kernel
theorem dX3_multiply_44 : decode cX3_multiply 44 = .ok (.getfield 12, 3) := by decide +kernel
theorem dX3_multiply_47 : decode cX3_multiply 47 = .ok (.iload 4, 2) := by decide +kernel
theorem dX3_multiply_49 : decode cX3_multiply 49 = .ok (.ifCond .ge 7, 3) := by decide +kernel
theorem dX3_multiply_52 : decode cX3_multiply 52 = .ok (.iconst 1, 1) := by decide +kernel
theorem dX3_multiply_53 : decode cX3_multiply 53 = .ok (.goto 4, 3) := by decide +kernel
theorem dX3_multiply_56 : decode cX3_multiply 56 = .ok (.iconst 0, 1) := by decide +kernel
theorem dX3_multiply_57 : decode cX3_multiply 57 = .ok (.putfield 138, 3) := by decide +kernel
theorem dX3_multiply_60 : decode cX3_multiply 60 = .ok (.aload_n 0, 1) := by decide +kernel
theorem dX3_multiply_61 : decode cX3_multiply 61 = .ok (.getfield 12, 3) := by decide +kernel
theorem dX3_multiply_64 : decode cX3_multiply 64 = .ok (.iload 4, 2) := by decide +kernel
theorem dX3_multiply_66 : decode cX3_multiply 66 = .ok (.ifCond .ne 7, 3) := by decide +kernel
theorem dX3_multiply_69 : decode cX3_multiply 69 = .ok (.iconst 1, 1) := by decide +kernel
theorem dX3_multiply_70 : decode cX3_multiply 70 = .ok (.goto 4, 3) := by decide +kernel
theorem dX3_multiply_73 : decode cX3_multiply 73 = .ok (.iconst 0, 1) := by decide +kernel
theorem dX3_multiply_74 : decode cX3_multiply 74 = .ok (.putfield 160, 3) := by decide +kernel
theorem dX3_multiply_77 : decode cX3_multiply 77 = .ok (.aload_n 0, 1) := by decide +kernel
theorem dX3_multiply_78 : decode cX3_multiply 78 = .ok (.getfield 12, 3) := by decide +kernel
theorem dX3_multiply_81 : decode cX3_multiply 81 = .ok (.iconst 0, 1) := by decide +kernel
theorem dX3_multiply_82 : decode cX3_multiply 82 = .ok (.putfield 92, 3) := by decide +kernel
theorem dX3_multiply_85 : decode cX3_multiply 85 = .ok (.aload_n 0, 1) := by decide +kernel
theorem dX3_multiply_86 : decode cX3_multiply 86 = .ok (.getfield 12, 3) := by decide +kernel
theorem dX3_multiply_89 : decode cX3_multiply 89 = .ok (.iload 4, 2) := by decide +kernel
theorem dX3_multiply_91 : decode cX3_multiply 91 = .ok (.i2l, 1) := by decide +kernel
theorem dX3_multiply_92 : decode cX3_multiply 92 = .ok (.invokestatic 185, 3) := by decide +kernel
theorem dX3_multiply_95 : decode cX3_multiply 95 = .ok (.ifCond .ne 7, 3) := by decide +kernel
theorem dX3_multiply_98 : decode cX3_multiply 98 = .ok (.iconst 1, 1) := by decide +kernel
theorem dX3_multiply_99 : decode cX3_multiply 99 = .ok (.goto 4, 3) := by decide +kernel
theorem dX3_multiply_102 : decode cX3_multiply 102 = .ok (.iconst 0, 1) := by decide +kernel
theorem dX3_multiply_103 : decode cX3_multiply 103 = .ok (.putfield 102, 3) := by decide +kernel
theorem dX3_multiply_106 : decode cX3_multiply 106 = .ok (.iload_n 1, 1) := by decide +kernel
theorem dX3_multiply_107 : decode cX3_multiply 107 = .ok (.iconst 1, 1) := by decide +kernel
theorem dX3_multiply_108 : decode cX3_multiply 108 = .ok (.iand, 1) := by decide +kernel
theorem dX3_multiply_109 : decode cX3_multiply 109 = .ok (.ifCond .ne 20, 3) := by decide +kernel
theorem dX3_multiply_112 : decode cX3_multiply 112 = .ok (.aload_n 0, 1) := by decide +kernel
theorem dX3_multiply_113 : decode cX3_multiply 113 = .ok (.getfield 23, 3) := by decide +kernel
theorem dX3_multiply_116 : decode cX3_multiply 116 = .ok (.getfield 181, 3) := by decide +kernel
theorem dX3_multiply_119 : decode cX3_multiply 119 = .ok (.iload_n 1, 1) := by decide +kernel
theorem dX3_multiply_120 : decode cX3_multiply 120 = .ok (.iload 4, 2) := by decide +kernel
theorem dX3_multiply_122 : decode cX3_multiply 122 = .ok (.bipush 16, 2) := by decide +kernel
theorem dX3_multiply_124 : decode cX3_multiply 124 = .ok (.ishr, 1) := by decide +kernel
theorem dX3_multiply_125 : decode cX3_multiply 125 = .ok (.ldc 69, 2) := by decide +kernel
theorem dX3_multiply_127 : decode cX3_multiply 127 = .ok (.iand, 1) := by decide +kernel
theorem dX3_multiply_128 : decode cX3_multiply 128 = .ok (.iastore, 1) := by decide +kernel
theorem dX3_multiply_129 : decode cX3_multiply 129 = .ok (.aload_n 0, 1) := by decide +kernel
theorem dX3_multiply_130 : decode cX3_multiply 130 = .ok (.getfield 23, 3) := by decide +kernel
theorem dX3_multiply_133 : decode cX3_multiply 133 = .ok (.getfield 181, 3) := by decide +kernel
theorem dX3_multiply_136 : decode cX3_multiply 136 = .ok (.iload_n 1, 1) := by decide +kernel
theorem dX3_multiply_137 : decode cX3_multiply 137 = .ok (.iconst 1, 1) := by decide +kernel
theorem dX3_multiply_138 : decode cX3_multiply 138 = .ok (.ior, 1) := by decide +kernel
theorem dX3_multiply_139 : decode cX3_multiply 139 = .ok (.iload 4, 2) := by decide +kernel
theorem dX3_multiply_141 : decode cX3_multiply 141 = .ok (.ldc 69, 2) := by decide +kernel
theorem dX3_multiply_143 : decode cX3_multiply 143 = .ok (.iand, 1) := by decide +kernel
theorem dX3_multiply_144 : decode cX3_multiply 144 = .ok (.iastore, 1) := by decide +kernel
theorem dX3_multiply_145 : decode cX3_multiply 145 = .ok (.return_, 1) := by decide +kernel
theorem dX3_divide_0 : decode cX3_divide 0 = .ok (.iload_n 1, 1) := by decide +kernel
theorem dX3_divide_1 : decode cX3_divide 1 = .ok (.iconst 1, 1) := by decide +kernel
theorem dX3_divide_2 : decode cX3_divide 2 = .ok (.iand, 1) := by decide +kernel
theorem dX3_divide_3 : decode cX3_divide 3 = .ok (.ifCond .eq 8, 3) := by decide +kernel
theorem dX3_divide_6 : decode cX3_divide 6 = .ok (.aload_n 0, 1) := by decide +kernel
theorem dX3_divide_7 : decode cX3_divide 7 = .ok (.invokevirtual 114, 3) := by decide +kernel
theorem dX3_divide_10 : decode cX3_divide 10 = .ok (.return_, 1) := by decide +kernel
theorem dX3_divide_11 : decode cX3_divide 11 = .ok (.aload_n 0, 1) := by decide +kernel
theorem dX3_divide_12 : decode cX3_divide 12 = .ok (.getfield 23, 3) := by decide +kernel
theorem dX3_divide_15 : decode cX3_divide 15 = .ok (.aload_n 0, 1) := by decide +kernel
theorem dX3_divide_16 : decode cX3_divide 16 = .ok (.getfield 23, 3) := by decide +kernel
theorem dX3_divide_19 : decode cX3_divide 19 = .ok (.iload_n 2, 1) := by decide +kernel
theorem dX3_divide_20 : decode cX3_divide 20 = .ok (.ldc 69, 2) := by decide +kernel
theorem dX3_divide_22 : decode cX3_divide 22 = .ok (.invokevirtual 74, 3) := by decide +kernel
theorem dX3_divide_25 : decode cX3_divide 25 = .ok (.ldc 69, 2) := by decide +kernel
theorem dX3_divide_27 : decode cX3_divide 27 = .ok (.invokevirtual 78, 3) := by decide +kernel
theorem dX3_divide_30 : decode cX3_divide 30 = .ok (.ldc 69, 2) := by decide +kernel
theorem dX3_divide_32 : decode cX3_divide 32 = .ok (.invokestatic 178, 3) := by decide +kernel
theorem dX3_divide_35 : decode cX3_divide 35 = .ok (.istore_n 3, 1) := by decide +kernel
theorem dX3_divide_36 : decode cX3_divide 36 = .ok (.iload_n 3, 1) := by decide +kernel
theorem dX3_divide_37 : decode cX3_divide 37 = .ok (.ifCond .ne 20, 3) := by decide +kernel
theorem dX3_divide_40 : decode cX3_divide 40 = .ok (.aload_n 0, 1) := by decide +kernel
theorem dX3_divide_41 : decode cX3_divide 41 = .ok (.getfield 12, 3) := by decide +kernel
theorem dX3_divide_44 : decode cX3_divide 44 = .ok (.iconst 1, 1) := by decide +kernel
theorem dX3_divide_45 : decode cX3_divide 45 = .ok (.putfield 92, 3) := by decide +kernel
theorem dX3_divide_48 : decode cX3_divide 48 = .ok (.aload_n 0, 1) := by decide +kernel
theorem dX3_divide_49 : decode cX3_divide 49 = .ok (.getfield 12, 3) := by decide +kernel
theorem dX3_divide_52 : decode cX3_divide 52 = .ok (.iconst 1, 1) := by decide +kernel
theorem dX3_divide_53 : decode cX3_divide 53 = .ok (.putfield 102, 3) := by decide +kernel
theorem dX3_divide_56 : decode cX3_divide 56 = .ok (.return_, 1) := by decide +kernel
theorem dX3_divide_57 : decode cX3_divide 57 = .ok (.aload_n 0, 1) := by decide +kernel
theorem dX3_divide_58 : decode cX3_divide 58 = .ok (.getfield 23, 3) := by decide +kernel
theorem dX3_divide_61 : decode cX3_divide 61 = .ok (.getfield 181, 3) := by decide +kernel
theorem dX3_divide_64 : decode cX3_divide 64 = .ok (.iload_n 1, 1) := by decide +kernel
theorem dX3_divide_65 : decode cX3_divide 65 = .ok (.iaload, 1) := by decide +kernel
theorem dX3_divide_66 : decode cX3_divide 66 = .ok (.bipush 16, 2) := by decide +kernel
theorem dX3_divide_68 : decode cX3_divide 68 = .ok (.ishl, 1) := by decide +kernel
theorem dX3_divide_69 : decode cX3_divide 69 = .ok (.aload_n 0, 1) := by decide +kernel
theorem dX3_divide_70 : decode cX3_divide 70 = .ok (.getfield 23, 3) := by decide +kernel
theorem dX3_divide_73 : decode cX3_divide 73 = .ok (.getfield 181, 3) := by decide +kernel
theorem dX3_divide_76 : decode cX3_divide 76 = .ok (.iload_n 1, 1) := by decide +kernel
theorem dX3_divide_77 : decode cX3_divide 77 = .ok (.iconst 1, 1) := by decide +kernel
theorem dX3_divide_78 : decode cX3_divide 78 = .ok (.ior, 1) := by decide +kernel
theorem dX3_divide_79 : decode cX3_divide 79 = .ok (.iaload, 1) := by decide +kernel
theorem dX3_divide_80 : decode cX3_divide 80 = .ok (.ior, 1) := by decide +kernel
theorem dX3_divide_81 : decode cX3_divide 81 = .ok (.i2l, 1) := by decide +kernel
theorem dX3_divide_82 : decode cX3_divide 82 = .ok (.lstore 4, 2) := by decide +kernel
theorem dX3_divide_84 : decode cX3_divide 84 = .ok (.lload 4, 2) := by decide +kernel
theorem dX3_divide_86 : decode cX3_divide 86 = .ok (.iload_n 3, 1) := by decide +kernel
theorem dX3_divide_87 : decode cX3_divide 87 = .ok (.i2l, 1) := by decide +kernel
theorem dX3_divide_88 : decode cX3_divide 88 = .ok (.ldiv, 1) := by decide +kernel
theorem dX3_divide_89 : decode cX3_divide 89 = .ok (.lstore 6, 2) := by decide +kernel
theorem dX3_divide_91 : decode cX3_divide 91 = .ok (.aload_n 0, 1) := by decide +kernel
theorem dX3_divide_92 : decode cX3_divide 92 = .ok (.getfield 12, 3) := by decide +kernel
theorem dX3_divide_95 : decode cX3_divide 95 = .ok (.iconst 0, 1) := by decide +kernel
theorem dX3_divide_96 : decode cX3_divide 96 = .ok (.putfield 102, 3) := by decide +kernel
theorem dX3_divide_99 : decode cX3_divide 99 = .ok (.aload_n 0, 1) := by decide +kernel
theorem dX3_divide_100 : decode cX3_divide 100 = .ok (.getfield 12, 3) := by decide +kernel
theorem dX3_divide_103 : decode cX3_divide 103 = .ok (.lload 6, 2) := by decide +kernel
theorem dX3_divide_105 : decode cX3_divide 105 = .ok (.invokestatic 185, 3) := by decide +kernel
theorem dX3_divide_108 : decode cX3_divide 108 = .ok (.ifCond .ne 7, 3) := by decide +kernel
theorem dX3_divide_111 : decode cX3_divide 111 = .ok (.iconst 1, 1) := by decide +kernel
theorem dX3_divide_112 : decode cX3_divide 112 = .ok (.goto 4, 3) := by decide +kernel
theorem dX3_divide_115 : decode cX3_divide 115 = .ok (.iconst 0, 1) := by decide +kernel
theorem dX3_divide_116 : decode cX3_divide 116 = .ok (.putfield 92, 3) := by decide +kernel
theorem dX3_divide_119 : decode cX3_divide 119 = .ok (.aload_n 0, 1) := by decide +kernel
theorem dX3_divide_120 : decode cX3_divide 120 = .ok (.getfield 12, 3) := by decide +kernel
theorem dX3_divide_123 : decode cX3_divide 123 = .ok (.getfield 92, 3) := by decide +kernel
theorem dX3_divide_126 : decode cX3_divide 126 = .ok (.ifCond .eq 4, 3) := by decide +kernel
theorem dX3_divide_129 : decode cX3_divide 129 = .ok (.return_, 1) := by decide +kernel
theorem dX3_divide_130 : decode cX3_divide 130 = .ok (.aload_n 0, 1) := by decide +kernel
theorem dX3_divide_131 : decode cX3_divide 131 = .ok (.getfield 12, 3) := by decide +kernel
theorem dX3_divide_134 : decode cX3_divide 134 = .ok (.lload 6, 2) := by decide +kernel
theorem dX3_divide_136 : decode cX3_divide 136 = .ok (.lconst 0, 1) := by decide +kernel
theorem dX3_divide_137 : decode cX3_divide 137 = .ok (.lcmp, 1) := by decide +kernel
theorem dX3_divide_138 : decode cX3_divide 138 = .ok (.ifCond .ge 7, 3) := by decide +kernel
theorem dX3_divide_141 : decode cX3_divide 141 = .ok (.iconst 1, 1) := by decide +kernel
theorem dX3_divide_142 : decode cX3_divide 142 = .ok (.goto 4, 3) := by decide +kernel
theorem dX3_divide_145 : decode cX3_divide 145 = .ok (.iconst 0, 1) := by decide +kernel
theorem dX3_divide_146 : decode cX3_divide 146 = .ok (.putfield 138, 3) := by decide +kernel
theorem dX3_divide_149 : decode cX3_divide 149 = .ok (.aload_n 0, 1) := by decide +kernel
theorem dX3_divide_150 : decode cX3_divide 150 = .ok (.getfield 12, 3) := by decide +kernel
theorem dX3_divide_153 : decode cX3_divide 153 = .ok (.lload 6, 2) := by decide +kernel
theorem dX3_divide_155 : decode cX3_divide 155 = .ok (.lconst 0, 1) := by decide +kernel
theorem dX3_divide_156 : decode cX3_divide 156 = .ok (.lcmp, 1) := by decide +kernel
theorem dX3_divide_157 : decode cX3_divide 157 = .ok (.ifCond .ne 7, 3) := by decide +kernel
theorem dX3_divide_160 : decode cX3_divide 160 = .ok (.iconst 1, 1) := by decide +kernel
theorem dX3_divide_161 : decode cX3_divide 161 = .ok (.goto 4, 3) := by decide +kernel
theorem dX3_divide_164 : decode cX3_divide 164 = .ok (.iconst 0, 1) := by decide +kernel
theorem dX3_divide_165 : decode cX3_divide 165 = .ok (.putfield 160, 3) := by decide +kernel
theorem dX3_divide_168 : decode cX3_divide 168 = .ok (.aload_n 0, 1) := by decide +kernel
theorem dX3_divide_169 : decode cX3_divide 169 = .ok (.getfield 23, 3) := by decide +kernel
theorem dX3_divide_172 : decode cX3_divide 172 = .ok (.getfield 181, 3) := by decide +kernel
theorem dX3_divide_175 : decode cX3_divide 175 = .ok (.iload_n 1, 1) := by decide +kernel
theorem dX3_divide_176 : decode cX3_divide 176 = .ok (.lload 6, 2) := by decide +kernel
theorem dX3_divide_178 : decode cX3_divide 178 = .ok (.ldc2_w 189, 3) := by decide +kernel
theorem dX3_divide_181 : decode cX3_divide 181 = .ok (.land, 1) := by decide +kernel
theorem dX3_divide_182 : decode cX3_divide 182 = .ok (.l2i, 1) := by decide +kernel
theorem dX3_divide_183 : decode cX3_divide 183 = .ok (.iastore, 1) := by decide +kernel
theorem dX3_divide_184 : decode cX3_divide 184 = .ok (.aload_n 0, 1) := by decide +kernel
theorem dX3_divide_185 : decode cX3_divide 185 = .ok (.getfield 23, 3) := by decide +kernel
theorem dX3_divide_188 : decode cX3_divide 188 = .ok (.getfield 181, 3) := by decide +kernel
theorem dX3_divide_191 : decode cX3_divide 191 = .ok (.iload_n 1, 1) := by decide +kernel
theorem dX3_divide_192 : decode cX3_divide 192 = .ok (.iconst 1, 1) := by decide +kernel
theorem dX3_divide_193 : decode cX3_divide 193 = .ok (.ior, 1) := by decide +kernel
theorem dX3_divide_194 : decode cX3_divide 194 = .ok (.lload 4, 2) := by decide +kernel
theorem dX3_divide_196 : decode cX3_divide 196 = .ok (.iload_n 3, 1) := by decide +kernel
theorem dX3_divide_197 : decode cX3_divide 197 = .ok (.i2l, 1) := by decide +kernel
theorem dX3_divide_198 : decode cX3_divide 198 = .ok (.lrem, 1) := by decide +kernel
theorem dX3_divide_199 : decode cX3_divide 199 = .ok (.ldc2_w 189, 3) := by decide +kernel
theorem dX3_divide_202 : decode cX3_divide 202 = .ok (.land, 1) := by decide +kernel
theorem dX3_divide_203 : decode cX3_divide 203 = .ok (.l2i, 1) := by decide +kernel
theorem dX3_divide_204 : decode cX3_divide 204 = .ok (.iastore, 1) := by decide +kernel
theorem dX3_divide_205 : decode cX3_divide 205 = .ok (.return_, 1) := by decide +kernel
theorem dX3_fitsWord_0 : decode cX3_fitsWord 0 = .ok (.lload_n 0, 1) := by decide +kernel
theorem dX3_fitsWord_1 : decode cX3_fitsWord 1 = .ok (.ldc2_w 191, 3) := by decide +kernel
theorem dX3_fitsWord_4 : decode cX3_fitsWord 4 = .ok (.lcmp, 1) := by decide +kernel
