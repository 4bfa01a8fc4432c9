theorem dX5_get_51 : decode cX5_get 51 = .ok (.aload_n 0, 1) := by decide +kernel
theorem dX5_get_52 : decode cX5_get 52 = .ok (.getfield 66, 3) := by decide +kernel
theorem dX5_get_55 : decode cX5_get 55 = .ok (.aload_n 0, 1) := by decide +kernel
theorem dX5_get_56 : decode cX5_get 56 = .ok (.getfield 59, 3) := by decide +kernel
theorem dX5_get_59 : decode cX5_get 59 = .ok (.invokevirtual 55, 3) := by decide +kernel
theorem dX5_get_62 : decode cX5_get 62 = .ok (.ireturn, 1) := by decide +kernel
theorem dX5_write_0 : decode cX5_write 0 = .ok (.aload_n 0, 1) := by decide +kernel
theorem dX5_write_1 : decode cX5_write 1 = .ok (.getfield 48, 3) := by decide +kernel
theorem dX5_write_4 : decode cX5_write 4 = .ok (.ifCond .le 4, 3) := by decide +kernel
theorem dX5_write_7 : decode cX5_write 7 = .ok (.return_, 1) := by decide +kernel
theorem dX5_write_8 : decode cX5_write 8 = .ok (.aload_n 0, 1) := by decide +kernel
theorem dX5_write_9 : decode cX5_write 9 = .ok (.getfield 63, 3) := by decide +kernel
theorem dX5_write_12 : decode cX5_write 12 = .ok (.iconst (-1), 1) := by decide +kernel
theorem dX5_write_13 : decode cX5_write 13 = .ok (.if_icmp .eq 45, 3) := by decide +kernel
theorem dX5_write_16 : decode cX5_write 16 = .ok (.aload_n 0, 1) := by decide +kernel
theorem dX5_write_17 : decode cX5_write 17 = .ok (.getfield 19, 3) := by decide +kernel
theorem dX5_write_20 : decode cX5_write 20 = .ok (.aload_n 0, 1) := by decide +kernel
theorem dX5_write_21 : decode cX5_write 21 = .ok (.getfield 63, 3) := by decide +kernel
theorem dX5_write_24 : decode cX5_write 24 = .ok (.aload_n 0, 1) := by decide +kernel
theorem dX5_write_25 : decode cX5_write 25 = .ok (.getfield 59, 3) := by decide +kernel
theorem dX5_write_28 : decode cX5_write 28 = .ok (.ifCond .eq 24, 3) := by decide +kernel
theorem dX5_write_31 : decode cX5_write 31 = .ok (.aload_n 0, 1) := by decide +kernel
theorem dX5_write_32 : decode cX5_write 32 = .ok (.getfield 19, 3) := by decide +kernel
theorem dX5_write_35 : decode cX5_write 35 = .ok (.aload_n 0, 1) := by decide +kernel
theorem dX5_write_36 : decode cX5_write 36 = .ok (.getfield 63, 3) := by decide +kernel
theorem dX5_write_39 : decode cX5_write 39 = .ok (.iaload, 1) := by decide +kernel
theorem dX5_write_40 : decode cX5_write 40 = .ok (.ldc 76, 2) := by decide +kernel
theorem dX5_write_42 : decode cX5_write 42 = .ok (.iand, 1) := by decide +kernel
theorem dX5_write_43 : decode cX5_write 43 = .ok (.iload_n 1, 1) := by decide +kernel
theorem dX5_write_44 : decode cX5_write 44 = .ok (.sipush 255, 3) := by decide +kernel
theorem dX5_write_47 : decode cX5_write 47 = .ok (.iand, 1) := by decide +kernel
theorem dX5_write_48 : decode cX5_write 48 = .ok (.ior, 1) := by decide +kernel
theorem dX5_write_49 : decode cX5_write 49 = .ok (.goto 7, 3) := by decide +kernel
theorem dX5_write_52 : decode cX5_write 52 = .ok (.iload_n 1, 1) := by decide +kernel
theorem dX5_write_53 : decode cX5_write 53 = .ok (.ldc 30, 2) := by decide +kernel
theorem dX5_write_55 : decode cX5_write 55 = .ok (.iand, 1) := by decide +kernel
theorem dX5_write_56 : decode cX5_write 56 = .ok (.iastore, 1) := by decide +kernel
theorem dX5_write_57 : decode cX5_write 57 = .ok (.return_, 1) := by decide +kernel
theorem dX5_write_58 : decode cX5_write 58 = .ok (.aload_n 0, 1) := by decide +kernel
theorem dX5_write_59 : decode cX5_write 59 = .ok (.aload_n 0, 1) := by decide +kernel
theorem dX5_write_60 : decode cX5_write 60 = .ok (.getfield 66, 3) := by decide +kernel
theorem dX5_write_63 : decode cX5_write 63 = .ok (.aload_n 0, 1) := by decide +kernel
theorem dX5_write_64 : decode cX5_write 64 = .ok (.getfield 59, 3) := by decide +kernel
theorem dX5_write_67 : decode cX5_write 67 = .ok (.invokevirtual 55, 3) := by decide +kernel
theorem dX5_write_70 : decode cX5_write 70 = .ok (.pop, 1) := by decide +kernel
theorem dX5_write_71 : decode cX5_write 71 = .ok (.aload_n 0, 1) := by decide +kernel
theorem dX5_write_72 : decode cX5_write 72 = .ok (.getfield 48, 3) := by decide +kernel
theorem dX5_write_75 : decode cX5_write 75 = .ok (.ifCond .ne 32, 3) := by decide +kernel
theorem dX5_write_78 : decode cX5_write 78 = .ok (.aload_n 0, 1) := by decide +kernel
theorem dX5_write_79 : decode cX5_write 79 = .ok (.aload_n 0, 1) := by decide +kernel
theorem dX5_write_80 : decode cX5_write 80 = .ok (.getfield 66, 3) := by decide +kernel
theorem dX5_write_83 : decode cX5_write 83 = .ok (.putfield 77, 3) := by decide +kernel
theorem dX5_write_86 : decode cX5_write 86 = .ok (.aload_n 0, 1) := by decide +kernel
theorem dX5_write_87 : decode cX5_write 87 = .ok (.aload_n 0, 1) := by decide +kernel
theorem dX5_write_88 : decode cX5_write 88 = .ok (.getfield 59, 3) := by decide +kernel
theorem dX5_write_91 : decode cX5_write 91 = .ok (.ifCond .eq 7, 3) := by decide +kernel
theorem dX5_write_94 : decode cX5_write 94 = .ok (.iconst 1, 1) := by decide +kernel
theorem dX5_write_95 : decode cX5_write 95 = .ok (.goto 4, 3) := by decide +kernel
theorem dX5_write_98 : decode cX5_write 98 = .ok (.iconst 2, 1) := by decide +kernel
theorem dX5_write_99 : decode cX5_write 99 = .ok (.putfield 80, 3) := by decide +kernel
theorem dX5_write_102 : decode cX5_write 102 = .ok (.aload_n 0, 1) := by decide +kernel
theorem dX5_write_103 : decode cX5_write 103 = .ok (.iload_n 1, 1) := by decide +kernel
theorem dX5_write_104 : decode cX5_write 104 = .ok (.putfield 83, 3) := by decide +kernel
theorem dX5_write_107 : decode cX5_write 107 = .ok (.return_, 1) := by decide +kernel
theorem dX5_mask_0 : decode cX5_mask 0 = .ok (.aload_n 0, 1) := by decide +kernel
theorem dX5_mask_1 : decode cX5_mask 1 = .ok (.getfield 59, 3) := by decide +kernel
theorem dX5_mask_4 : decode cX5_mask 4 = .ok (.ifCond .eq 9, 3) := by decide +kernel
theorem dX5_mask_7 : decode cX5_mask 7 = .ok (.sipush 255, 3) := by decide +kernel
theorem dX5_mask_10 : decode cX5_mask 10 = .ok (.goto 5, 3) := by decide +kernel
theorem dX5_mask_13 : decode cX5_mask 13 = .ok (.ldc 30, 2) := by decide +kernel
theorem dX5_mask_15 : decode cX5_mask 15 = .ok (.ireturn, 1) := by decide +kernel
theorem dX5_top_0 : decode cX5_top 0 = .ok (.aload_n 0, 1) := by decide +kernel
theorem dX5_top_1 : decode cX5_top 1 = .ok (.getfield 59, 3) := by decide +kernel
theorem dX5_top_4 : decode cX5_top 4 = .ok (.ifCond .eq 9, 3) := by decide +kernel
theorem dX5_top_7 : decode cX5_top 7 = .ok (.sipush 128, 3) := by decide +kernel
theorem dX5_top_10 : decode cX5_top 10 = .ok (.goto 5, 3) := by decide +kernel
theorem dX5_top_13 : decode cX5_top 13 = .ok (.ldc 86, 2) := by decide +kernel
theorem dX5_top_15 : decode cX5_top 15 = .ok (.ireturn, 1) := by decide +kernel
theorem dX5_negative_0 : decode cX5_negative 0 = .ok (.iload_n 1, 1) := by decide +kernel
theorem dX5_negative_1 : decode cX5_negative 1 = .ok (.aload_n 0, 1) := by decide +kernel
theorem dX5_negative_2 : decode cX5_negative 2 = .ok (.invokevirtual 87, 3) := by decide +kernel
theorem dX5_negative_5 : decode cX5_negative 5 = .ok (.iand, 1) := by decide +kernel
theorem dX5_negative_6 : decode cX5_negative 6 = .ok (.ifCond .eq 7, 3) := by decide +kernel
theorem dX5_negative_9 : decode cX5_negative 9 = .ok (.iconst 1, 1) := by decide +kernel
theorem dX5_negative_10 : decode cX5_negative 10 = .ok (.goto 4, 3) := by decide +kernel
theorem dX5_negative_13 : decode cX5_negative 13 = .ok (.iconst 0, 1) := by decide +kernel
theorem dX5_negative_14 : decode cX5_negative 14 = .ok (.ireturn, 1) := by decide +kernel
theorem dX5_set_0 : decode cX5_set 0 = .ok (.aload_n 0, 1) := by decide +kernel
theorem dX5_set_1 : decode cX5_set 1 = .ok (.iload_n 1, 1) := by decide +kernel
theorem dX5_set_2 : decode cX5_set 2 = .ok (.ifCond .eq 8, 3) := by decide +kernel
theorem dX5_set_5 : decode cX5_set 5 = .ok (.bipush 8, 2) := by decide +kernel
theorem dX5_set_7 : decode cX5_set 7 = .ok (.goto 4, 3) := by decide +kernel
theorem dX5_set_10 : decode cX5_set 10 = .ok (.iconst 0, 1) := by decide +kernel
theorem dX5_set_11 : decode cX5_set 11 = .ok (.iload_n 2, 1) := by decide +kernel
theorem dX5_set_12 : decode cX5_set 12 = .ok (.ifCond .eq 7, 3) := by decide +kernel
theorem dX5_set_15 : decode cX5_set 15 = .ok (.iconst 4, 1) := by decide +kernel
theorem dX5_set_16 : decode cX5_set 16 = .ok (.goto 4, 3) := by decide +kernel
theorem dX5_set_19 : decode cX5_set 19 = .ok (.iconst 0, 1) := by decide +kernel
theorem dX5_set_20 : decode cX5_set 20 = .ok (.iadd, 1) := by decide +kernel
theorem dX5_set_21 : decode cX5_set 21 = .ok (.iload_n 3, 1) := by decide +kernel
theorem dX5_set_22 : decode cX5_set 22 = .ok (.ifCond .eq 7, 3) := by decide +kernel
theorem dX5_set_25 : decode cX5_set 25 = .ok (.iconst 2, 1) := by decide +kernel
theorem dX5_set_26 : decode cX5_set 26 = .ok (.goto 4, 3) := by decide +kernel
theorem dX5_set_29 : decode cX5_set 29 = .ok (.iconst 0, 1) := by decide +kernel
theorem dX5_set_30 : decode cX5_set 30 = .ok (.iadd, 1) := by decide +kernel
theorem dX5_set_31 : decode cX5_set 31 = .ok (.iload 4, 2) := by decide +kernel
theorem dX5_set_33 : decode cX5_set 33 = .ok (.ifCond .eq 7, 3) := by decide +kernel
theorem dX5_set_36 : decode cX5_set 36 = .ok (.iconst 1, 1) := by decide +kernel
theorem dX5_set_37 : decode cX5_set 37 = .ok (.goto 4, 3) := by decide +kernel
theorem dX5_set_40 : decode cX5_set 40 = .ok (.iconst 0, 1) := by decide +kernel
theorem dX5_set_41 : decode cX5_set 41 = .ok (.iadd, 1) := by decide +kernel
theorem dX5_set_42 : decode cX5_set 42 = .ok (.putfield 90, 3) := by decide +kernel
theorem dX5_set_45 : decode cX5_set 45 = .ok (.return_, 1) := by decide +kernel
theorem dX5_setBy_0 : decode cX5_setBy 0 = .ok (.aload_n 0, 1) := by decide +kernel
theorem dX5_setBy_1 : decode cX5_setBy 1 = .ok (.aload_n 0, 1) := by decide +kernel
theorem dX5_setBy_2 : decode cX5_setBy 2 = .ok (.iload_n 1, 1) := by decide +kernel
theorem dX5_setBy_3 : decode cX5_setBy 3 = .ok (.invokevirtual 93, 3) := by decide +kernel
theorem dX5_setBy_6 : decode cX5_setBy 6 = .ok (.iload_n 1, 1) := by decide +kernel
theorem dX5_setBy_7 : decode cX5_setBy 7 = .ok (.aload_n 0, 1) := by decide +kernel
theorem dX5_setBy_8 : decode cX5_setBy 8 = .ok (.invokevirtual 96, 3) := by decide +kernel
theorem dX5_setBy_11 : decode cX5_setBy 11 = .ok (.iand, 1) := by decide +kernel
theorem dX5_setBy_12 : decode cX5_setBy 12 = .ok (.ifCond .ne 7, 3) := by decide +kernel
theorem dX5_setBy_15 : decode cX5_setBy 15 = .ok (.iconst 1, 1) := by decide +kernel
theorem dX5_setBy_16 : decode cX5_setBy 16 = .ok (.goto 4, 3) := by decide +kernel
theorem dX5_setBy_19 : decode cX5_setBy 19 = .ok (.iconst 0, 1) := by decide +kernel
theorem dX5_setBy_20 : decode cX5_setBy 20 = .ok (.iload_n 2, 1) := by decide +kernel
theorem dX5_setBy_21 : decode cX5_setBy 21 = .ok (.iload_n 3, 1) := by decide +kernel
theorem dX5_setBy_22 : decode cX5_setBy 22 = .ok (.invokevirtual 99, 3) := by decide +kernel
theorem dX5_setBy_25 : decode cX5_setBy 25 = .ok (.return_, 1) := by decide +kernel
theorem dX5_has_0 : decode cX5_has 0 = .ok (.aload_n 0, 1) := by decide +kernel
theorem dX5_has_1 : decode cX5_has 1 = .ok (.getfield 90, 3) := by decide +kernel
theorem dX5_has_4 : decode cX5_has 4 = .ok (.iload_n 1, 1) := by decide +kernel
theorem dX5_has_5 : decode cX5_has 5 = .ok (.iand, 1) := by decide +kernel
theorem dX5_has_6 : decode cX5_has 6 = .ok (.ifCond .eq 7, 3) := by decide +kernel
theorem dX5_has_9 : decode cX5_has 9 = .ok (.iconst 1, 1) := by decide +kernel
theorem dX5_has_10 : decode cX5_has 10 = .ok (.goto 4, 3) := by decide +kernel
theorem dX5_has_13 : decode cX5_has 13 = .ok (.iconst 0, 1) := by decide +kernel
theorem dX5_has_14 : decode cX5_has 14 = .ok (.ireturn, 1) := by decide +kernel
theorem dX5_two_0 : decode cX5_two 0 = .ok (.aload_n 0, 1) := by decide +kernel
theorem dX5_two_1 : decode cX5_two 1 = .ok (.iload_n 2, 1) := by decide +kernel
theorem dX5_two_2 : decode cX5_two 2 = .ok (.bipush 6, 2) := by decide +kernel
theorem dX5_two_4 : decode cX5_two 4 = .ok (.ishr, 1) := by decide +kernel
theorem dX5_two_5 : decode cX5_two 5 = .ok (.bipush 63, 2) := by decide +kernel
theorem dX5_two_7 : decode cX5_two 7 = .ok (.iand, 1) := by decide +kernel
theorem dX5_two_8 : decode cX5_two 8 = .ok (.invokevirtual 103, 3) := by decide +kernel
theorem dX5_two_11 : decode cX5_two 11 = .ok (.aload_n 0, 1) := by decide +kernel
theorem dX5_two_12 : decode cX5_two 12 = .ok (.invokevirtual 106, 3) := by decide +kernel
theorem dX5_two_15 : decode cX5_two 15 = .ok (.istore_n 3, 1) := by decide +kernel
theorem dX5_two_16 : decode cX5_two 16 = .ok (.aload_n 0, 1) := by decide +kernel
theorem dX5_two_17 : decode cX5_two 17 = .ok (.iload_n 2, 1) := by decide +kernel
theorem dX5_two_18 : decode cX5_two 18 = .ok (.bipush 63, 2) := by decide +kernel
theorem dX5_two_20 : decode cX5_two 20 = .ok (.iand, 1) := by decide +kernel
theorem dX5_two_21 : decode cX5_two 21 = .ok (.invokevirtual 103, 3) := by decide +kernel
theorem dX5_two_24 : decode cX5_two 24 = .ok (.iload_n 1, 1) := by decide +kernel
theorem dX5_two_25 : decode cX5_two 25 = .ok (.iconst 1, 1) := by decide +kernel
theorem dX5_two_26 : decode cX5_two 26 = .ok (.if_icmp .ne 7, 3) := by decide +kernel
theorem dX5_two_29 : decode cX5_two 29 = .ok (.iconst 0, 1) := by decide +kernel
theorem dX5_two_30 : decode cX5_two 30 = .ok (.goto 7, 3) := by decide +kernel
theorem dX5_two_33 : decode cX5_two 33 = .ok (.aload_n 0, 1) := by decide +kernel
theorem dX5_two_34 : decode cX5_two 34 = .ok (.invokevirtual 106, 3) := by decide +kernel
theorem dX5_two_37 : decode cX5_two 37 = .ok (.istore 4, 2) := by decide +kernel
theorem dX5_two_39 : decode cX5_two 39 = .ok (.aload_n 0, 1) := by decide +kernel
theorem dX5_two_40 : decode cX5_two 40 = .ok (.iconst 1, 1) := by decide +kernel
theorem dX5_two_41 : decode cX5_two 41 = .ok (.invokevirtual 109, 3) := by decide +kernel
theorem dX5_two_44 : decode cX5_two 44 = .ok (.istore 5, 2) := by decide +kernel
theorem dX5_two_46 : decode cX5_two 46 = .ok (.iload_n 1, 1) := by decide +kernel
theorem dX5_two_47 : decode cX5_two 47 = .ok (.iconst 1, 1) := by decide +kernel
theorem dX5_two_48 : decode cX5_two 48 = .ok (.if_icmp .ne 7, 3) := by decide +kernel
theorem dX5_two_51 : decode cX5_two 51 = .ok (.iload_n 3, 1) := by decide +kernel
theorem dX5_two_52 : decode cX5_two 52 = .ok (.goto 50, 3) := by decide +kernel
theorem dX5_two_55 : decode cX5_two 55 = .ok (.iload_n 1, 1) := by decide +kernel
theorem dX5_two_56 : decode cX5_two 56 = .ok (.iconst 2, 1) := by decide +kernel
theorem dX5_two_57 : decode cX5_two 57 = .ok (.if_icmp .ne 15, 3) := by decide +kernel
theorem dX5_two_60 : decode cX5_two 60 = .ok (.iload_n 3, 1) := by decide +kernel
theorem dX5_two_61 : decode cX5_two 61 = .ok (.iload 4, 2) := by decide +kernel
theorem dX5_two_63 : decode cX5_two 63 = .ok (.isub, 1) := by decide +kernel
theorem dX5_two_64 : decode cX5_two 64 = .ok (.aload_n 0, 1) := by decide +kernel
theorem dX5_two_65 : decode cX5_two 65 = .ok (.invokevirtual 96, 3) := by decide +kernel
theorem dX5_two_68 : decode cX5_two 68 = .ok (.iand, 1) := by decide +kernel
theorem dX5_two_69 : decode cX5_two 69 = .ok (.goto 33, 3) := by decide +kernel
theorem dX5_two_72 : decode cX5_two 72 = .ok (.iload_n 1, 1) := by decide +kernel
theorem dX5_two_73 : decode cX5_two 73 = .ok (.iconst 3, 1) := by decide +kernel
theorem dX5_two_74 : decode cX5_two 74 = .ok (.if_icmp .ne 10, 3) := by decide +kernel
theorem dX5_two_77 : decode cX5_two 77 = .ok (.iload_n 3, 1) := by decide +kernel
theorem dX5_two_78 : decode cX5_two 78 = .ok (.iload 4, 2) := by decide +kernel
theorem dX5_two_80 : decode cX5_two 80 = .ok (.iand, 1) := by decide +kernel
theorem dX5_two_81 : decode cX5_two 81 = .ok (.goto 21, 3) := by decide +kernel
theorem dX5_two_84 : decode cX5_two 84 = .ok (.iload_n 1, 1) := by decide +kernel
theorem dX5_two_85 : decode cX5_two 85 = .ok (.iconst 4, 1) := by decide +kernel
theorem dX5_two_86 : decode cX5_two 86 = .ok (.if_icmp .ne 12, 3) := by decide +kernel
theorem dX5_two_89 : decode cX5_two 89 = .ok (.iload 4, 2) := by decide +kernel
theorem dX5_two_91 : decode cX5_two 91 = .ok (.iload_n 3, 1) := by decide +kernel
theorem dX5_two_92 : decode cX5_two 92 = .ok (.iconst (-1), 1) := by decide +kernel
theorem dX5_two_93 : decode cX5_two 93 = .ok (.ixor, 1) := by decide +kernel
theorem dX5_two_94 : decode cX5_two 94 = .ok (.iand, 1) := by decide +kernel
theorem dX5_two_95 : decode cX5_two 95 = .ok (.goto 7, 3) := by decide +kernel
theorem dX5_two_98 : decode cX5_two 98 = .ok (.iload_n 3, 1) := by decide +kernel
theorem dX5_two_99 : decode cX5_two 99 = .ok (.iload 4, 2) := by decide +kernel
theorem dX5_two_101 : decode cX5_two 101 = .ok (.ior, 1) := by decide +kernel
theorem dX5_two_102 : decode cX5_two 102 = .ok (.istore 6, 2) := by decide +kernel
theorem dX5_two_104 : decode cX5_two 104 = .ok (.iload_n 1, 1) := by decide +kernel
theorem dX5_two_105 : decode cX5_two 105 = .ok (.iconst 2, 1) := by decide +kernel
theorem dX5_two_106 : decode cX5_two 106 = .ok (.if_icmp .ne 57, 3) := by decide +kernel
theorem dX5_two_109 : decode cX5_two 109 = .ok (.aload_n 0, 1) := by decide +kernel
theorem dX5_two_110 : decode cX5_two 110 = .ok (.iload 6, 2) := by decide +kernel
theorem dX5_two_112 : decode cX5_two 112 = .ok (.aload_n 0, 1) := by decide +kernel
theorem dX5_two_113 : decode cX5_two 113 = .ok (.iload_n 3, 1) := by decide +kernel
theorem dX5_two_114 : decode cX5_two 114 = .ok (.invokevirtual 93, 3) := by decide +kernel
theorem dX5_two_117 : decode cX5_two 117 = .ok (.aload_n 0, 1) := by decide +kernel
theorem dX5_two_118 : decode cX5_two 118 = .ok (.iload 4, 2) := by decide +kernel
theorem dX5_two_120 : decode cX5_two 120 = .ok (.invokevirtual 93, 3) := by decide +kernel
theorem dX5_two_123 : decode cX5_two 123 = .ok (.if_icmp .eq 22, 3) := by decide +kernel
theorem dX5_two_126 : decode cX5_two 126 = .ok (.aload_n 0, 1) := by decide +kernel
theorem dX5_two_127 : decode cX5_two 127 = .ok (.iload 6, 2) := by decide +kernel
theorem dX5_two_129 : decode cX5_two 129 = .ok (.invokevirtual 93, 3) := by decide +kernel
theorem dX5_two_132 : decode cX5_two 132 = .ok (.aload_n 0, 1) := by decide +kernel
theorem dX5_two_133 : decode cX5_two 133 = .ok (.iload 4, 2) := by decide +kernel
theorem dX5_two_135 : decode cX5_two 135 = .ok (.invokevirtual 93, 3) := by decide +kernel
theorem dX5_two_138 : decode cX5_two 138 = .ok (.if_icmp .ne 7, 3) := by decide +kernel
theorem dX5_two_141 : decode cX5_two 141 = .ok (.iconst 1, 1) := by decide +kernel
theorem dX5_two_142 : decode cX5_two 142 = .ok (.goto 4, 3) := by decide +kernel
theorem dX5_two_145 : decode cX5_two 145 = .ok (.iconst 0, 1) := by decide +kernel
theorem dX5_two_146 : decode cX5_two 146 = .ok (.iload_n 3, 1) := by decide +kernel
theorem dX5_two_147 : decode cX5_two 147 = .ok (.iload 4, 2) := by decide +kernel
theorem dX5_two_149 : decode cX5_two 149 = .ok (.if_icmp .ge 7, 3) := by decide +kernel
theorem dX5_two_152 : decode cX5_two 152 = .ok (.iconst 1, 1) := by decide +kernel
theorem dX5_two_153 : decode cX5_two 153 = .ok (.goto 4, 3) := by decide +kernel
theorem dX5_two_156 : decode cX5_two 156 = .ok (.iconst 0, 1) := by decide +kernel
theorem dX5_two_157 : decode cX5_two 157 = .ok (.invokevirtual 112, 3) := by decide +kernel
theorem dX5_two_160 : decode cX5_two 160 = .ok (.goto 12, 3) := by decide +kernel
theorem dX5_two_163 : decode cX5_two 163 = .ok (.aload_n 0, 1) := by decide +kernel
theorem dX5_two_164 : decode cX5_two 164 = .ok (.iload 6, 2) := by decide +kernel
theorem dX5_two_166 : decode cX5_two 166 = .ok (.iconst 0, 1) := by decide +kernel
theorem dX5_two_167 : decode cX5_two 167 = .ok (.iload 5, 2) := by decide +kernel
theorem dX5_two_169 : decode cX5_two 169 = .ok (.invokevirtual 112, 3) := by decide +kernel
theorem dX5_two_172 : decode cX5_two 172 = .ok (.iload_n 1, 1) := by decide +kernel
theorem dX5_two_173 : decode cX5_two 173 = .ok (.iconst 1, 1) := by decide +kernel
theorem dX5_two_174 : decode cX5_two 174 = .ok (.if_icmp .ne 46, 3) := by decide +kernel
theorem dX5_two_177 : decode cX5_two 177 = .ok (.aload_n 0, 1) := by decide +kernel
theorem dX5_two_178 : decode cX5_two 178 = .ok (.getfield 59, 3) := by decide +kernel
theorem dX5_two_181 : decode cX5_two 181 = .ok (.ifCond .eq 39, 3) := by decide +kernel
theorem dX5_two_184 : decode cX5_two 184 = .ok (.aload_n 0, 1) := by decide +kernel
theorem dX5_two_185 : decode cX5_two 185 = .ok (.getfield 63, 3) := by decide +kernel
theorem dX5_two_188 : decode cX5_two 188 = .ok (.iconst (-1), 1) := by decide +kernel
theorem dX5_two_189 : decode cX5_two 189 = .ok (.if_icmp .eq 31, 3) := by decide +kernel
theorem dX5_two_192 : decode cX5_two 192 = .ok (.aload_n 0, 1) := by decide +kernel
theorem dX5_two_193 : decode cX5_two 193 = .ok (.getfield 19, 3) := by decide +kernel
theorem dX5_two_196 : decode cX5_two 196 = .ok (.aload_n 0, 1) := by decide +kernel
theorem dX5_two_197 : decode cX5_two 197 = .ok (.getfield 63, 3) := by decide +kernel
theorem dX5_two_200 : decode cX5_two 200 = .ok (.aload_n 0, 1) := by decide +kernel
theorem dX5_two_201 : decode cX5_two 201 = .ok (.iload_n 3, 1) := by decide +kernel
theorem dX5_two_202 : decode cX5_two 202 = .ok (.invokevirtual 93, 3) := by decide +kernel
theorem dX5_two_205 : decode cX5_two 205 = .ok (.ifCond .eq 10, 3) := by decide +kernel
theorem dX5_two_208 : decode cX5_two 208 = .ok (.iload_n 3, 1) := by decide +kernel
theorem dX5_two_209 : decode cX5_two 209 = .ok (.ldc 76, 2) := by decide +kernel
theorem dX5_two_211 : decode cX5_two 211 = .ok (.ior, 1) := by decide +kernel
theorem dX5_two_212 : decode cX5_two 212 = .ok (.goto 4, 3) := by decide +kernel
theorem dX5_two_215 : decode cX5_two 215 = .ok (.iload_n 3, 1) := by decide +kernel
theorem dX5_two_216 : decode cX5_two 216 = .ok (.iastore, 1) := by decide +kernel
theorem dX5_two_217 : decode cX5_two 217 = .ok (.goto 19, 3) := by decide +kernel
theorem dX5_two_220 : decode cX5_two 220 = .ok (.iload_n 1, 1) := by decide +kernel
theorem dX5_two_221 : decode cX5_two 221 = .ok (.iconst 2, 1) := by decide +kernel
theorem dX5_two_222 : decode cX5_two 222 = .ok (.if_icmp .eq 14, 3) := by decide +kernel
theorem dX5_two_225 : decode cX5_two 225 = .ok (.iload_n 1, 1) := by decide +kernel
theorem dX5_two_226 : decode cX5_two 226 = .ok (.iconst 3, 1) := by decide +kernel
theorem dX5_two_227 : decode cX5_two 227 = .ok (.if_icmp .eq 9, 3) := by decide +kernel
theorem dX5_two_230 : decode cX5_two 230 = .ok (.aload_n 0, 1) := by decide +kernel
theorem dX5_two_231 : decode cX5_two 231 = .ok (.iload 6, 2) := by decide +kernel
theorem dX5_two_233 : decode cX5_two 233 = .ok (.invokevirtual 116, 3) := by decide +kernel
theorem dX5_two_236 : decode cX5_two 236 = .ok (.return_, 1) := by decide +kernel
theorem dX5_sum_0 : decode cX5_sum 0 = .ok (.aload_n 0, 1) := by decide +kernel
theorem dX5_sum_1 : decode cX5_sum 1 = .ok (.iload_n 1, 1) := by decide +kernel
theorem dX5_sum_2 : decode cX5_sum 2 = .ok (.bipush 6, 2) := by decide +kernel
theorem dX5_sum_4 : decode cX5_sum 4 = .ok (.ishr, 1) := by decide +kernel
theorem dX5_sum_5 : decode cX5_sum 5 = .ok (.bipush 63, 2) := by decide +kernel
theorem dX5_sum_7 : decode cX5_sum 7 = .ok (.iand, 1) := by decide +kernel
theorem dX5_sum_8 : decode cX5_sum 8 = .ok (.invokevirtual 103, 3) := by decide +kernel
theorem dX5_sum_11 : decode cX5_sum 11 = .ok (.aload_n 0, 1) := by decide +kernel
theorem dX5_sum_12 : decode cX5_sum 12 = .ok (.invokevirtual 106, 3) := by decide +kernel
theorem dX5_sum_15 : decode cX5_sum 15 = .ok (.istore_n 3, 1) := by decide +kernel
theorem dX5_sum_16 : decode cX5_sum 16 = .ok (.aload_n 0, 1) := by decide +kernel
theorem dX5_sum_17 : decode cX5_sum 17 = .ok (.iload_n 1, 1) := by decide +kernel
theorem dX5_sum_18 : decode cX5_sum 18 = .ok (.bipush 63, 2) := by decide +kernel
theorem dX5_sum_20 : decode cX5_sum 20 = .ok (.iand, 1) := by decide +kernel
theorem dX5_sum_21 : decode cX5_sum 21 = .ok (.invokevirtual 103, 3) := by decide +kernel
theorem dX5_sum_24 : decode cX5_sum 24 = .ok (.aload_n 0, 1) := by decide +kernel
theorem dX5_sum_25 : decode cX5_sum 25 = .ok (.invokevirtual 106, 3) := by decide +kernel
theorem dX5_sum_28 : decode cX5_sum 28 = .ok (.istore 4, 2) := by decide +kernel
theorem dX5_sum_30 : decode cX5_sum 30 = .ok (.iload_n 2, 1) := by decide +kernel
theorem dX5_sum_31 : decode cX5_sum 31 = .ok (.ifCond .eq 10, 3) := by decide +kernel
theorem dX5_sum_34 : decode cX5_sum 34 = .ok (.iload 4, 2) := by decide +kernel
theorem dX5_sum_36 : decode cX5_sum 36 = .ok (.iload_n 3, 1) := by decide +kernel
theorem dX5_sum_37 : decode cX5_sum 37 = .ok (.isub, 1) := by decide +kernel
theorem dX5_sum_38 : decode cX5_sum 38 = .ok (.goto 7, 3) := by decide +kernel
theorem dX5_sum_41 : decode cX5_sum 41 = .ok (.iload 4, 2) := by decide +kernel
theorem dX5_sum_43 : decode cX5_sum 43 = .ok (.iload_n 3, 1) := by decide +kernel
theorem dX5_sum_44 : decode cX5_sum 44 = .ok (.iadd, 1) := by decide +kernel
theorem dX5_sum_45 : decode cX5_sum 45 = .ok (.ldc 30, 2) := by decide +kernel
theorem dX5_sum_47 : decode cX5_sum 47 = .ok (.iand, 1) := by decide +kernel
theorem dX5_sum_48 : decode cX5_sum 48 = .ok (.istore 5, 2) := by decide +kernel
theorem dX5_sum_50 : decode cX5_sum 50 = .ok (.iload_n 2, 1) := by decide +kernel
theorem dX5_sum_51 : decode cX5_sum 51 = .ok (.ifCond .eq 56, 3) := by decide +kernel
theorem dX5_sum_54 : decode cX5_sum 54 = .ok (.aload_n 0, 1) := by decide +kernel
theorem dX5_sum_55 : decode cX5_sum 55 = .ok (.iload 5, 2) := by decide +kernel
theorem dX5_sum_57 : decode cX5_sum 57 = .ok (.aload_n 0, 1) := by decide +kernel
theorem dX5_sum_58 : decode cX5_sum 58 = .ok (.iload_n 3, 1) := by decide +kernel
theorem dX5_sum_59 : decode cX5_sum 59 = .ok (.invokevirtual 93, 3) := by decide +kernel
theorem dX5_sum_62 : decode cX5_sum 62 = .ok (.aload_n 0, 1) := by decide +kernel
theorem dX5_sum_63 : decode cX5_sum 63 = .ok (.iload 4, 2) := by decide +kernel
theorem dX5_sum_65 : decode cX5_sum 65 = .ok (.invokevirtual 93, 3) := by decide +kernel
theorem dX5_sum_68 : decode cX5_sum 68 = .ok (.if_icmp .eq 21, 3) := by decide +kernel
theorem dX5_sum_71 : decode cX5_sum 71 = .ok (.aload_n 0, 1) := by decide +kernel
theorem dX5_sum_72 : decode cX5_sum 72 = .ok (.iload 5, 2) := by decide +kernel
theorem dX5_sum_74 : decode cX5_sum 74 = .ok (.invokevirtual 93, 3) := by decide +kernel
theorem dX5_sum_77 : decode cX5_sum 77 = .ok (.aload_n 0, 1) := by decide +kernel
theorem dX5_sum_78 : decode cX5_sum 78 = .ok (.iload_n 3, 1) := by decide +kernel
theorem dX5_sum_79 : decode cX5_sum 79 = .ok (.invokevirtual 93, 3) := by decide +kernel
theorem dX5_sum_82 : decode cX5_sum 82 = .ok (.if_icmp .ne 7, 3) := by decide +kernel
theorem dX5_sum_85 : decode cX5_sum 85 = .ok (.iconst 1, 1) := by decide +kernel
theorem dX5_sum_86 : decode cX5_sum 86 = .ok (.goto 4, 3) := by decide +kernel
theorem dX5_sum_89 : decode cX5_sum 89 = .ok (.iconst 0, 1) := by decide +kernel
theorem dX5_sum_90 : decode cX5_sum 90 = .ok (.iload 4, 2) := by decide +kernel
theorem dX5_sum_92 : decode cX5_sum 92 = .ok (.iload_n 3, 1) := by decide +kernel
theorem dX5_sum_93 : decode cX5_sum 93 = .ok (.if_icmp .ge 7, 3) := by decide +kernel
theorem dX5_sum_96 : decode cX5_sum 96 = .ok (.iconst 1, 1) := by decide +kernel
theorem dX5_sum_97 : decode cX5_sum 97 = .ok (.goto 4, 3) := by decide +kernel
theorem dX5_sum_100 : decode cX5_sum 100 = .ok (.iconst 0, 1) := by decide +kernel
theorem dX5_sum_101 : decode cX5_sum 101 = .ok (.invokevirtual 112, 3) := by decide +kernel
theorem dX5_sum_104 : decode cX5_sum 104 = .ok (.goto 56, 3) := by decide +kernel
theorem dX5_sum_107 : decode cX5_sum 107 = .ok (.aload_n 0, 1) := by decide +kernel
theorem dX5_sum_108 : decode cX5_sum 108 = .ok (.iload 5, 2) := by decide +kernel
theorem dX5_sum_110 : decode cX5_sum 110 = .ok (.aload_n 0, 1) := by decide +kernel
theorem dX5_sum_111 : decode cX5_sum 111 = .ok (.iload_n 3, 1) := by decide +kernel
theorem dX5_sum_112 : decode cX5_sum 112 = .ok (.invokevirtual 93, 3) := by decide +kernel
theorem dX5_sum_115 : decode cX5_sum 115 = .ok (.aload_n 0, 1) := by decide +kernel
theorem dX5_sum_116 : decode cX5_sum 116 = .ok (.iload 4, 2) := by decide +kernel
theorem dX5_sum_118 : decode cX5_sum 118 = .ok (.invokevirtual 93, 3) := by decide +kernel
theorem dX5_sum_121 : decode cX5_sum 121 = .ok (.if_icmp .ne 21, 3) := by decide +kernel
theorem dX5_sum_124 : decode cX5_sum 124 = .ok (.aload_n 0, 1) := by decide +kernel
theorem dX5_sum_125 : decode cX5_sum 125 = .ok (.iload 5, 2) := by decide +kernel
theorem dX5_sum_127 : decode cX5_sum 127 = .ok (.invokevirtual 93, 3) := by decide +kernel
theorem dX5_sum_130 : decode cX5_sum 130 = .ok (.aload_n 0, 1) := by decide +kernel
theorem dX5_sum_131 : decode cX5_sum 131 = .ok (.iload_n 3, 1) := by decide +kernel
theorem dX5_sum_132 : decode cX5_sum 132 = .ok (.invokevirtual 93, 3) := by decide +kernel
theorem dX5_sum_135 : decode cX5_sum 135 = .ok (.if_icmp .eq 7, 3) := by decide +kernel
theorem dX5_sum_138 : decode cX5_sum 138 = .ok (.iconst 1, 1) := by decide +kernel
theorem dX5_sum_139 : decode cX5_sum 139 = .ok (.goto 4, 3) := by decide +kernel
theorem dX5_sum_142 : decode cX5_sum 142 = .ok (.iconst 0, 1) := by decide +kernel
theorem dX5_sum_143 : decode cX5_sum 143 = .ok (.iload_n 3, 1) := by decide +kernel
theorem dX5_sum_144 : decode cX5_sum 144 = .ok (.iload 4, 2) := by decide +kernel
theorem dX5_sum_146 : decode cX5_sum 146 = .ok (.iadd, 1) := by decide +kernel
theorem dX5_sum_147 : decode cX5_sum 147 = .ok (.ldc 30, 2) := by decide +kernel
theorem dX5_sum_149 : decode cX5_sum 149 = .ok (.if_icmp .le 7, 3) := by decide +kernel
theorem dX5_sum_152 : decode cX5_sum 152 = .ok (.iconst 1, 1) := by decide +kernel
theorem dX5_sum_153 : decode cX5_sum 153 = .ok (.goto 4, 3) := by decide +kernel
theorem dX5_sum_156 : decode cX5_sum 156 = .ok (.iconst 0, 1) := by decide +kernel
theorem dX5_sum_157 : decode cX5_sum 157 = .ok (.invokevirtual 112, 3) := by decide +kernel
theorem dX5_sum_160 : decode cX5_sum 160 = .ok (.aload_n 0, 1) := by decide +kernel
theorem dX5_sum_161 : decode cX5_sum 161 = .ok (.iload 5, 2) := by decide +kernel
theorem dX5_sum_163 : decode cX5_sum 163 = .ok (.invokevirtual 116, 3) := by decide +kernel
theorem dX5_sum_166 : decode cX5_sum 166 = .ok (.return_, 1) := by decide +kernel
theorem dX5_one_0 : decode cX5_one 0 = .ok (.aload_n 0, 1) := by decide +kernel
theorem dX5_one_1 : decode cX5_one 1 = .ok (.iload_n 2, 1) := by decide +kernel
theorem dX5_one_2 : decode cX5_one 2 = .ok (.bipush 63, 2) := by decide +kernel
theorem dX5_one_4 : decode cX5_one 4 = .ok (.iand, 1) := by decide +kernel
theorem dX5_one_5 : decode cX5_one 5 = .ok (.invokevirtual 103, 3) := by decide +kernel
theorem dX5_one_8 : decode cX5_one 8 = .ok (.aload_n 0, 1) := by decide +kernel
theorem dX5_one_9 : decode cX5_one 9 = .ok (.invokevirtual 106, 3) := by decide +kernel
theorem dX5_one_12 : decode cX5_one 12 = .ok (.istore_n 3, 1) := by decide +kernel
theorem dX5_one_13 : decode cX5_one 13 = .ok (.aload_n 0, 1) := by decide +kernel
theorem dX5_one_14 : decode cX5_one 14 = .ok (.iconst 1, 1) := by decide +kernel
theorem dX5_one_15 : decode cX5_one 15 = .ok (.invokevirtual 109, 3) := by decide +kernel
theorem dX5_one_18 : decode cX5_one 18 = .ok (.istore 4, 2) := by decide +kernel
theorem dX5_one_20 : decode cX5_one 20 = .ok (.aload_n 0, 1) := by decide +kernel
theorem dX5_one_21 : decode cX5_one 21 = .ok (.invokevirtual 87, 3) := by decide +kernel
theorem dX5_one_24 : decode cX5_one 24 = .ok (.istore 5, 2) := by decide +kernel
theorem dX5_one_26 : decode cX5_one 26 = .ok (.aload_n 0, 1) := by decide +kernel
theorem dX5_one_27 : decode cX5_one 27 = .ok (.invokevirtual 87, 3) := by decide +kernel
theorem dX5_one_30 : decode cX5_one 30 = .ok (.iconst 1, 1) := by decide +kernel
theorem dX5_one_31 : decode cX5_one 31 = .ok (.isub, 1) := by decide +kernel
theorem dX5_one_32 : decode cX5_one 32 = .ok (.istore 6, 2) := by decide +kernel
theorem dX5_one_34 : decode cX5_one 34 = .ok (.aload_n 0, 1) := by decide +kernel
theorem dX5_one_35 : decode cX5_one 35 = .ok (.invokevirtual 96, 3) := by decide +kernel
theorem dX5_one_38 : decode cX5_one 38 = .ok (.istore 7, 2) := by decide +kernel
theorem dX5_one_40 : decode cX5_one 40 = .ok (.iload_n 3, 1) := by decide +kernel
theorem dX5_one_41 : decode cX5_one 41 = .ok (.istore 8, 2) := by decide +kernel
theorem dX5_one_43 : decode cX5_one 43 = .ok (.iload_n 1, 1) := by decide +kernel
theorem dX5_one_44 : decode cX5_one 44 = .ok (.bipush 32, 2) := by decide +kernel
theorem dX5_one_46 : decode cX5_one 46 = .ok (.if_icmp .ne 16, 3) := by decide +kernel
theorem dX5_one_49 : decode cX5_one 49 = .ok (.iconst 0, 1) := by decide +kernel
theorem dX5_one_50 : decode cX5_one 50 = .ok (.istore 8, 2) := by decide +kernel
theorem dX5_one_52 : decode cX5_one 52 = .ok (.aload_n 0, 1) := by decide +kernel
theorem dX5_one_53 : decode cX5_one 53 = .ok (.iconst 0, 1) := by decide +kernel
theorem dX5_one_54 : decode cX5_one 54 = .ok (.iconst 0, 1) := by decide +kernel
theorem dX5_one_55 : decode cX5_one 55 = .ok (.iconst 0, 1) := by decide +kernel
theorem dX5_one_56 : decode cX5_one 56 = .ok (.invokevirtual 112, 3) := by decide +kernel
theorem dX5_one_59 : decode cX5_one 59 = .ok (.goto 425, 3) := by decide +kernel
theorem dX5_one_62 : decode cX5_one 62 = .ok (.iload_n 1, 1) := by decide +kernel
theorem dX5_one_63 : decode cX5_one 63 = .ok (.bipush 33, 2) := by decide +kernel
theorem dX5_one_65 : decode cX5_one 65 = .ok (.if_icmp .ne 22, 3) := by decide +kernel
