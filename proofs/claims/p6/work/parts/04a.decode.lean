theorem dX0_init_0 : decode cX0_init 0 = .ok (.aload_n 0, 1) := by decide +kernel
theorem dX0_init_1 : decode cX0_init 1 = .ok (.invokespecial 1, 3) := by decide +kernel
theorem dX0_init_4 : decode cX0_init 4 = .ok (.return_, 1) := by decide +kernel
theorem dX0_number_0 : decode cX0_number 0 = .ok (.aload_n 0, 1) := by decide +kernel
theorem dX0_number_1 : decode cX0_number 1 = .ok (.getfield 7, 3) := by decide +kernel
theorem dX0_number_4 : decode cX0_number 4 = .ok (.ifCond .eq 8, 3) := by decide +kernel
theorem dX0_number_7 : decode cX0_number 7 = .ok (.bipush 8, 2) := by decide +kernel
theorem dX0_number_9 : decode cX0_number 9 = .ok (.goto 4, 3) := by decide +kernel
theorem dX0_number_12 : decode cX0_number 12 = .ok (.iconst 0, 1) := by decide +kernel
theorem dX0_number_13 : decode cX0_number 13 = .ok (.aload_n 0, 1) := by decide +kernel
theorem dX0_number_14 : decode cX0_number 14 = .ok (.getfield 13, 3) := by decide +kernel
theorem dX0_number_17 : decode cX0_number 17 = .ok (.ifCond .eq 7, 3) := by decide +kernel
theorem dX0_number_20 : decode cX0_number 20 = .ok (.iconst 4, 1) := by decide +kernel
theorem dX0_number_21 : decode cX0_number 21 = .ok (.goto 4, 3) := by decide +kernel
theorem dX0_number_24 : decode cX0_number 24 = .ok (.iconst 0, 1) := by decide +kernel
theorem dX0_number_25 : decode cX0_number 25 = .ok (.ior, 1) := by decide +kernel
theorem dX0_number_26 : decode cX0_number 26 = .ok (.aload_n 0, 1) := by decide +kernel
theorem dX0_number_27 : decode cX0_number 27 = .ok (.getfield 16, 3) := by decide +kernel
theorem dX0_number_30 : decode cX0_number 30 = .ok (.ifCond .eq 7, 3) := by decide +kernel
theorem dX0_number_33 : decode cX0_number 33 = .ok (.iconst 2, 1) := by decide +kernel
theorem dX0_number_34 : decode cX0_number 34 = .ok (.goto 4, 3) := by decide +kernel
theorem dX0_number_37 : decode cX0_number 37 = .ok (.iconst 0, 1) := by decide +kernel
theorem dX0_number_38 : decode cX0_number 38 = .ok (.ior, 1) := by decide +kernel
theorem dX0_number_39 : decode cX0_number 39 = .ok (.aload_n 0, 1) := by decide +kernel
theorem dX0_number_40 : decode cX0_number 40 = .ok (.getfield 19, 3) := by decide +kernel
theorem dX0_number_43 : decode cX0_number 43 = .ok (.ifCond .eq 7, 3) := by decide +kernel
theorem dX0_number_46 : decode cX0_number 46 = .ok (.iconst 1, 1) := by decide +kernel
theorem dX0_number_47 : decode cX0_number 47 = .ok (.goto 4, 3) := by decide +kernel
theorem dX0_number_50 : decode cX0_number 50 = .ok (.iconst 0, 1) := by decide +kernel
theorem dX0_number_51 : decode cX0_number 51 = .ok (.ior, 1) := by decide +kernel
theorem dX0_number_52 : decode cX0_number 52 = .ok (.ireturn, 1) := by decide +kernel
theorem dX0_become_0 : decode cX0_become 0 = .ok (.aload_n 0, 1) := by decide +kernel
theorem dX0_become_1 : decode cX0_become 1 = .ok (.iload_n 1, 1) := by decide +kernel
theorem dX0_become_2 : decode cX0_become 2 = .ok (.bipush 8, 2) := by decide +kernel
theorem dX0_become_4 : decode cX0_become 4 = .ok (.iand, 1) := by decide +kernel
theorem dX0_become_5 : decode cX0_become 5 = .ok (.ifCond .eq 7, 3) := by decide +kernel
theorem dX0_become_8 : decode cX0_become 8 = .ok (.iconst 1, 1) := by decide +kernel
theorem dX0_become_9 : decode cX0_become 9 = .ok (.goto 4, 3) := by decide +kernel
theorem dX0_become_12 : decode cX0_become 12 = .ok (.iconst 0, 1) := by decide +kernel
theorem dX0_become_13 : decode cX0_become 13 = .ok (.putfield 7, 3) := by decide +kernel
theorem dX0_become_16 : decode cX0_become 16 = .ok (.aload_n 0, 1) := by decide +kernel
theorem dX0_become_17 : decode cX0_become 17 = .ok (.iload_n 1, 1) := by decide +kernel
theorem dX0_become_18 : decode cX0_become 18 = .ok (.iconst 4, 1) := by decide +kernel
theorem dX0_become_19 : decode cX0_become 19 = .ok (.iand, 1) := by decide +kernel
theorem dX0_become_20 : decode cX0_become 20 = .ok (.ifCond .eq 7, 3) := by decide +kernel
theorem dX0_become_23 : decode cX0_become 23 = .ok (.iconst 1, 1) := by decide +kernel
theorem dX0_become_24 : decode cX0_become 24 = .ok (.goto 4, 3) := by decide +kernel
theorem dX0_become_27 : decode cX0_become 27 = .ok (.iconst 0, 1) := by decide +kernel
theorem dX0_become_28 : decode cX0_become 28 = .ok (.putfield 13, 3) := by decide +kernel
theorem dX0_become_31 : decode cX0_become 31 = .ok (.aload_n 0, 1) := by decide +kernel
theorem dX0_become_32 : decode cX0_become 32 = .ok (.iload_n 1, 1) := by decide +kernel
theorem dX0_become_33 : decode cX0_become 33 = .ok (.iconst 2, 1) := by decide +kernel
theorem dX0_become_34 : decode cX0_become 34 = .ok (.iand, 1) := by decide +kernel
theorem dX0_become_35 : decode cX0_become 35 = .ok (.ifCond .eq 7, 3) := by decide +kernel
theorem dX0_become_38 : decode cX0_become 38 = .ok (.iconst 1, 1) := by decide +kernel
theorem dX0_become_39 : decode cX0_become 39 = .ok (.goto 4, 3) := by decide +kernel
theorem dX0_become_42 : decode cX0_become 42 = .ok (.iconst 0, 1) := by decide +kernel
theorem dX0_become_43 : decode cX0_become 43 = .ok (.putfield 16, 3) := by decide +kernel
theorem dX0_become_46 : decode cX0_become 46 = .ok (.aload_n 0, 1) := by decide +kernel
theorem dX0_become_47 : decode cX0_become 47 = .ok (.iload_n 1, 1) := by decide +kernel
theorem dX0_become_48 : decode cX0_become 48 = .ok (.iconst 1, 1) := by decide +kernel
theorem dX0_become_49 : decode cX0_become 49 = .ok (.iand, 1) := by decide +kernel
theorem dX0_become_50 : decode cX0_become 50 = .ok (.ifCond .eq 7, 3) := by decide +kernel
theorem dX0_become_53 : decode cX0_become 53 = .ok (.iconst 1, 1) := by decide +kernel
theorem dX0_become_54 : decode cX0_become 54 = .ok (.goto 4, 3) := by decide +kernel
theorem dX0_become_57 : decode cX0_become 57 = .ok (.iconst 0, 1) := by decide +kernel
theorem dX0_become_58 : decode cX0_become 58 = .ok (.putfield 19, 3) := by decide +kernel
theorem dX0_become_61 : decode cX0_become 61 = .ok (.return_, 1) := by decide +kernel
theorem dX0_setByResult_0 : decode cX0_setByResult 0 = .ok (.aload_n 0, 1) := by decide +kernel
theorem dX0_setByResult_1 : decode cX0_setByResult 1 = .ok (.iload_n 1, 1) := by decide +kernel
theorem dX0_setByResult_2 : decode cX0_setByResult 2 = .ok (.iload_n 2, 1) := by decide +kernel
theorem dX0_setByResult_3 : decode cX0_setByResult 3 = .ok (.invokestatic 22, 3) := by decide +kernel
theorem dX0_setByResult_6 : decode cX0_setByResult 6 = .ok (.iand, 1) := by decide +kernel
theorem dX0_setByResult_7 : decode cX0_setByResult 7 = .ok (.ifCond .eq 7, 3) := by decide +kernel
theorem dX0_setByResult_10 : decode cX0_setByResult 10 = .ok (.iconst 1, 1) := by decide +kernel
theorem dX0_setByResult_11 : decode cX0_setByResult 11 = .ok (.goto 4, 3) := by decide +kernel
theorem dX0_setByResult_14 : decode cX0_setByResult 14 = .ok (.iconst 0, 1) := by decide +kernel
theorem dX0_setByResult_15 : decode cX0_setByResult 15 = .ok (.putfield 7, 3) := by decide +kernel
theorem dX0_setByResult_18 : decode cX0_setByResult 18 = .ok (.aload_n 0, 1) := by decide +kernel
theorem dX0_setByResult_19 : decode cX0_setByResult 19 = .ok (.iload_n 1, 1) := by decide +kernel
theorem dX0_setByResult_20 : decode cX0_setByResult 20 = .ok (.iload_n 2, 1) := by decide +kernel
theorem dX0_setByResult_21 : decode cX0_setByResult 21 = .ok (.iand, 1) := by decide +kernel
theorem dX0_setByResult_22 : decode cX0_setByResult 22 = .ok (.ifCond .ne 7, 3) := by decide +kernel
theorem dX0_setByResult_25 : decode cX0_setByResult 25 = .ok (.iconst 1, 1) := by decide +kernel
theorem dX0_setByResult_26 : decode cX0_setByResult 26 = .ok (.goto 4, 3) := by decide +kernel
theorem dX0_setByResult_29 : decode cX0_setByResult 29 = .ok (.iconst 0, 1) := by decide +kernel
theorem dX0_setByResult_30 : decode cX0_setByResult 30 = .ok (.putfield 13, 3) := by decide +kernel
theorem dX0_setByResult_33 : decode cX0_setByResult 33 = .ok (.return_, 1) := by decide +kernel
theorem dX0_below_0 : decode cX0_below 0 = .ok (.aload_n 0, 1) := by decide +kernel
theorem dX0_below_1 : decode cX0_below 1 = .ok (.getfield 7, 3) := by decide +kernel
theorem dX0_below_4 : decode cX0_below 4 = .ok (.aload_n 0, 1) := by decide +kernel
theorem dX0_below_5 : decode cX0_below 5 = .ok (.getfield 16, 3) := by decide +kernel
theorem dX0_below_8 : decode cX0_below 8 = .ok (.if_icmp .eq 7, 3) := by decide +kernel
theorem dX0_below_11 : decode cX0_below 11 = .ok (.iconst 1, 1) := by decide +kernel
theorem dX0_below_12 : decode cX0_below 12 = .ok (.goto 4, 3) := by decide +kernel
theorem dX0_below_15 : decode cX0_below 15 = .ok (.iconst 0, 1) := by decide +kernel
theorem dX0_below_16 : decode cX0_below 16 = .ok (.ireturn, 1) := by decide +kernel
theorem dX1_init_0 : decode cX1_init 0 = .ok (.aload_n 0, 1) := by decide +kernel
theorem dX1_init_1 : decode cX1_init 1 = .ok (.invokespecial 3, 3) := by decide +kernel
theorem dX1_init_4 : decode cX1_init 4 = .ok (.aload_n 0, 1) := by decide +kernel
theorem dX1_init_5 : decode cX1_init 5 = .ok (.sipush 2048, 3) := by decide +kernel
theorem dX1_init_8 : decode cX1_init 8 = .ok (.newarray .int, 2) := by decide +kernel
theorem dX1_init_10 : decode cX1_init 10 = .ok (.putfield 9, 3) := by decide +kernel
theorem dX1_init_13 : decode cX1_init 13 = .ok (.aload_n 0, 1) := by decide +kernel
theorem dX1_init_14 : decode cX1_init 14 = .ok (.sipush 400, 3) := by decide +kernel
theorem dX1_init_17 : decode cX1_init 17 = .ok (.newarray .int, 2) := by decide +kernel
theorem dX1_init_19 : decode cX1_init 19 = .ok (.putfield 15, 3) := by decide +kernel
theorem dX1_init_22 : decode cX1_init 22 = .ok (.return_, 1) := by decide +kernel
theorem dX1_faultAt_0 : decode cX1_faultAt 0 = .ok (.iload_n 2, 1) := by decide +kernel
theorem dX1_faultAt_1 : decode cX1_faultAt 1 = .ok (.ldc 18, 2) := by decide +kernel
theorem dX1_faultAt_3 : decode cX1_faultAt 3 = .ok (.if_icmp .ne 11, 3) := by decide +kernel
theorem dX1_faultAt_6 : decode cX1_faultAt 6 = .ok (.iload_n 1, 1) := by decide +kernel
theorem dX1_faultAt_7 : decode cX1_faultAt 7 = .ok (.iconst 1, 1) := by decide +kernel
theorem dX1_faultAt_8 : decode cX1_faultAt 8 = .ok (.iand, 1) := by decide +kernel
theorem dX1_faultAt_9 : decode cX1_faultAt 9 = .ok (.ifCond .eq 5, 3) := by decide +kernel
theorem dX1_faultAt_12 : decode cX1_faultAt 12 = .ok (.iconst 2, 1) := by decide +kernel
theorem dX1_faultAt_13 : decode cX1_faultAt 13 = .ok (.ireturn, 1) := by decide +kernel
theorem dX1_faultAt_14 : decode cX1_faultAt 14 = .ok (.iload_n 1, 1) := by decide +kernel
theorem dX1_faultAt_15 : decode cX1_faultAt 15 = .ok (.ifCond .lt 10, 3) := by decide +kernel
theorem dX1_faultAt_18 : decode cX1_faultAt 18 = .ok (.iload_n 1, 1) := by decide +kernel
theorem dX1_faultAt_19 : decode cX1_faultAt 19 = .ok (.sipush 4096, 3) := by decide +kernel
theorem dX1_faultAt_22 : decode cX1_faultAt 22 = .ok (.if_icmp .lt 7, 3) := by decide +kernel
theorem dX1_faultAt_25 : decode cX1_faultAt 25 = .ok (.iconst 3, 1) := by decide +kernel
theorem dX1_faultAt_26 : decode cX1_faultAt 26 = .ok (.goto 4, 3) := by decide +kernel
theorem dX1_faultAt_29 : decode cX1_faultAt 29 = .ok (.iconst 0, 1) := by decide +kernel
theorem dX1_faultAt_30 : decode cX1_faultAt 30 = .ok (.ireturn, 1) := by decide +kernel
theorem dX1_valueAt_0 : decode cX1_valueAt 0 = .ok (.iload_n 1, 1) := by decide +kernel
theorem dX1_valueAt_1 : decode cX1_valueAt 1 = .ok (.iconst 1, 1) := by decide +kernel
theorem dX1_valueAt_2 : decode cX1_valueAt 2 = .ok (.iand, 1) := by decide +kernel
theorem dX1_valueAt_3 : decode cX1_valueAt 3 = .ok (.bipush 8, 2) := by decide +kernel
theorem dX1_valueAt_5 : decode cX1_valueAt 5 = .ok (.imul, 1) := by decide +kernel
theorem dX1_valueAt_6 : decode cX1_valueAt 6 = .ok (.istore_n 3, 1) := by decide +kernel
theorem dX1_valueAt_7 : decode cX1_valueAt 7 = .ok (.aload_n 0, 1) := by decide +kernel
theorem dX1_valueAt_8 : decode cX1_valueAt 8 = .ok (.getfield 9, 3) := by decide +kernel
theorem dX1_valueAt_11 : decode cX1_valueAt 11 = .ok (.iload_n 1, 1) := by decide +kernel
theorem dX1_valueAt_12 : decode cX1_valueAt 12 = .ok (.iconst 1, 1) := by decide +kernel
theorem dX1_valueAt_13 : decode cX1_valueAt 13 = .ok (.ishr, 1) := by decide +kernel
theorem dX1_valueAt_14 : decode cX1_valueAt 14 = .ok (.sipush 2047, 3) := by decide +kernel
theorem dX1_valueAt_17 : decode cX1_valueAt 17 = .ok (.iand, 1) := by decide +kernel
theorem dX1_valueAt_18 : decode cX1_valueAt 18 = .ok (.iaload, 1) := by decide +kernel
theorem dX1_valueAt_19 : decode cX1_valueAt 19 = .ok (.iload_n 3, 1) := by decide +kernel
theorem dX1_valueAt_20 : decode cX1_valueAt 20 = .ok (.ishr, 1) := by decide +kernel
theorem dX1_valueAt_21 : decode cX1_valueAt 21 = .ok (.iload_n 2, 1) := by decide +kernel
theorem dX1_valueAt_22 : decode cX1_valueAt 22 = .ok (.iand, 1) := by decide +kernel
theorem dX1_valueAt_23 : decode cX1_valueAt 23 = .ok (.ireturn, 1) := by decide +kernel
theorem dX1_setWord_0 : decode cX1_setWord 0 = .ok (.aload_n 0, 1) := by decide +kernel
theorem dX1_setWord_1 : decode cX1_setWord 1 = .ok (.getfield 9, 3) := by decide +kernel
theorem dX1_setWord_4 : decode cX1_setWord 4 = .ok (.iload_n 1, 1) := by decide +kernel
theorem dX1_setWord_5 : decode cX1_setWord 5 = .ok (.iconst 1, 1) := by decide +kernel
theorem dX1_setWord_6 : decode cX1_setWord 6 = .ok (.ishr, 1) := by decide +kernel
theorem dX1_setWord_7 : decode cX1_setWord 7 = .ok (.sipush 2047, 3) := by decide +kernel
theorem dX1_setWord_10 : decode cX1_setWord 10 = .ok (.iand, 1) := by decide +kernel
theorem dX1_setWord_11 : decode cX1_setWord 11 = .ok (.iload_n 2, 1) := by decide +kernel
theorem dX1_setWord_12 : decode cX1_setWord 12 = .ok (.ldc 18, 2) := by decide +kernel
theorem dX1_setWord_14 : decode cX1_setWord 14 = .ok (.iand, 1) := by decide +kernel
theorem dX1_setWord_15 : decode cX1_setWord 15 = .ok (.iastore, 1) := by decide +kernel
theorem dX1_setWord_16 : decode cX1_setWord 16 = .ok (.return_, 1) := by decide +kernel
theorem dX1_setPair_0 : decode cX1_setPair 0 = .ok (.aload_n 0, 1) := by decide +kernel
theorem dX1_setPair_1 : decode cX1_setPair 1 = .ok (.iload_n 1, 1) := by decide +kernel
theorem dX1_setPair_2 : decode cX1_setPair 2 = .ok (.iload_n 2, 1) := by decide +kernel
theorem dX1_setPair_3 : decode cX1_setPair 3 = .ok (.bipush 16, 2) := by decide +kernel
theorem dX1_setPair_5 : decode cX1_setPair 5 = .ok (.iushr, 1) := by decide +kernel
theorem dX1_setPair_6 : decode cX1_setPair 6 = .ok (.invokevirtual 19, 3) := by decide +kernel
theorem dX1_setPair_9 : decode cX1_setPair 9 = .ok (.aload_n 0, 1) := by decide +kernel
theorem dX1_setPair_10 : decode cX1_setPair 10 = .ok (.iload_n 1, 1) := by decide +kernel
theorem dX1_setPair_11 : decode cX1_setPair 11 = .ok (.iconst 2, 1) := by decide +kernel
theorem dX1_setPair_12 : decode cX1_setPair 12 = .ok (.iadd, 1) := by decide +kernel
theorem dX1_setPair_13 : decode cX1_setPair 13 = .ok (.iload_n 2, 1) := by decide +kernel
theorem dX1_setPair_14 : decode cX1_setPair 14 = .ok (.invokevirtual 19, 3) := by decide +kernel
theorem dX1_setPair_17 : decode cX1_setPair 17 = .ok (.iadd, 1) := by decide +kernel
theorem dX1_setPair_18 : decode cX1_setPair 18 = .ok (.ireturn, 1) := by decide +kernel
theorem dX1_write_0 : decode cX1_write 0 = .ok (.iload_n 1, 1) := by decide +kernel
theorem dX1_write_1 : decode cX1_write 1 = .ok (.iconst 1, 1) := by decide +kernel
theorem dX1_write_2 : decode cX1_write 2 = .ok (.ishr, 1) := by decide +kernel
theorem dX1_write_3 : decode cX1_write 3 = .ok (.sipush 2047, 3) := by decide +kernel
theorem dX1_write_6 : decode cX1_write 6 = .ok (.iand, 1) := by decide +kernel
theorem dX1_write_7 : decode cX1_write 7 = .ok (.istore 4, 2) := by decide +kernel
theorem dX1_write_9 : decode cX1_write 9 = .ok (.iload_n 1, 1) := by decide +kernel
theorem dX1_write_10 : decode cX1_write 10 = .ok (.iconst 1, 1) := by decide +kernel
theorem dX1_write_11 : decode cX1_write 11 = .ok (.iand, 1) := by decide +kernel
theorem dX1_write_12 : decode cX1_write 12 = .ok (.bipush 8, 2) := by decide +kernel
theorem dX1_write_14 : decode cX1_write 14 = .ok (.imul, 1) := by decide +kernel
theorem dX1_write_15 : decode cX1_write 15 = .ok (.istore 5, 2) := by decide +kernel
theorem dX1_write_17 : decode cX1_write 17 = .ok (.aload_n 0, 1) := by decide +kernel
theorem dX1_write_18 : decode cX1_write 18 = .ok (.getfield 9, 3) := by decide +kernel
theorem dX1_write_21 : decode cX1_write 21 = .ok (.iload 4, 2) := by decide +kernel
theorem dX1_write_23 : decode cX1_write 23 = .ok (.aload_n 0, 1) := by decide +kernel
theorem dX1_write_24 : decode cX1_write 24 = .ok (.getfield 9, 3) := by decide +kernel
theorem dX1_write_27 : decode cX1_write 27 = .ok (.iload 4, 2) := by decide +kernel
theorem dX1_write_29 : decode cX1_write 29 = .ok (.iaload, 1) := by decide +kernel
theorem dX1_write_30 : decode cX1_write 30 = .ok (.iload_n 2, 1) := by decide +kernel
theorem dX1_write_31 : decode cX1_write 31 = .ok (.iload 5, 2) := by decide +kernel
theorem dX1_write_33 : decode cX1_write 33 = .ok (.ishl, 1) := by decide +kernel
theorem dX1_write_34 : decode cX1_write 34 = .ok (.iconst (-1), 1) := by decide +kernel
theorem dX1_write_35 : decode cX1_write 35 = .ok (.ixor, 1) := by decide +kernel
theorem dX1_write_36 : decode cX1_write 36 = .ok (.iand, 1) := by decide +kernel
theorem dX1_write_37 : decode cX1_write 37 = .ok (.iload_n 3, 1) := by decide +kernel
theorem dX1_write_38 : decode cX1_write 38 = .ok (.iload_n 2, 1) := by decide +kernel
theorem dX1_write_39 : decode cX1_write 39 = .ok (.iand, 1) := by decide +kernel
theorem dX1_write_40 : decode cX1_write 40 = .ok (.iload 5, 2) := by decide +kernel
theorem dX1_write_42 : decode cX1_write 42 = .ok (.ishl, 1) := by decide +kernel
theorem dX1_write_43 : decode cX1_write 43 = .ok (.ior, 1) := by decide +kernel
theorem dX1_write_44 : decode cX1_write 44 = .ok (.iastore, 1) := by decide +kernel
theorem dX1_write_45 : decode cX1_write 45 = .ok (.iload_n 1, 1) := by decide +kernel
theorem dX1_write_46 : decode cX1_write 46 = .ok (.sipush 4094, 3) := by decide +kernel
theorem dX1_write_49 : decode cX1_write 49 = .ok (.if_icmp .ne 35, 3) := by decide +kernel
theorem dX1_write_52 : decode cX1_write 52 = .ok (.aload_n 0, 1) := by decide +kernel
theorem dX1_write_53 : decode cX1_write 53 = .ok (.getfield 23, 3) := by decide +kernel
theorem dX1_write_56 : decode cX1_write 56 = .ok (.sipush 400, 3) := by decide +kernel
theorem dX1_write_59 : decode cX1_write 59 = .ok (.if_icmp .ge 25, 3) := by decide +kernel
theorem dX1_write_62 : decode cX1_write 62 = .ok (.aload_n 0, 1) := by decide +kernel
theorem dX1_write_63 : decode cX1_write 63 = .ok (.getfield 15, 3) := by decide +kernel
theorem dX1_write_66 : decode cX1_write 66 = .ok (.aload_n 0, 1) := by decide +kernel
theorem dX1_write_67 : decode cX1_write 67 = .ok (.getfield 23, 3) := by decide +kernel
theorem dX1_write_70 : decode cX1_write 70 = .ok (.iload_n 3, 1) := by decide +kernel
theorem dX1_write_71 : decode cX1_write 71 = .ok (.iload_n 2, 1) := by decide +kernel
theorem dX1_write_72 : decode cX1_write 72 = .ok (.iand, 1) := by decide +kernel
theorem dX1_write_73 : decode cX1_write 73 = .ok (.iastore, 1) := by decide +kernel
theorem dX1_write_74 : decode cX1_write 74 = .ok (.aload_n 0, 1) := by decide +kernel
theorem dX1_write_75 : decode cX1_write 75 = .ok (.dup, 1) := by decide +kernel
theorem dX1_write_76 : decode cX1_write 76 = .ok (.getfield 23, 3) := by decide +kernel
theorem dX1_write_79 : decode cX1_write 79 = .ok (.iconst 1, 1) := by decide +kernel
theorem dX1_write_80 : decode cX1_write 80 = .ok (.iadd, 1) := by decide +kernel
theorem dX1_write_81 : decode cX1_write 81 = .ok (.putfield 23, 3) := by decide +kernel
theorem dX1_write_84 : decode cX1_write 84 = .ok (.return_, 1) := by decide +kernel
theorem dX1_empty_0 : decode cX1_empty 0 = .ok (.aload_n 0, 1) := by decide +kernel
theorem dX1_empty_1 : decode cX1_empty 1 = .ok (.getfield 9, 3) := by decide +kernel
theorem dX1_empty_4 : decode cX1_empty 4 = .ok (.iconst 0, 1) := by decide +kernel
theorem dX1_empty_5 : decode cX1_empty 5 = .ok (.invokestatic 27, 3) := by decide +kernel
theorem dX1_empty_8 : decode cX1_empty 8 = .ok (.aload_n 0, 1) := by decide +kernel
theorem dX1_empty_9 : decode cX1_empty 9 = .ok (.iconst 0, 1) := by decide +kernel
theorem dX1_empty_10 : decode cX1_empty 10 = .ok (.putfield 23, 3) := by decide +kernel
theorem dX1_empty_13 : decode cX1_empty 13 = .ok (.return_, 1) := by decide +kernel
theorem dX1_setIfThere_0 : decode cX1_setIfThere 0 = .ok (.aload_n 0, 1) := by decide +kernel
theorem dX1_setIfThere_1 : decode cX1_setIfThere 1 = .ok (.iload_n 1, 1) := by decide +kernel
theorem dX1_setIfThere_2 : decode cX1_setIfThere 2 = .ok (.ldc 18, 2) := by decide +kernel
theorem dX1_setIfThere_4 : decode cX1_setIfThere 4 = .ok (.invokevirtual 33, 3) := by decide +kernel
theorem dX1_setIfThere_7 : decode cX1_setIfThere 7 = .ok (.ifCond .eq 5, 3) := by decide +kernel
theorem dX1_setIfThere_10 : decode cX1_setIfThere 10 = .ok (.iconst 0, 1) := by decide +kernel
theorem dX1_setIfThere_11 : decode cX1_setIfThere 11 = .ok (.ireturn, 1) := by decide +kernel
theorem dX1_setIfThere_12 : decode cX1_setIfThere 12 = .ok (.aload_n 0, 1) := by decide +kernel
theorem dX1_setIfThere_13 : decode cX1_setIfThere 13 = .ok (.iload_n 1, 1) := by decide +kernel
theorem dX1_setIfThere_14 : decode cX1_setIfThere 14 = .ok (.iload_n 2, 1) := by decide +kernel
theorem dX1_setIfThere_15 : decode cX1_setIfThere 15 = .ok (.invokevirtual 36, 3) := by decide +kernel
theorem dX1_setIfThere_18 : decode cX1_setIfThere 18 = .ok (.iconst 1, 1) := by decide +kernel
theorem dX1_setIfThere_19 : decode cX1_setIfThere 19 = .ok (.ireturn, 1) := by decide +kernel
theorem dX2_init_0 : decode cX2_init 0 = .ok (.aload_n 0, 1) := by decide +kernel
theorem dX2_init_1 : decode cX2_init 1 = .ok (.invokespecial 3, 3) := by decide +kernel
theorem dX2_init_4 : decode cX2_init 4 = .ok (.aload_n 0, 1) := by decide +kernel
theorem dX2_init_5 : decode cX2_init 5 = .ok (.bipush 8, 2) := by decide +kernel
theorem dX2_init_7 : decode cX2_init 7 = .ok (.newarray .int, 2) := by decide +kernel
theorem dX2_init_9 : decode cX2_init 9 = .ok (.putfield 9, 3) := by decide +kernel
theorem dX2_init_12 : decode cX2_init 12 = .ok (.aload_n 0, 1) := by decide +kernel
theorem dX2_init_13 : decode cX2_init 13 = .ok (.bipush 8, 2) := by decide +kernel
theorem dX2_init_15 : decode cX2_init 15 = .ok (.newarray .int, 2) := by decide +kernel
theorem dX2_init_17 : decode cX2_init 17 = .ok (.putfield 15, 3) := by decide +kernel
theorem dX2_init_20 : decode cX2_init 20 = .ok (.aload_n 0, 1) := by decide +kernel
theorem dX2_init_21 : decode cX2_init 21 = .ok (.aload_n 1, 1) := by decide +kernel
theorem dX2_init_22 : decode cX2_init 22 = .ok (.putfield 18, 3) := by decide +kernel
theorem dX2_init_25 : decode cX2_init 25 = .ok (.return_, 1) := by decide +kernel
theorem dX2_begin_0 : decode cX2_begin 0 = .ok (.aload_n 0, 1) := by decide +kernel
theorem dX2_begin_1 : decode cX2_begin 1 = .ok (.getfield 9, 3) := by decide +kernel
theorem dX2_begin_4 : decode cX2_begin 4 = .ok (.iconst 0, 1) := by decide +kernel
theorem dX2_begin_5 : decode cX2_begin 5 = .ok (.aload_n 0, 1) := by decide +kernel
theorem dX2_begin_6 : decode cX2_begin 6 = .ok (.getfield 15, 3) := by decide +kernel
theorem dX2_begin_9 : decode cX2_begin 9 = .ok (.iconst 0, 1) := by decide +kernel
theorem dX2_begin_10 : decode cX2_begin 10 = .ok (.bipush 8, 2) := by decide +kernel
theorem dX2_begin_12 : decode cX2_begin 12 = .ok (.invokestatic 22, 3) := by decide +kernel
theorem dX2_begin_15 : decode cX2_begin 15 = .ok (.aload_n 0, 1) := by decide +kernel
theorem dX2_begin_16 : decode cX2_begin 16 = .ok (.iconst 0, 1) := by decide +kernel
theorem dX2_begin_17 : decode cX2_begin 17 = .ok (.putfield 28, 3) := by decide +kernel
theorem dX2_begin_20 : decode cX2_begin 20 = .ok (.return_, 1) := by decide +kernel
theorem dX2_takeBack_0 : decode cX2_takeBack 0 = .ok (.aload_n 0, 1) := by decide +kernel
theorem dX2_takeBack_1 : decode cX2_takeBack 1 = .ok (.getfield 15, 3) := by decide +kernel
theorem dX2_takeBack_4 : decode cX2_takeBack 4 = .ok (.iconst 0, 1) := by decide +kernel
theorem dX2_takeBack_5 : decode cX2_takeBack 5 = .ok (.aload_n 0, 1) := by decide +kernel
theorem dX2_takeBack_6 : decode cX2_takeBack 6 = .ok (.getfield 9, 3) := by decide +kernel
theorem dX2_takeBack_9 : decode cX2_takeBack 9 = .ok (.iconst 0, 1) := by decide +kernel
theorem dX2_takeBack_10 : decode cX2_takeBack 10 = .ok (.bipush 8, 2) := by decide +kernel
theorem dX2_takeBack_12 : decode cX2_takeBack 12 = .ok (.invokestatic 22, 3) := by decide +kernel
theorem dX2_takeBack_15 : decode cX2_takeBack 15 = .ok (.return_, 1) := by decide +kernel
theorem dX2_empty_0 : decode cX2_empty 0 = .ok (.aload_n 0, 1) := by decide +kernel
theorem dX2_empty_1 : decode cX2_empty 1 = .ok (.getfield 9, 3) := by decide +kernel
theorem dX2_empty_4 : decode cX2_empty 4 = .ok (.iconst 0, 1) := by decide +kernel
theorem dX2_empty_5 : decode cX2_empty 5 = .ok (.invokestatic 32, 3) := by decide +kernel
theorem dX2_empty_8 : decode cX2_empty 8 = .ok (.return_, 1) := by decide +kernel
theorem dX2_locate_0 : decode cX2_locate 0 = .ok (.iload_n 1, 1) := by decide +kernel
theorem dX2_locate_1 : decode cX2_locate 1 = .ok (.bipush 7, 2) := by decide +kernel
theorem dX2_locate_3 : decode cX2_locate 3 = .ok (.iand, 1) := by decide +kernel
theorem dX2_locate_4 : decode cX2_locate 4 = .ok (.istore_n 3, 1) := by decide +kernel
theorem dX2_locate_5 : decode cX2_locate 5 = .ok (.iload_n 1, 1) := by decide +kernel
theorem dX2_locate_6 : decode cX2_locate 6 = .ok (.iconst 3, 1) := by decide +kernel
theorem dX2_locate_7 : decode cX2_locate 7 = .ok (.ishr, 1) := by decide +kernel
theorem dX2_locate_8 : decode cX2_locate 8 = .ok (.bipush 7, 2) := by decide +kernel
theorem dX2_locate_10 : decode cX2_locate 10 = .ok (.iand, 1) := by decide +kernel
theorem dX2_locate_11 : decode cX2_locate 11 = .ok (.tableswitch 120 0 6 #[41, 46, 53, 64, 77, 88, 101], 41) := by decide +kernel
theorem dX2_locate_52 : decode cX2_locate 52 = .ok (.ldc 38, 2) := by decide +kernel
theorem dX2_locate_54 : decode cX2_locate 54 = .ok (.iload_n 3, 1) := by decide +kernel
theorem dX2_locate_55 : decode cX2_locate 55 = .ok (.iadd, 1) := by decide +kernel
theorem dX2_locate_56 : decode cX2_locate 56 = .ok (.ireturn, 1) := by decide +kernel
theorem dX2_locate_57 : decode cX2_locate 57 = .ok (.aload_n 0, 1) := by decide +kernel
theorem dX2_locate_58 : decode cX2_locate 58 = .ok (.getfield 9, 3) := by decide +kernel
theorem dX2_locate_61 : decode cX2_locate 61 = .ok (.iload_n 3, 1) := by decide +kernel
theorem dX2_locate_62 : decode cX2_locate 62 = .ok (.iaload, 1) := by decide +kernel
theorem dX2_locate_63 : decode cX2_locate 63 = .ok (.ireturn, 1) := by decide +kernel
theorem dX2_locate_64 : decode cX2_locate 64 = .ok (.aload_n 0, 1) := by decide +kernel
theorem dX2_locate_65 : decode cX2_locate 65 = .ok (.iload_n 3, 1) := by decide +kernel
theorem dX2_locate_66 : decode cX2_locate 66 = .ok (.iload_n 3, 1) := by decide +kernel
theorem dX2_locate_67 : decode cX2_locate 67 = .ok (.iload_n 2, 1) := by decide +kernel
theorem dX2_locate_68 : decode cX2_locate 68 = .ok (.invokestatic 39, 3) := by decide +kernel
theorem dX2_locate_71 : decode cX2_locate 71 = .ok (.invokevirtual 43, 3) := by decide +kernel
theorem dX2_locate_74 : decode cX2_locate 74 = .ok (.ireturn, 1) := by decide +kernel
theorem dX2_locate_75 : decode cX2_locate 75 = .ok (.aload_n 0, 1) := by decide +kernel
theorem dX2_locate_76 : decode cX2_locate 76 = .ok (.aload_n 0, 1) := by decide +kernel
theorem dX2_locate_77 : decode cX2_locate 77 = .ok (.iload_n 3, 1) := by decide +kernel
theorem dX2_locate_78 : decode cX2_locate 78 = .ok (.iconst 2, 1) := by decide +kernel
theorem dX2_locate_79 : decode cX2_locate 79 = .ok (.invokevirtual 43, 3) := by decide +kernel
theorem dX2_locate_82 : decode cX2_locate 82 = .ok (.ldc 46, 2) := by decide +kernel
theorem dX2_locate_84 : decode cX2_locate 84 = .ok (.invokevirtual 47, 3) := by decide +kernel
theorem dX2_locate_87 : decode cX2_locate 87 = .ok (.ireturn, 1) := by decide +kernel
theorem dX2_locate_88 : decode cX2_locate 88 = .ok (.aload_n 0, 1) := by decide +kernel
theorem dX2_locate_89 : decode cX2_locate 89 = .ok (.iload_n 3, 1) := by decide +kernel
theorem dX2_locate_90 : decode cX2_locate 90 = .ok (.iload_n 3, 1) := by decide +kernel
theorem dX2_locate_91 : decode cX2_locate 91 = .ok (.iload_n 2, 1) := by decide +kernel
theorem dX2_locate_92 : decode cX2_locate 92 = .ok (.invokestatic 39, 3) := by decide +kernel
theorem dX2_locate_95 : decode cX2_locate 95 = .ok (.invokevirtual 50, 3) := by decide +kernel
theorem dX2_locate_98 : decode cX2_locate 98 = .ok (.ireturn, 1) := by decide +kernel
theorem dX2_locate_99 : decode cX2_locate 99 = .ok (.aload_n 0, 1) := by decide +kernel
theorem dX2_locate_100 : decode cX2_locate 100 = .ok (.aload_n 0, 1) := by decide +kernel
theorem dX2_locate_101 : decode cX2_locate 101 = .ok (.iload_n 3, 1) := by decide +kernel
theorem dX2_locate_102 : decode cX2_locate 102 = .ok (.iconst 2, 1) := by decide +kernel
theorem dX2_locate_103 : decode cX2_locate 103 = .ok (.invokevirtual 50, 3) := by decide +kernel
theorem dX2_locate_106 : decode cX2_locate 106 = .ok (.ldc 46, 2) := by decide +kernel
theorem dX2_locate_108 : decode cX2_locate 108 = .ok (.invokevirtual 47, 3) := by decide +kernel
theorem dX2_locate_111 : decode cX2_locate 111 = .ok (.ireturn, 1) := by decide +kernel
theorem dX2_locate_112 : decode cX2_locate 112 = .ok (.aload_n 0, 1) := by decide +kernel
theorem dX2_locate_113 : decode cX2_locate 113 = .ok (.iload_n 3, 1) := by decide +kernel
theorem dX2_locate_114 : decode cX2_locate 114 = .ok (.aload_n 0, 1) := by decide +kernel
theorem dX2_locate_115 : decode cX2_locate 115 = .ok (.aload_n 0, 1) := by decide +kernel
theorem dX2_locate_116 : decode cX2_locate 116 = .ok (.bipush 7, 2) := by decide +kernel
theorem dX2_locate_118 : decode cX2_locate 118 = .ok (.iconst 2, 1) := by decide +kernel
theorem dX2_locate_119 : decode cX2_locate 119 = .ok (.invokevirtual 43, 3) := by decide +kernel
theorem dX2_locate_122 : decode cX2_locate 122 = .ok (.ldc 46, 2) := by decide +kernel
theorem dX2_locate_124 : decode cX2_locate 124 = .ok (.invokevirtual 47, 3) := by decide +kernel
theorem dX2_locate_127 : decode cX2_locate 127 = .ok (.invokevirtual 53, 3) := by decide +kernel
theorem dX2_locate_130 : decode cX2_locate 130 = .ok (.ireturn, 1) := by decide +kernel
theorem dX2_locate_131 : decode cX2_locate 131 = .ok (.aload_n 0, 1) := by decide +kernel
theorem dX2_locate_132 : decode cX2_locate 132 = .ok (.aload_n 0, 1) := by decide +kernel
theorem dX2_locate_133 : decode cX2_locate 133 = .ok (.iload_n 3, 1) := by decide +kernel
theorem dX2_locate_134 : decode cX2_locate 134 = .ok (.aload_n 0, 1) := by decide +kernel
theorem dX2_locate_135 : decode cX2_locate 135 = .ok (.aload_n 0, 1) := by decide +kernel
theorem dX2_locate_136 : decode cX2_locate 136 = .ok (.bipush 7, 2) := by decide +kernel
theorem dX2_locate_138 : decode cX2_locate 138 = .ok (.iconst 2, 1) := by decide +kernel
theorem dX2_locate_139 : decode cX2_locate 139 = .ok (.invokevirtual 43, 3) := by decide +kernel
theorem dX2_locate_142 : decode cX2_locate 142 = .ok (.ldc 46, 2) := by decide +kernel
theorem dX2_locate_144 : decode cX2_locate 144 = .ok (.invokevirtual 47, 3) := by decide +kernel
theorem dX2_locate_147 : decode cX2_locate 147 = .ok (.invokevirtual 53, 3) := by decide +kernel
theorem dX2_locate_150 : decode cX2_locate 150 = .ok (.ldc 46, 2) := by decide +kernel
theorem dX2_locate_152 : decode cX2_locate 152 = .ok (.invokevirtual 47, 3) := by decide +kernel
theorem dX2_locate_155 : decode cX2_locate 155 = .ok (.ireturn, 1) := by decide +kernel
theorem dX2_fetch_0 : decode cX2_fetch 0 = .ok (.iload_n 1, 1) := by decide +kernel
theorem dX2_fetch_1 : decode cX2_fetch 1 = .ok (.ldc 38, 2) := by decide +kernel
theorem dX2_fetch_3 : decode cX2_fetch 3 = .ok (.if_icmp .lt 15, 3) := by decide +kernel
theorem dX2_fetch_6 : decode cX2_fetch 6 = .ok (.aload_n 0, 1) := by decide +kernel
theorem dX2_fetch_7 : decode cX2_fetch 7 = .ok (.getfield 9, 3) := by decide +kernel
theorem dX2_fetch_10 : decode cX2_fetch 10 = .ok (.iload_n 1, 1) := by decide +kernel
theorem dX2_fetch_11 : decode cX2_fetch 11 = .ok (.bipush 7, 2) := by decide +kernel
theorem dX2_fetch_13 : decode cX2_fetch 13 = .ok (.iand, 1) := by decide +kernel
theorem dX2_fetch_14 : decode cX2_fetch 14 = .ok (.iaload, 1) := by decide +kernel
theorem dX2_fetch_15 : decode cX2_fetch 15 = .ok (.iload_n 2, 1) := by decide +kernel
theorem dX2_fetch_16 : decode cX2_fetch 16 = .ok (.iand, 1) := by decide +kernel
theorem dX2_fetch_17 : decode cX2_fetch 17 = .ok (.ireturn, 1) := by decide +kernel
theorem dX2_fetch_18 : decode cX2_fetch 18 = .ok (.aload_n 0, 1) := by decide +kernel
theorem dX2_fetch_19 : decode cX2_fetch 19 = .ok (.getfield 28, 3) := by decide +kernel
theorem dX2_fetch_22 : decode cX2_fetch 22 = .ok (.ifCond .ne 16, 3) := by decide +kernel
theorem dX2_fetch_25 : decode cX2_fetch 25 = .ok (.aload_n 0, 1) := by decide +kernel
theorem dX2_fetch_26 : decode cX2_fetch 26 = .ok (.aload_n 0, 1) := by decide +kernel
theorem dX2_fetch_27 : decode cX2_fetch 27 = .ok (.getfield 18, 3) := by decide +kernel
theorem dX2_fetch_30 : decode cX2_fetch 30 = .ok (.iload_n 1, 1) := by decide +kernel
theorem dX2_fetch_31 : decode cX2_fetch 31 = .ok (.iload_n 2, 1) := by decide +kernel
theorem dX2_fetch_32 : decode cX2_fetch 32 = .ok (.invokevirtual 56, 3) := by decide +kernel
theorem dX2_fetch_35 : decode cX2_fetch 35 = .ok (.putfield 28, 3) := by decide +kernel
theorem dX2_fetch_38 : decode cX2_fetch 38 = .ok (.aload_n 0, 1) := by decide +kernel
theorem dX2_fetch_39 : decode cX2_fetch 39 = .ok (.getfield 28, 3) := by decide +kernel
theorem dX2_fetch_42 : decode cX2_fetch 42 = .ok (.ifCond .ne 15, 3) := by decide +kernel
theorem dX2_fetch_45 : decode cX2_fetch 45 = .ok (.aload_n 0, 1) := by decide +kernel
theorem dX2_fetch_46 : decode cX2_fetch 46 = .ok (.getfield 18, 3) := by decide +kernel
theorem dX2_fetch_49 : decode cX2_fetch 49 = .ok (.iload_n 1, 1) := by decide +kernel
theorem dX2_fetch_50 : decode cX2_fetch 50 = .ok (.iload_n 2, 1) := by decide +kernel
theorem dX2_fetch_51 : decode cX2_fetch 51 = .ok (.invokevirtual 61, 3) := by decide +kernel
theorem dX2_fetch_54 : decode cX2_fetch 54 = .ok (.goto 4, 3) := by decide +kernel
theorem dX2_fetch_57 : decode cX2_fetch 57 = .ok (.iconst 0, 1) := by decide +kernel
theorem dX2_fetch_58 : decode cX2_fetch 58 = .ok (.ireturn, 1) := by decide +kernel
theorem dX2_store_0 : decode cX2_store 0 = .ok (.iload_n 1, 1) := by decide +kernel
theorem dX2_store_1 : decode cX2_store 1 = .ok (.ldc 38, 2) := by decide +kernel
theorem dX2_store_3 : decode cX2_store 3 = .ok (.if_icmp .lt 32, 3) := by decide +kernel
theorem dX2_store_6 : decode cX2_store 6 = .ok (.iload_n 1, 1) := by decide +kernel
theorem dX2_store_7 : decode cX2_store 7 = .ok (.bipush 7, 2) := by decide +kernel
theorem dX2_store_9 : decode cX2_store 9 = .ok (.iand, 1) := by decide +kernel
theorem dX2_store_10 : decode cX2_store 10 = .ok (.istore 4, 2) := by decide +kernel
