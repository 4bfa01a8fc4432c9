theorem dX0_init_0 : decode cX0_init 0 = .ok (.aload_n 0, 1) := by decide +kernel
theorem dX0_init_1 : decode cX0_init 1 = .ok (.invokespecial 1, 3) := by decide +kernel
theorem dX0_init_4 : decode cX0_init 4 = .ok (.return_, 1) := by decide +kernel
theorem dX0_number_0 : decode cX0_number 0 = .ok (.aload_n 0, 1) := by decide +kernel
theorem dX0_number_1 : decode cX0_number 1 = .ok (.getfield 7, 3) := by decide +kernel
theorem dX0_number_4 : decode cX0_number 4 = .ok (.ifCond .eq 8, 3) := by decide +kernel
theorem dX0_number_7 : decode cX0_number 7 = .ok (.bipush 8, 2) := by decide +kernel
theorem dX0_number_9 : decode cX0_number 9 = .ok (.goto 4, 3) := by decide +kernel
theorem dX0_number_12 : decode cX0_number 12 = .ok (.iconst 0, 1) := by decide +kernel
theorem dX0_number_13 : decode cX0_number 13 = .ok (.aload_n 0, 1) := by decide +kernel
theorem dX0_number_14 : decode cX0_number 14 = .ok (.getfield 13, 3) := by decide +kernel
theorem dX0_number_17 : decode cX0_number 17 = .ok (.ifCond .eq 7, 3) := by decide +kernel
theorem dX0_number_20 : decode cX0_number 20 = .ok (.iconst 4, 1) := by decide +kernel
theorem dX0_number_21 : decode cX0_number 21 = .ok (.goto 4, 3) := by decide +kernel
theorem dX0_number_24 : decode cX0_number 24 = .ok (.iconst 0, 1) := by decide +kernel
theorem dX0_number_25 : decode cX0_number 25 = .ok (.ior, 1) := by decide +kernel
theorem dX0_number_26 : decode cX0_number 26 = .ok (.aload_n 0, 1) := by decide +kernel
theorem dX0_number_27 : decode cX0_number 27 = .ok (.getfield 16, 3) := by decide +kernel
theorem dX0_number_30 : decode cX0_number 30 = .ok (.ifCond .eq 7, 3) := by decide +kernel
theorem dX0_number_33 : decode cX0_number 33 = .ok (.iconst 2, 1) := by decide +kernel
theorem dX0_number_34 : decode cX0_number 34 = .ok (.goto 4, 3) := by decide +kernel
theorem dX0_number_37 : decode cX0_number 37 = .ok (.iconst 0, 1) := by decide +kernel
theorem dX0_number_38 : decode cX0_number 38 = .ok (.ior, 1) := by decide +kernel
theorem dX0_number_39 : decode cX0_number 39 = .ok (.aload_n 0, 1) := by decide +kernel
theorem dX0_number_40 : decode cX0_number 40 = .ok (.getfield 19, 3) := by decide +kernel
theorem dX0_number_43 : decode cX0_number 43 = .ok (.ifCond .eq 7, 3) := by decide +kernel
theorem dX0_number_46 : decode cX0_number 46 = .ok (.iconst 1, 1) := by decide +kernel
theorem dX0_number_47 : decode cX0_number 47 = .ok (.goto 4, 3) := by decide +kernel
theorem dX0_number_50 : decode cX0_number 50 = .ok (.iconst 0, 1) := by decide +kernel
theorem dX0_number_51 : decode cX0_number 51 = .ok (.ior, 1) := by decide +kernel
theorem dX0_number_52 : decode cX0_number 52 = .ok (.ireturn, 1) := by decide +kernel
theorem dX0_become_0 : decode cX0_become 0 = .ok (.aload_n 0, 1) := by decide +kernel
theorem dX0_become_1 : decode cX0_become 1 = .ok (.iload_n 1, 1) := by decide +kernel
theorem dX0_become_2 : decode cX0_become 2 = .ok (.bipush 8, 2) := by decide +kernel
theorem dX0_become_4 : decode cX0_become 4 = .ok (.iand, 1) := by decide +kernel
theorem dX0_become_5 : decode cX0_become 5 = .ok (.ifCond .eq 7, 3) := by decide +kernel
theorem dX0_become_8 : decode cX0_become 8 = .ok (.iconst 1, 1) := by decide +kernel
theorem dX0_become_9 : decode cX0_become 9 = .ok (.goto 4, 3) := by decide +kernel
theorem dX0_become_12 : decode cX0_become 12 = .ok (.iconst 0, 1) := by decide +kernel
theorem dX0_become_13 : decode cX0_become 13 = .ok (.putfield 7, 3) := by decide +kernel
theorem dX0_become_16 : decode cX0_become 16 = .ok (.aload_n 0, 1) := by decide +kernel
theorem dX0_become_17 : decode cX0_become 17 = .ok (.iload_n 1, 1) := by decide +kernel
theorem dX0_become_18 : decode cX0_become 18 = .ok (.iconst 4, 1) := by decide +kernel
theorem dX0_become_19 : decode cX0_become 19 = .ok (.iand, 1) := by decide +kernel
theorem dX0_become_20 : decode cX0_become 20 = .ok (.ifCond .eq 7, 3) := by decide +kernel
theorem dX0_become_23 : decode cX0_become 23 = .ok (.iconst 1, 1) := by decide +kernel
theorem dX0_become_24 : decode cX0_become 24 = .ok (.goto 4, 3) := by decide +kernel
theorem dX0_become_27 : decode cX0_become 27 = .ok (.iconst 0, 1) := by decide +kernel
theorem dX0_become_28 : decode cX0_become 28 = .ok (.putfield 13, 3) := by decide +kernel
theorem dX0_become_31 : decode cX0_become 31 = .ok (.aload_n 0, 1) := by decide +kernel
theorem dX0_become_32 : decode cX0_become 32 = .ok (.iload_n 1, 1) := by decide +kernel
theorem dX0_become_33 : decode cX0_become 33 = .ok (.iconst 2, 1) := by decide +kernel
theorem dX0_become_34 : decode cX0_become 34 = .ok (.iand, 1) := by decide +kernel
theorem dX0_become_35 : decode cX0_become 35 = .ok (.ifCond .eq 7, 3) := by decide +kernel
theorem dX0_become_38 : decode cX0_become 38 = .ok (.iconst 1, 1) := by decide +kernel
theorem dX0_become_39 : decode cX0_become 39 = .ok (.goto 4, 3) := by decide +kernel
theorem dX0_become_42 : decode cX0_become 42 = .ok (.iconst 0, 1) := by decide +kernel
theorem dX0_become_43 : decode cX0_become 43 = .ok (.putfield 16, 3) := by decide +kernel
theorem dX0_become_46 : decode cX0_become 46 = .ok (.aload_n 0, 1) := by decide +kernel
theorem dX0_become_47 : decode cX0_become 47 = .ok (.iload_n 1, 1) := by decide +kernel
theorem dX0_become_48 : decode cX0_become 48 = .ok (.iconst 1, 1) := by decide +kernel
theorem dX0_become_49 : decode cX0_become 49 = .ok (.iand, 1) := by decide +kernel
theorem dX0_become_50 : decode cX0_become 50 = .ok (.ifCond .eq 7, 3) := by decide +kernel
theorem dX0_become_53 : decode cX0_become 53 = .ok (.iconst 1, 1) := by decide +kernel
theorem dX0_become_54 : decode cX0_become 54 = .ok (.goto 4, 3) := by decide +kernel
theorem dX0_become_57 : decode cX0_become 57 = .ok (.iconst 0, 1) := by decide +kernel
theorem dX0_become_58 : decode cX0_become 58 = .ok (.putfield 19, 3) := by decide +kernel
theorem dX0_become_61 : decode cX0_become 61 = .ok (.return_, 1) := by decide +kernel
theorem dX1_init_0 : decode cX1_init 0 = .ok (.aload_n 0, 1) := by decide +kernel
theorem dX1_init_1 : decode cX1_init 1 = .ok (.invokespecial 3, 3) := by decide +kernel
theorem dX1_init_4 : decode cX1_init 4 = .ok (.aload_n 0, 1) := by decide +kernel
theorem dX1_init_5 : decode cX1_init 5 = .ok (.sipush 2048, 3) := by decide +kernel
theorem dX1_init_8 : decode cX1_init 8 = .ok (.newarray .int, 2) := by decide +kernel
theorem dX1_init_10 : decode cX1_init 10 = .ok (.putfield 9, 3) := by decide +kernel
theorem dX1_init_13 : decode cX1_init 13 = .ok (.aload_n 0, 1) := by decide +kernel
theorem dX1_init_14 : decode cX1_init 14 = .ok (.sipush 400, 3) := by decide +kernel
theorem dX1_init_17 : decode cX1_init 17 = .ok (.newarray .int, 2) := by decide +kernel
theorem dX1_init_19 : decode cX1_init 19 = .ok (.putfield 15, 3) := by decide +kernel
theorem dX1_init_22 : decode cX1_init 22 = .ok (.return_, 1) := by decide +kernel
theorem dX1_faultAt_0 : decode cX1_faultAt 0 = .ok (.iload_n 2, 1) := by decide +kernel
theorem dX1_faultAt_1 : decode cX1_faultAt 1 = .ok (.ldc 18, 2) := by decide +kernel
theorem dX1_faultAt_3 : decode cX1_faultAt 3 = .ok (.if_icmp .ne 11, 3) := by decide +kernel
theorem dX1_faultAt_6 : decode cX1_faultAt 6 = .ok (.iload_n 1, 1) := by decide +kernel
theorem dX1_faultAt_7 : decode cX1_faultAt 7 = .ok (.iconst 1, 1) := by decide +kernel
theorem dX1_faultAt_8 : decode cX1_faultAt 8 = .ok (.iand, 1) := by decide +kernel
theorem dX1_faultAt_9 : decode cX1_faultAt 9 = .ok (.ifCond .eq 5, 3) := by decide +kernel
theorem dX1_faultAt_12 : decode cX1_faultAt 12 = .ok (.iconst 2, 1) := by decide +kernel
theorem dX1_faultAt_13 : decode cX1_faultAt 13 = .ok (.ireturn, 1) := by decide +kernel
theorem dX1_faultAt_14 : decode cX1_faultAt 14 = .ok (.iload_n 1, 1) := by decide +kernel
theorem dX1_faultAt_15 : decode cX1_faultAt 15 = .ok (.ifCond .lt 10, 3) := by decide +kernel
theorem dX1_faultAt_18 : decode cX1_faultAt 18 = .ok (.iload_n 1, 1) := by decide +kernel
theorem dX1_faultAt_19 : decode cX1_faultAt 19 = .ok (.sipush 4096, 3) := by decide +kernel
theorem dX1_faultAt_22 : decode cX1_faultAt 22 = .ok (.if_icmp .lt 7, 3) := by decide +kernel
theorem dX1_faultAt_25 : decode cX1_faultAt 25 = .ok (.iconst 3, 1) := by decide +kernel
theorem dX1_faultAt_26 : decode cX1_faultAt 26 = .ok (.goto 4, 3) := by decide +kernel
theorem dX1_faultAt_29 : decode cX1_faultAt 29 = .ok (.iconst 0, 1) := by decide +kernel
theorem dX1_faultAt_30 : decode cX1_faultAt 30 = .ok (.ireturn, 1) := by decide +kernel
theorem dX1_valueAt_0 : decode cX1_valueAt 0 = .ok (.iload_n 1, 1) := by decide +kernel
theorem dX1_valueAt_1 : decode cX1_valueAt 1 = .ok (.iconst 1, 1) := by decide +kernel
theorem dX1_valueAt_2 : decode cX1_valueAt 2 = .ok (.iand, 1) := by decide +kernel
theorem dX1_valueAt_3 : decode cX1_valueAt 3 = .ok (.bipush 8, 2) := by decide +kernel
theorem dX1_valueAt_5 : decode cX1_valueAt 5 = .ok (.imul, 1) := by decide +kernel
theorem dX1_valueAt_6 : decode cX1_valueAt 6 = .ok (.istore_n 3, 1) := by decide +kernel
theorem dX1_valueAt_7 : decode cX1_valueAt 7 = .ok (.aload_n 0, 1) := by decide +kernel
theorem dX1_valueAt_8 : decode cX1_valueAt 8 = .ok (.getfield 9, 3) := by decide +kernel
theorem dX1_valueAt_11 : decode cX1_valueAt 11 = .ok (.iload_n 1, 1) := by decide +kernel
theorem dX1_valueAt_12 : decode cX1_valueAt 12 = .ok (.iconst 1, 1) := by decide +kernel
theorem dX1_valueAt_13 : decode cX1_valueAt 13 = .ok (.ishr, 1) := by decide +kernel
theorem dX1_valueAt_14 : decode cX1_valueAt 14 = .ok (.sipush 2047, 3) := by decide +kernel
theorem dX1_valueAt_17 : decode cX1_valueAt 17 = .ok (.iand, 1) := by decide +kernel
theorem dX1_valueAt_18 : decode cX1_valueAt 18 = .ok (.iaload, 1) := by decide +kernel
theorem dX1_valueAt_19 : decode cX1_valueAt 19 = .ok (.iload_n 3, 1) := by decide +kernel
theorem dX1_valueAt_20 : decode cX1_valueAt 20 = .ok (.ishr, 1) := by decide +kernel
theorem dX1_valueAt_21 : decode cX1_valueAt 21 = .ok (.iload_n 2, 1) := by decide +kernel
theorem dX1_valueAt_22 : decode cX1_valueAt 22 = .ok (.iand, 1) := by decide +kernel
theorem dX1_valueAt_23 : decode cX1_valueAt 23 = .ok (.ireturn, 1) := by decide +kernel
theorem dX1_setWord_0 : decode cX1_setWord 0 = .ok (.aload_n 0, 1) := by decide +kernel
theorem dX1_setWord_1 : decode cX1_setWord 1 = .ok (.getfield 9, 3) := by decide +kernel
theorem dX1_setWord_4 : decode cX1_setWord 4 = .ok (.iload_n 1, 1) := by decide +kernel
theorem dX1_setWord_5 : decode cX1_setWord 5 = .ok (.iconst 1, 1) := by decide +kernel
theorem dX1_setWord_6 : decode cX1_setWord 6 = .ok (.ishr, 1) := by decide +kernel
theorem dX1_setWord_7 : decode cX1_setWord 7 = .ok (.sipush 2047, 3) := by decide +kernel
theorem dX1_setWord_10 : decode cX1_setWord 10 = .ok (.iand, 1) := by decide +kernel
theorem dX1_setWord_11 : decode cX1_setWord 11 = .ok (.iload_n 2, 1) := by decide +kernel
theorem dX1_setWord_12 : decode cX1_setWord 12 = .ok (.ldc 18, 2) := by decide +kernel
theorem dX1_setWord_14 : decode cX1_setWord 14 = .ok (.iand, 1) := by decide +kernel
theorem dX1_setWord_15 : decode cX1_setWord 15 = .ok (.iastore, 1) := by decide +kernel
theorem dX1_setWord_16 : decode cX1_setWord 16 = .ok (.return_, 1) := by decide +kernel
theorem dX1_setPair_0 : decode cX1_setPair 0 = .ok (.aload_n 0, 1) := by decide +kernel
theorem dX1_setPair_1 : decode cX1_setPair 1 = .ok (.iload_n 1, 1) := by decide +kernel
theorem dX1_setPair_2 : decode cX1_setPair 2 = .ok (.iload_n 2, 1) := by decide +kernel
theorem dX1_setPair_3 : decode cX1_setPair 3 = .ok (.bipush 16, 2) := by decide +kernel
theorem dX1_setPair_5 : decode cX1_setPair 5 = .ok (.iushr, 1) := by decide +kernel
theorem dX1_setPair_6 : decode cX1_setPair 6 = .ok (.invokevirtual 19, 3) := by decide +kernel
theorem dX1_setPair_9 : decode cX1_setPair 9 = .ok (.aload_n 0, 1) := by decide +kernel
theorem dX1_setPair_10 : decode cX1_setPair 10 = .ok (.iload_n 1, 1) := by decide +kernel
theorem dX1_setPair_11 : decode cX1_setPair 11 = .ok (.iconst 2, 1) := by decide +kernel
theorem dX1_setPair_12 : decode cX1_setPair 12 = .ok (.iadd, 1) := by decide +kernel
theorem dX1_setPair_13 : decode cX1_setPair 13 = .ok (.iload_n 2, 1) := by decide +kernel
theorem dX1_setPair_14 : decode cX1_setPair 14 = .ok (.invokevirtual 19, 3) := by decide +kernel
theorem dX1_setPair_17 : decode cX1_setPair 17 = .ok (.iadd, 1) := by decide +kernel
theorem dX1_setPair_18 : decode cX1_setPair 18 = .ok (.ireturn, 1) := by decide +kernel
theorem dX1_empty_0 : decode cX1_empty 0 = .ok (.aload_n 0, 1) := by decide +kernel
theorem dX1_empty_1 : decode cX1_empty 1 = .ok (.getfield 9, 3) := by decide +kernel
theorem dX1_empty_4 : decode cX1_empty 4 = .ok (.iconst 0, 1) := by decide +kernel
theorem dX1_empty_5 : decode cX1_empty 5 = .ok (.invokestatic 27, 3) := by decide +kernel
theorem dX1_empty_8 : decode cX1_empty 8 = .ok (.aload_n 0, 1) := by decide +kernel
theorem dX1_empty_9 : decode cX1_empty 9 = .ok (.iconst 0, 1) := by decide +kernel
theorem dX1_empty_10 : decode cX1_empty 10 = .ok (.putfield 23, 3) := by decide +kernel
theorem dX1_empty_13 : decode cX1_empty 13 = .ok (.return_, 1) := by decide +kernel
theorem dX1_setIfThere_0 : decode cX1_setIfThere 0 = .ok (.aload_n 0, 1) := by decide +kernel
theorem dX1_setIfThere_1 : decode cX1_setIfThere 1 = .ok (.iload_n 1, 1) := by decide +kernel
theorem dX1_setIfThere_2 : decode cX1_setIfThere 2 = .ok (.ldc 18, 2) := by decide +kernel
theorem dX1_setIfThere_4 : decode cX1_setIfThere 4 = .ok (.invokevirtual 33, 3) := by decide +kernel
theorem dX1_setIfThere_7 : decode cX1_setIfThere 7 = .ok (.ifCond .eq 5, 3) := by decide +kernel
theorem dX1_setIfThere_10 : decode cX1_setIfThere 10 = .ok (.iconst 0, 1) := by decide +kernel
theorem dX1_setIfThere_11 : decode cX1_setIfThere 11 = .ok (.ireturn, 1) := by decide +kernel
theorem dX1_setIfThere_12 : decode cX1_setIfThere 12 = .ok (.aload_n 0, 1) := by decide +kernel
theorem dX1_setIfThere_13 : decode cX1_setIfThere 13 = .ok (.iload_n 1, 1) := by decide +kernel
theorem dX1_setIfThere_14 : decode cX1_setIfThere 14 = .ok (.iload_n 2, 1) := by decide +kernel
theorem dX1_setIfThere_15 : decode cX1_setIfThere 15 = .ok (.invokevirtual 36, 3) := by decide +kernel
theorem dX1_setIfThere_18 : decode cX1_setIfThere 18 = .ok (.iconst 1, 1) := by decide +kernel
theorem dX1_setIfThere_19 : decode cX1_setIfThere 19 = .ok (.ireturn, 1) := by decide +kernel
theorem dX2_init_0 : decode cX2_init 0 = .ok (.aload_n 0, 1) := by decide +kernel
theorem dX2_init_1 : decode cX2_init 1 = .ok (.invokespecial 3, 3) := by decide +kernel
theorem dX2_init_4 : decode cX2_init 4 = .ok (.aload_n 0, 1) := by decide +kernel
theorem dX2_init_5 : decode cX2_init 5 = .ok (.bipush 8, 2) := by decide +kernel
theorem dX2_init_7 : decode cX2_init 7 = .ok (.newarray .int, 2) := by decide +kernel
theorem dX2_init_9 : decode cX2_init 9 = .ok (.putfield 9, 3) := by decide +kernel
theorem dX2_init_12 : decode cX2_init 12 = .ok (.aload_n 0, 1) := by decide +kernel
theorem dX2_init_13 : decode cX2_init 13 = .ok (.bipush 8, 2) := by decide +kernel
theorem dX2_init_15 : decode cX2_init 15 = .ok (.newarray .int, 2) := by decide +kernel
theorem dX2_init_17 : decode cX2_init 17 = .ok (.putfield 15, 3) := by decide +kernel
theorem dX2_init_20 : decode cX2_init 20 = .ok (.aload_n 0, 1) := by decide +kernel
theorem dX2_init_21 : decode cX2_init 21 = .ok (.aload_n 1, 1) := by decide +kernel
theorem dX2_init_22 : decode cX2_init 22 = .ok (.putfield 18, 3) := by decide +kernel
theorem dX2_init_25 : decode cX2_init 25 = .ok (.return_, 1) := by decide +kernel
theorem dX2_begin_0 : decode cX2_begin 0 = .ok (.aload_n 0, 1) := by decide +kernel
theorem dX2_begin_1 : decode cX2_begin 1 = .ok (.getfield 9, 3) := by decide +kernel
theorem dX2_begin_4 : decode cX2_begin 4 = .ok (.iconst 0, 1) := by decide +kernel
theorem dX2_begin_5 : decode cX2_begin 5 = .ok (.aload_n 0, 1) := by decide +kernel
theorem dX2_begin_6 : decode cX2_begin 6 = .ok (.getfield 15, 3) := by decide +kernel
theorem dX2_begin_9 : decode cX2_begin 9 = .ok (.iconst 0, 1) := by decide +kernel
theorem dX2_begin_10 : decode cX2_begin 10 = .ok (.bipush 8, 2) := by decide +kernel
theorem dX2_begin_12 : decode cX2_begin 12 = .ok (.invokestatic 22, 3) := by decide +kernel
theorem dX2_begin_15 : decode cX2_begin 15 = .ok (.aload_n 0, 1) := by decide +kernel
theorem dX2_begin_16 : decode cX2_begin 16 = .ok (.iconst 0, 1) := by decide +kernel
theorem dX2_begin_17 : decode cX2_begin 17 = .ok (.putfield 28, 3) := by decide +kernel
theorem dX2_begin_20 : decode cX2_begin 20 = .ok (.return_, 1) := by decide +kernel
theorem dX2_empty_0 : decode cX2_empty 0 = .ok (.aload_n 0, 1) := by decide +kernel
theorem dX2_empty_1 : decode cX2_empty 1 = .ok (.getfield 9, 3) := by decide +kernel
theorem dX2_empty_4 : decode cX2_empty 4 = .ok (.iconst 0, 1) := by decide +kernel
theorem dX2_empty_5 : decode cX2_empty 5 = .ok (.invokestatic 32, 3) := by decide +kernel
theorem dX2_empty_8 : decode cX2_empty 8 = .ok (.return_, 1) := by decide +kernel
theorem dX2_fetch_0 : decode cX2_fetch 0 = .ok (.iload_n 1, 1) := by decide +kernel
theorem dX2_fetch_1 : decode cX2_fetch 1 = .ok (.ldc 38, 2) := by decide +kernel
theorem dX2_fetch_3 : decode cX2_fetch 3 = .ok (.if_icmp .lt 15, 3) := by decide +kernel
theorem dX2_fetch_6 : decode cX2_fetch 6 = .ok (.aload_n 0, 1) := by decide +kernel
theorem dX2_fetch_7 : decode cX2_fetch 7 = .ok (.getfield 9, 3) := by decide +kernel
theorem dX2_fetch_10 : decode cX2_fetch 10 = .ok (.iload_n 1, 1) := by decide +kernel
theorem dX2_fetch_11 : decode cX2_fetch 11 = .ok (.bipush 7, 2) := by decide +kernel
theorem dX2_fetch_13 : decode cX2_fetch 13 = .ok (.iand, 1) := by decide +kernel
theorem dX2_fetch_14 : decode cX2_fetch 14 = .ok (.iaload, 1) := by decide +kernel
theorem dX2_fetch_15 : decode cX2_fetch 15 = .ok (.iload_n 2, 1) := by decide +kernel
theorem dX2_fetch_16 : decode cX2_fetch 16 = .ok (.iand, 1) := by decide +kernel
theorem dX2_fetch_17 : decode cX2_fetch 17 = .ok (.ireturn, 1) := by decide +kernel
theorem dX2_fetch_18 : decode cX2_fetch 18 = .ok (.aload_n 0, 1) := by decide +kernel
theorem dX2_fetch_19 : decode cX2_fetch 19 = .ok (.getfield 28, 3) := by decide +kernel
theorem dX2_fetch_22 : decode cX2_fetch 22 = .ok (.ifCond .ne 16, 3) := by decide +kernel
theorem dX2_fetch_25 : decode cX2_fetch 25 = .ok (.aload_n 0, 1) := by decide +kernel
theorem dX2_fetch_26 : decode cX2_fetch 26 = .ok (.aload_n 0, 1) := by decide +kernel
theorem dX2_fetch_27 : decode cX2_fetch 27 = .ok (.getfield 18, 3) := by decide +kernel
theorem dX2_fetch_30 : decode cX2_fetch 30 = .ok (.iload_n 1, 1) := by decide +kernel
theorem dX2_fetch_31 : decode cX2_fetch 31 = .ok (.iload_n 2, 1) := by decide +kernel
theorem dX2_fetch_32 : decode cX2_fetch 32 = .ok (.invokevirtual 56, 3) := by decide +kernel
theorem dX2_fetch_35 : decode cX2_fetch 35 = .ok (.putfield 28, 3) := by decide +kernel
theorem dX2_fetch_38 : decode cX2_fetch 38 = .ok (.aload_n 0, 1) := by decide +kernel
theorem dX2_fetch_39 : decode cX2_fetch 39 = .ok (.getfield 28, 3) := by decide +kernel
theorem dX2_fetch_42 : decode cX2_fetch 42 = .ok (.ifCond .ne 15, 3) := by decide +kernel
theorem dX2_fetch_45 : decode cX2_fetch 45 = .ok (.aload_n 0, 1) := by decide +kernel
theorem dX2_fetch_46 : decode cX2_fetch 46 = .ok (.getfield 18, 3) := by decide +kernel
theorem dX2_fetch_49 : decode cX2_fetch 49 = .ok (.iload_n 1, 1) := by decide +kernel
theorem dX2_fetch_50 : decode cX2_fetch 50 = .ok (.iload_n 2, 1) := by decide +kernel
theorem dX2_fetch_51 : decode cX2_fetch 51 = .ok (.invokevirtual 61, 3) := by decide +kernel
theorem dX2_fetch_54 : decode cX2_fetch 54 = .ok (.goto 4, 3) := by decide +kernel
theorem dX2_fetch_57 : decode cX2_fetch 57 = .ok (.iconst 0, 1) := by decide +kernel
theorem dX2_fetch_58 : decode cX2_fetch 58 = .ok (.ireturn, 1) := by decide +kernel
theorem dX2_takeNext_0 : decode cX2_takeNext 0 = .ok (.aload_n 0, 1) := by decide +kernel
theorem dX2_takeNext_1 : decode cX2_takeNext 1 = .ok (.aload_n 0, 1) := by decide +kernel
theorem dX2_takeNext_2 : decode cX2_takeNext 2 = .ok (.bipush 7, 2) := by decide +kernel
theorem dX2_takeNext_4 : decode cX2_takeNext 4 = .ok (.iconst 2, 1) := by decide +kernel
theorem dX2_takeNext_5 : decode cX2_takeNext 5 = .ok (.invokevirtual 43, 3) := by decide +kernel
theorem dX2_takeNext_8 : decode cX2_takeNext 8 = .ok (.ldc 46, 2) := by decide +kernel
theorem dX2_takeNext_10 : decode cX2_takeNext 10 = .ok (.invokevirtual 47, 3) := by decide +kernel
theorem dX2_takeNext_13 : decode cX2_takeNext 13 = .ok (.ireturn, 1) := by decide +kernel
theorem dX2_grow_0 : decode cX2_grow 0 = .ok (.aload_n 0, 1) := by decide +kernel
theorem dX2_grow_1 : decode cX2_grow 1 = .ok (.getfield 9, 3) := by decide +kernel
theorem dX2_grow_4 : decode cX2_grow 4 = .ok (.iload_n 1, 1) := by decide +kernel
theorem dX2_grow_5 : decode cX2_grow 5 = .ok (.iaload, 1) := by decide +kernel
theorem dX2_grow_6 : decode cX2_grow 6 = .ok (.istore_n 3, 1) := by decide +kernel
theorem dX2_grow_7 : decode cX2_grow 7 = .ok (.aload_n 0, 1) := by decide +kernel
theorem dX2_grow_8 : decode cX2_grow 8 = .ok (.getfield 9, 3) := by decide +kernel
theorem dX2_grow_11 : decode cX2_grow 11 = .ok (.iload_n 1, 1) := by decide +kernel
theorem dX2_grow_12 : decode cX2_grow 12 = .ok (.iload_n 3, 1) := by decide +kernel
theorem dX2_grow_13 : decode cX2_grow 13 = .ok (.iload_n 2, 1) := by decide +kernel
theorem dX2_grow_14 : decode cX2_grow 14 = .ok (.iadd, 1) := by decide +kernel
theorem dX2_grow_15 : decode cX2_grow 15 = .ok (.ldc 46, 2) := by decide +kernel
theorem dX2_grow_17 : decode cX2_grow 17 = .ok (.iand, 1) := by decide +kernel
theorem dX2_grow_18 : decode cX2_grow 18 = .ok (.iastore, 1) := by decide +kernel
theorem dX2_grow_19 : decode cX2_grow 19 = .ok (.iload_n 3, 1) := by decide +kernel
theorem dX2_grow_20 : decode cX2_grow 20 = .ok (.ireturn, 1) := by decide +kernel
theorem dX3_init_0 : decode cX3_init 0 = .ok (.aload_n 0, 1) := by decide +kernel
theorem dX3_init_1 : decode cX3_init 1 = .ok (.invokespecial 3, 3) := by decide +kernel
theorem dX3_init_4 : decode cX3_init 4 = .ok (.aload_n 0, 1) := by decide +kernel
theorem dX3_init_5 : decode cX3_init 5 = .ok (.new 9, 3) := by decide +kernel
theorem dX3_init_8 : decode cX3_init 8 = .ok (.dup, 1) := by decide +kernel
theorem dX3_init_9 : decode cX3_init 9 = .ok (.invokespecial 11, 3) := by decide +kernel
theorem dX3_init_12 : decode cX3_init 12 = .ok (.putfield 12, 3) := by decide +kernel
theorem dX3_init_15 : decode cX3_init 15 = .ok (.aload_n 0, 1) := by decide +kernel
theorem dX3_init_16 : decode cX3_init 16 = .ok (.new 18, 3) := by decide +kernel
theorem dX3_init_19 : decode cX3_init 19 = .ok (.dup, 1) := by decide +kernel
theorem dX3_init_20 : decode cX3_init 20 = .ok (.aload_n 1, 1) := by decide +kernel
theorem dX3_init_21 : decode cX3_init 21 = .ok (.invokespecial 20, 3) := by decide +kernel
theorem dX3_init_24 : decode cX3_init 24 = .ok (.putfield 23, 3) := by decide +kernel
theorem dX3_init_27 : decode cX3_init 27 = .ok (.return_, 1) := by decide +kernel
theorem dX3_empty_0 : decode cX3_empty 0 = .ok (.aload_n 0, 1) := by decide +kernel
theorem dX3_empty_1 : decode cX3_empty 1 = .ok (.getfield 23, 3) := by decide +kernel
theorem dX3_empty_4 : decode cX3_empty 4 = .ok (.invokevirtual 27, 3) := by decide +kernel
theorem dX3_empty_7 : decode cX3_empty 7 = .ok (.aload_n 0, 1) := by decide +kernel
theorem dX3_empty_8 : decode cX3_empty 8 = .ok (.getfield 12, 3) := by decide +kernel
theorem dX3_empty_11 : decode cX3_empty 11 = .ok (.iconst 0, 1) := by decide +kernel
theorem dX3_empty_12 : decode cX3_empty 12 = .ok (.invokevirtual 30, 3) := by decide +kernel
theorem dX3_empty_15 : decode cX3_empty 15 = .ok (.return_, 1) := by decide +kernel
theorem dX3_step_0 : decode cX3_step 0 = .ok (.aload_n 0, 1) := by decide +kernel
theorem dX3_step_1 : decode cX3_step 1 = .ok (.getfield 23, 3) := by decide +kernel
theorem dX3_step_4 : decode cX3_step 4 = .ok (.invokevirtual 34, 3) := by decide +kernel
theorem dX3_step_7 : decode cX3_step 7 = .ok (.aload_n 0, 1) := by decide +kernel
theorem dX3_step_8 : decode cX3_step 8 = .ok (.getfield 12, 3) := by decide +kernel
theorem dX3_step_11 : decode cX3_step 11 = .ok (.invokevirtual 37, 3) := by decide +kernel
theorem dX3_step_14 : decode cX3_step 14 = .ok (.istore_n 1, 1) := by decide +kernel
theorem dX3_step_15 : decode cX3_step 15 = .ok (.aload_n 0, 1) := by decide +kernel
theorem dX3_step_16 : decode cX3_step 16 = .ok (.getfield 23, 3) := by decide +kernel
theorem dX3_step_19 : decode cX3_step 19 = .ok (.invokevirtual 41, 3) := by decide +kernel
theorem dX3_step_22 : decode cX3_step 22 = .ok (.istore_n 2, 1) := by decide +kernel
theorem dX3_step_23 : decode cX3_step 23 = .ok (.aload_n 0, 1) := by decide +kernel
theorem dX3_step_24 : decode cX3_step 24 = .ok (.getfield 23, 3) := by decide +kernel
theorem dX3_step_27 : decode cX3_step 27 = .ok (.getfield 44, 3) := by decide +kernel
theorem dX3_step_30 : decode cX3_step 30 = .ok (.ifCond .ne 63, 3) := by decide +kernel
theorem dX3_step_33 : decode cX3_step 33 = .ok (.iload_n 2, 1) := by decide +kernel
theorem dX3_step_34 : decode cX3_step 34 = .ok (.ifCond .ne 5, 3) := by decide +kernel
theorem dX3_step_37 : decode cX3_step 37 = .ok (.iconst 1, 1) := by decide +kernel
theorem dX3_step_38 : decode cX3_step 38 = .ok (.ireturn, 1) := by decide +kernel
theorem dX3_step_39 : decode cX3_step 39 = .ok (.iload_n 2, 1) := by decide +kernel
theorem dX3_step_40 : decode cX3_step 40 = .ok (.bipush 12, 2) := by decide +kernel
theorem dX3_step_42 : decode cX3_step 42 = .ok (.ishr, 1) := by decide +kernel
theorem dX3_step_43 : decode cX3_step 43 = .ok (.bipush 7, 2) := by decide +kernel
theorem dX3_step_45 : decode cX3_step 45 = .ok (.iand, 1) := by decide +kernel
theorem dX3_step_46 : decode cX3_step 46 = .ok (.istore_n 3, 1) := by decide +kernel
theorem dX3_step_47 : decode cX3_step 47 = .ok (.iload_n 3, 1) := by decide +kernel
theorem dX3_step_48 : decode cX3_step 48 = .ok (.ifCond .ne 11, 3) := by decide +kernel
theorem dX3_step_51 : decode cX3_step 51 = .ok (.aload_n 0, 1) := by decide +kernel
theorem dX3_step_52 : decode cX3_step 52 = .ok (.iload_n 2, 1) := by decide +kernel
theorem dX3_step_53 : decode cX3_step 53 = .ok (.invokevirtual 48, 3) := by decide +kernel
theorem dX3_step_56 : decode cX3_step 56 = .ok (.goto 37, 3) := by decide +kernel
theorem dX3_step_59 : decode cX3_step 59 = .ok (.iload_n 3, 1) := by decide +kernel
theorem dX3_step_60 : decode cX3_step 60 = .ok (.bipush 6, 2) := by decide +kernel
theorem dX3_step_62 : decode cX3_step 62 = .ok (.if_icmp .ne 11, 3) := by decide +kernel
theorem dX3_step_65 : decode cX3_step 65 = .ok (.aload_n 0, 1) := by decide +kernel
theorem dX3_step_66 : decode cX3_step 66 = .ok (.iload_n 2, 1) := by decide +kernel
theorem dX3_step_67 : decode cX3_step 67 = .ok (.invokevirtual 51, 3) := by decide +kernel
theorem dX3_step_70 : decode cX3_step 70 = .ok (.goto 23, 3) := by decide +kernel
theorem dX3_step_73 : decode cX3_step 73 = .ok (.iload_n 3, 1) := by decide +kernel
theorem dX3_step_74 : decode cX3_step 74 = .ok (.bipush 7, 2) := by decide +kernel
theorem dX3_step_76 : decode cX3_step 76 = .ok (.if_icmp .ne 11, 3) := by decide +kernel
theorem dX3_step_79 : decode cX3_step 79 = .ok (.aload_n 0, 1) := by decide +kernel
theorem dX3_step_80 : decode cX3_step 80 = .ok (.iload_n 2, 1) := by decide +kernel
theorem dX3_step_81 : decode cX3_step 81 = .ok (.invokevirtual 54, 3) := by decide +kernel
theorem dX3_step_84 : decode cX3_step 84 = .ok (.goto 9, 3) := by decide +kernel
theorem dX3_step_87 : decode cX3_step 87 = .ok (.aload_n 0, 1) := by decide +kernel
theorem dX3_step_88 : decode cX3_step 88 = .ok (.iload_n 2, 1) := by decide +kernel
theorem dX3_step_89 : decode cX3_step 89 = .ok (.iload_n 3, 1) := by decide +kernel
theorem dX3_step_90 : decode cX3_step 90 = .ok (.invokevirtual 57, 3) := by decide +kernel
theorem dX3_step_93 : decode cX3_step 93 = .ok (.aload_n 0, 1) := by decide +kernel
theorem dX3_step_94 : decode cX3_step 94 = .ok (.getfield 23, 3) := by decide +kernel
theorem dX3_step_97 : decode cX3_step 97 = .ok (.getfield 44, 3) := by decide +kernel
theorem dX3_step_100 : decode cX3_step 100 = .ok (.ifCond .eq 18, 3) := by decide +kernel
theorem dX3_step_103 : decode cX3_step 103 = .ok (.aload_n 0, 1) := by decide +kernel
theorem dX3_step_104 : decode cX3_step 104 = .ok (.getfield 23, 3) := by decide +kernel
theorem dX3_step_107 : decode cX3_step 107 = .ok (.invokevirtual 61, 3) := by decide +kernel
theorem dX3_step_110 : decode cX3_step 110 = .ok (.aload_n 0, 1) := by decide +kernel
theorem dX3_step_111 : decode cX3_step 111 = .ok (.getfield 12, 3) := by decide +kernel
theorem dX3_step_114 : decode cX3_step 114 = .ok (.iload_n 1, 1) := by decide +kernel
theorem dX3_step_115 : decode cX3_step 115 = .ok (.invokevirtual 30, 3) := by decide +kernel
theorem dX3_step_118 : decode cX3_step 118 = .ok (.aload_n 0, 1) := by decide +kernel
theorem dX3_step_119 : decode cX3_step 119 = .ok (.getfield 23, 3) := by decide +kernel
theorem dX3_step_122 : decode cX3_step 122 = .ok (.getfield 44, 3) := by decide +kernel
theorem dX3_step_125 : decode cX3_step 125 = .ok (.ireturn, 1) := by decide +kernel
theorem dX4_init_0 : decode cX4_init 0 = .ok (.aload_n 0, 1) := by decide +kernel
theorem dX4_init_1 : decode cX4_init 1 = .ok (.invokespecial 3, 3) := by decide +kernel
theorem dX4_init_4 : decode cX4_init 4 = .ok (.aload_n 0, 1) := by decide +kernel
theorem dX4_init_5 : decode cX4_init 5 = .ok (.new 9, 3) := by decide +kernel
theorem dX4_init_8 : decode cX4_init 8 = .ok (.dup, 1) := by decide +kernel
theorem dX4_init_9 : decode cX4_init 9 = .ok (.invokespecial 11, 3) := by decide +kernel
theorem dX4_init_12 : decode cX4_init 12 = .ok (.putfield 12, 3) := by decide +kernel
theorem dX4_init_15 : decode cX4_init 15 = .ok (.aload_n 0, 1) := by decide +kernel
theorem dX4_init_16 : decode cX4_init 16 = .ok (.new 16, 3) := by decide +kernel
theorem dX4_init_19 : decode cX4_init 19 = .ok (.dup, 1) := by decide +kernel
theorem dX4_init_20 : decode cX4_init 20 = .ok (.aload_n 0, 1) := by decide +kernel
theorem dX4_init_21 : decode cX4_init 21 = .ok (.getfield 12, 3) := by decide +kernel
theorem dX4_init_24 : decode cX4_init 24 = .ok (.invokespecial 18, 3) := by decide +kernel
theorem dX4_init_27 : decode cX4_init 27 = .ok (.putfield 21, 3) := by decide +kernel
theorem dX4_init_30 : decode cX4_init 30 = .ok (.return_, 1) := by decide +kernel
theorem dX4_load_0 : decode cX4_load 0 = .ok (.aload_n 0, 1) := by decide +kernel
theorem dX4_load_1 : decode cX4_load 1 = .ok (.iload_n 1, 1) := by decide +kernel
theorem dX4_load_2 : decode cX4_load 2 = .ok (.invokevirtual 25, 3) := by decide +kernel
theorem dX4_load_5 : decode cX4_load 5 = .ok (.aload_n 0, 1) := by decide +kernel
theorem dX4_load_6 : decode cX4_load 6 = .ok (.getfield 12, 3) := by decide +kernel
theorem dX4_load_9 : decode cX4_load 9 = .ok (.iload_n 1, 1) := by decide +kernel
theorem dX4_load_10 : decode cX4_load 10 = .ok (.iload_n 2, 1) := by decide +kernel
theorem dX4_load_11 : decode cX4_load 11 = .ok (.invokevirtual 29, 3) := by decide +kernel
theorem dX4_load_14 : decode cX4_load 14 = .ok (.aload_n 0, 1) := by decide +kernel
theorem dX4_load_15 : decode cX4_load 15 = .ok (.getfield 12, 3) := by decide +kernel
theorem dX4_load_18 : decode cX4_load 18 = .ok (.iload_n 1, 1) := by decide +kernel
theorem dX4_load_19 : decode cX4_load 19 = .ok (.iconst 4, 1) := by decide +kernel
theorem dX4_load_20 : decode cX4_load 20 = .ok (.iadd, 1) := by decide +kernel
theorem dX4_load_21 : decode cX4_load 21 = .ok (.iload_n 3, 1) := by decide +kernel
theorem dX4_load_22 : decode cX4_load 22 = .ok (.invokevirtual 29, 3) := by decide +kernel
theorem dX4_load_25 : decode cX4_load 25 = .ok (.iadd, 1) := by decide +kernel
theorem dX4_load_26 : decode cX4_load 26 = .ok (.aload_n 0, 1) := by decide +kernel
theorem dX4_load_27 : decode cX4_load 27 = .ok (.getfield 12, 3) := by decide +kernel
theorem dX4_load_30 : decode cX4_load 30 = .ok (.iload_n 1, 1) := by decide +kernel
theorem dX4_load_31 : decode cX4_load 31 = .ok (.bipush 8, 2) := by decide +kernel
theorem dX4_load_33 : decode cX4_load 33 = .ok (.iadd, 1) := by decide +kernel
theorem dX4_load_34 : decode cX4_load 34 = .ok (.iload 4, 2) := by decide +kernel
theorem dX4_load_36 : decode cX4_load 36 = .ok (.invokevirtual 29, 3) := by decide +kernel
theorem dX4_load_39 : decode cX4_load 39 = .ok (.iadd, 1) := by decide +kernel
theorem dX4_load_40 : decode cX4_load 40 = .ok (.aload_n 0, 1) := by decide +kernel
theorem dX4_load_41 : decode cX4_load 41 = .ok (.getfield 12, 3) := by decide +kernel
theorem dX4_load_44 : decode cX4_load 44 = .ok (.iload_n 1, 1) := by decide +kernel
theorem dX4_load_45 : decode cX4_load 45 = .ok (.bipush 12, 2) := by decide +kernel
theorem dX4_load_47 : decode cX4_load 47 = .ok (.iadd, 1) := by decide +kernel
theorem dX4_load_48 : decode cX4_load 48 = .ok (.iload 5, 2) := by decide +kernel
theorem dX4_load_50 : decode cX4_load 50 = .ok (.invokevirtual 29, 3) := by decide +kernel
theorem dX4_load_53 : decode cX4_load 53 = .ok (.iadd, 1) := by decide +kernel
theorem dX4_load_54 : decode cX4_load 54 = .ok (.aload_n 0, 1) := by decide +kernel
theorem dX4_load_55 : decode cX4_load 55 = .ok (.getfield 12, 3) := by decide +kernel
theorem dX4_load_58 : decode cX4_load 58 = .ok (.iload_n 1, 1) := by decide +kernel
theorem dX4_load_59 : decode cX4_load 59 = .ok (.bipush 16, 2) := by decide +kernel
theorem dX4_load_61 : decode cX4_load 61 = .ok (.iadd, 1) := by decide +kernel
theorem dX4_load_62 : decode cX4_load 62 = .ok (.iload 6, 2) := by decide +kernel
theorem dX4_load_64 : decode cX4_load 64 = .ok (.invokevirtual 29, 3) := by decide +kernel
theorem dX4_load_67 : decode cX4_load 67 = .ok (.iadd, 1) := by decide +kernel
theorem dX4_load_68 : decode cX4_load 68 = .ok (.ireturn, 1) := by decide +kernel
theorem dX4_word_0 : decode cX4_word 0 = .ok (.aload_n 0, 1) := by decide +kernel
theorem dX4_word_1 : decode cX4_word 1 = .ok (.iload_n 1, 1) := by decide +kernel
theorem dX4_word_2 : decode cX4_word 2 = .ok (.invokevirtual 25, 3) := by decide +kernel
theorem dX4_word_5 : decode cX4_word 5 = .ok (.aload_n 0, 1) := by decide +kernel
theorem dX4_word_6 : decode cX4_word 6 = .ok (.getfield 12, 3) := by decide +kernel
theorem dX4_word_9 : decode cX4_word 9 = .ok (.iload_n 1, 1) := by decide +kernel
theorem dX4_word_10 : decode cX4_word 10 = .ok (.ldc 33, 2) := by decide +kernel
