theorem dX2_store_12 : decode cX2_store 12 = .ok (.aload_n 0, 1) := by decide +kernel
theorem dX2_store_13 : decode cX2_store 13 = .ok (.getfield 9, 3) := by decide +kernel
theorem dX2_store_16 : decode cX2_store 16 = .ok (.iload 4, 2) := by decide +kernel
theorem dX2_store_18 : decode cX2_store 18 = .ok (.aload_n 0, 1) := by decide +kernel
theorem dX2_store_19 : decode cX2_store 19 = .ok (.getfield 9, 3) := by decide +kernel
theorem dX2_store_22 : decode cX2_store 22 = .ok (.iload 4, 2) := by decide +kernel
theorem dX2_store_24 : decode cX2_store 24 = .ok (.iaload, 1) := by decide +kernel
theorem dX2_store_25 : decode cX2_store 25 = .ok (.iload_n 2, 1) := by decide +kernel
theorem dX2_store_26 : decode cX2_store 26 = .ok (.iconst (-1), 1) := by decide +kernel
theorem dX2_store_27 : decode cX2_store 27 = .ok (.ixor, 1) := by decide +kernel
theorem dX2_store_28 : decode cX2_store 28 = .ok (.iand, 1) := by decide +kernel
theorem dX2_store_29 : decode cX2_store 29 = .ok (.iload_n 3, 1) := by decide +kernel
theorem dX2_store_30 : decode cX2_store 30 = .ok (.iload_n 2, 1) := by decide +kernel
theorem dX2_store_31 : decode cX2_store 31 = .ok (.iand, 1) := by decide +kernel
theorem dX2_store_32 : decode cX2_store 32 = .ok (.ior, 1) := by decide +kernel
theorem dX2_store_33 : decode cX2_store 33 = .ok (.iastore, 1) := by decide +kernel
theorem dX2_store_34 : decode cX2_store 34 = .ok (.return_, 1) := by decide +kernel
theorem dX2_store_35 : decode cX2_store 35 = .ok (.aload_n 0, 1) := by decide +kernel
theorem dX2_store_36 : decode cX2_store 36 = .ok (.getfield 28, 3) := by decide +kernel
theorem dX2_store_39 : decode cX2_store 39 = .ok (.ifCond .ne 16, 3) := by decide +kernel
theorem dX2_store_42 : decode cX2_store 42 = .ok (.aload_n 0, 1) := by decide +kernel
theorem dX2_store_43 : decode cX2_store 43 = .ok (.aload_n 0, 1) := by decide +kernel
theorem dX2_store_44 : decode cX2_store 44 = .ok (.getfield 18, 3) := by decide +kernel
theorem dX2_store_47 : decode cX2_store 47 = .ok (.iload_n 1, 1) := by decide +kernel
theorem dX2_store_48 : decode cX2_store 48 = .ok (.iload_n 2, 1) := by decide +kernel
theorem dX2_store_49 : decode cX2_store 49 = .ok (.invokevirtual 56, 3) := by decide +kernel
theorem dX2_store_52 : decode cX2_store 52 = .ok (.putfield 28, 3) := by decide +kernel
theorem dX2_store_55 : decode cX2_store 55 = .ok (.aload_n 0, 1) := by decide +kernel
theorem dX2_store_56 : decode cX2_store 56 = .ok (.getfield 28, 3) := by decide +kernel
theorem dX2_store_59 : decode cX2_store 59 = .ok (.ifCond .ne 13, 3) := by decide +kernel
theorem dX2_store_62 : decode cX2_store 62 = .ok (.aload_n 0, 1) := by decide +kernel
theorem dX2_store_63 : decode cX2_store 63 = .ok (.getfield 18, 3) := by decide +kernel
theorem dX2_store_66 : decode cX2_store 66 = .ok (.iload_n 1, 1) := by decide +kernel
theorem dX2_store_67 : decode cX2_store 67 = .ok (.iload_n 2, 1) := by decide +kernel
theorem dX2_store_68 : decode cX2_store 68 = .ok (.iload_n 3, 1) := by decide +kernel
theorem dX2_store_69 : decode cX2_store 69 = .ok (.invokevirtual 64, 3) := by decide +kernel
theorem dX2_store_72 : decode cX2_store 72 = .ok (.return_, 1) := by decide +kernel
theorem dX2_storeMoved_0 : decode cX2_storeMoved 0 = .ok (.iload_n 1, 1) := by decide +kernel
theorem dX2_storeMoved_1 : decode cX2_storeMoved 1 = .ok (.ldc 38, 2) := by decide +kernel
theorem dX2_storeMoved_3 : decode cX2_storeMoved 3 = .ok (.if_icmp .lt 32, 3) := by decide +kernel
theorem dX2_storeMoved_6 : decode cX2_storeMoved 6 = .ok (.iload_n 2, 1) := by decide +kernel
theorem dX2_storeMoved_7 : decode cX2_storeMoved 7 = .ok (.sipush 255, 3) := by decide +kernel
theorem dX2_storeMoved_10 : decode cX2_storeMoved 10 = .ok (.if_icmp .ne 25, 3) := by decide +kernel
theorem dX2_storeMoved_13 : decode cX2_storeMoved 13 = .ok (.aload_n 0, 1) := by decide +kernel
theorem dX2_storeMoved_14 : decode cX2_storeMoved 14 = .ok (.getfield 9, 3) := by decide +kernel
theorem dX2_storeMoved_17 : decode cX2_storeMoved 17 = .ok (.iload_n 1, 1) := by decide +kernel
theorem dX2_storeMoved_18 : decode cX2_storeMoved 18 = .ok (.bipush 7, 2) := by decide +kernel
theorem dX2_storeMoved_20 : decode cX2_storeMoved 20 = .ok (.iand, 1) := by decide +kernel
theorem dX2_storeMoved_21 : decode cX2_storeMoved 21 = .ok (.iload_n 3, 1) := by decide +kernel
theorem dX2_storeMoved_22 : decode cX2_storeMoved 22 = .ok (.sipush 255, 3) := by decide +kernel
theorem dX2_storeMoved_25 : decode cX2_storeMoved 25 = .ok (.invokestatic 68, 3) := by decide +kernel
theorem dX2_storeMoved_28 : decode cX2_storeMoved 28 = .ok (.ldc 46, 2) := by decide +kernel
theorem dX2_storeMoved_30 : decode cX2_storeMoved 30 = .ok (.iand, 1) := by decide +kernel
theorem dX2_storeMoved_31 : decode cX2_storeMoved 31 = .ok (.iastore, 1) := by decide +kernel
theorem dX2_storeMoved_32 : decode cX2_storeMoved 32 = .ok (.goto 10, 3) := by decide +kernel
theorem dX2_storeMoved_35 : decode cX2_storeMoved 35 = .ok (.aload_n 0, 1) := by decide +kernel
theorem dX2_storeMoved_36 : decode cX2_storeMoved 36 = .ok (.iload_n 1, 1) := by decide +kernel
theorem dX2_storeMoved_37 : decode cX2_storeMoved 37 = .ok (.iload_n 2, 1) := by decide +kernel
theorem dX2_storeMoved_38 : decode cX2_storeMoved 38 = .ok (.iload_n 3, 1) := by decide +kernel
theorem dX2_storeMoved_39 : decode cX2_storeMoved 39 = .ok (.invokevirtual 71, 3) := by decide +kernel
theorem dX2_storeMoved_42 : decode cX2_storeMoved 42 = .ok (.return_, 1) := by decide +kernel
theorem dX2_takeNext_0 : decode cX2_takeNext 0 = .ok (.aload_n 0, 1) := by decide +kernel
theorem dX2_takeNext_1 : decode cX2_takeNext 1 = .ok (.aload_n 0, 1) := by decide +kernel
theorem dX2_takeNext_2 : decode cX2_takeNext 2 = .ok (.bipush 7, 2) := by decide +kernel
theorem dX2_takeNext_4 : decode cX2_takeNext 4 = .ok (.iconst 2, 1) := by decide +kernel
theorem dX2_takeNext_5 : decode cX2_takeNext 5 = .ok (.invokevirtual 43, 3) := by decide +kernel
theorem dX2_takeNext_8 : decode cX2_takeNext 8 = .ok (.ldc 46, 2) := by decide +kernel
theorem dX2_takeNext_10 : decode cX2_takeNext 10 = .ok (.invokevirtual 47, 3) := by decide +kernel
theorem dX2_takeNext_13 : decode cX2_takeNext 13 = .ok (.ireturn, 1) := by decide +kernel
theorem dX2_push_0 : decode cX2_push 0 = .ok (.aload_n 0, 1) := by decide +kernel
theorem dX2_push_1 : decode cX2_push 1 = .ok (.aload_n 0, 1) := by decide +kernel
theorem dX2_push_2 : decode cX2_push 2 = .ok (.bipush 6, 2) := by decide +kernel
theorem dX2_push_4 : decode cX2_push 4 = .ok (.iconst 2, 1) := by decide +kernel
theorem dX2_push_5 : decode cX2_push 5 = .ok (.invokevirtual 50, 3) := by decide +kernel
theorem dX2_push_8 : decode cX2_push 8 = .ok (.ldc 46, 2) := by decide +kernel
theorem dX2_push_10 : decode cX2_push 10 = .ok (.iload_n 1, 1) := by decide +kernel
theorem dX2_push_11 : decode cX2_push 11 = .ok (.invokevirtual 71, 3) := by decide +kernel
theorem dX2_push_14 : decode cX2_push 14 = .ok (.return_, 1) := by decide +kernel
theorem dX2_pop_0 : decode cX2_pop 0 = .ok (.aload_n 0, 1) := by decide +kernel
theorem dX2_pop_1 : decode cX2_pop 1 = .ok (.aload_n 0, 1) := by decide +kernel
theorem dX2_pop_2 : decode cX2_pop 2 = .ok (.bipush 6, 2) := by decide +kernel
theorem dX2_pop_4 : decode cX2_pop 4 = .ok (.iconst 2, 1) := by decide +kernel
theorem dX2_pop_5 : decode cX2_pop 5 = .ok (.invokevirtual 43, 3) := by decide +kernel
theorem dX2_pop_8 : decode cX2_pop 8 = .ok (.ldc 46, 2) := by decide +kernel
theorem dX2_pop_10 : decode cX2_pop 10 = .ok (.invokevirtual 47, 3) := by decide +kernel
theorem dX2_pop_13 : decode cX2_pop 13 = .ok (.ireturn, 1) := by decide +kernel
theorem dX2_goOn_0 : decode cX2_goOn 0 = .ok (.aload_n 0, 1) := by decide +kernel
theorem dX2_goOn_1 : decode cX2_goOn 1 = .ok (.getfield 9, 3) := by decide +kernel
theorem dX2_goOn_4 : decode cX2_goOn 4 = .ok (.bipush 7, 2) := by decide +kernel
theorem dX2_goOn_6 : decode cX2_goOn 6 = .ok (.aload_n 0, 1) := by decide +kernel
theorem dX2_goOn_7 : decode cX2_goOn 7 = .ok (.getfield 9, 3) := by decide +kernel
theorem dX2_goOn_10 : decode cX2_goOn 10 = .ok (.bipush 7, 2) := by decide +kernel
theorem dX2_goOn_12 : decode cX2_goOn 12 = .ok (.iaload, 1) := by decide +kernel
theorem dX2_goOn_13 : decode cX2_goOn 13 = .ok (.iconst 2, 1) := by decide +kernel
theorem dX2_goOn_14 : decode cX2_goOn 14 = .ok (.iload_n 1, 1) := by decide +kernel
theorem dX2_goOn_15 : decode cX2_goOn 15 = .ok (.imul, 1) := by decide +kernel
theorem dX2_goOn_16 : decode cX2_goOn 16 = .ok (.iadd, 1) := by decide +kernel
theorem dX2_goOn_17 : decode cX2_goOn 17 = .ok (.ldc 46, 2) := by decide +kernel
theorem dX2_goOn_19 : decode cX2_goOn 19 = .ok (.iand, 1) := by decide +kernel
theorem dX2_goOn_20 : decode cX2_goOn 20 = .ok (.iastore, 1) := by decide +kernel
theorem dX2_goOn_21 : decode cX2_goOn 21 = .ok (.return_, 1) := by decide +kernel
theorem dX2_grow_0 : decode cX2_grow 0 = .ok (.aload_n 0, 1) := by decide +kernel
theorem dX2_grow_1 : decode cX2_grow 1 = .ok (.getfield 9, 3) := by decide +kernel
theorem dX2_grow_4 : decode cX2_grow 4 = .ok (.iload_n 1, 1) := by decide +kernel
theorem dX2_grow_5 : decode cX2_grow 5 = .ok (.iaload, 1) := by decide +kernel
theorem dX2_grow_6 : decode cX2_grow 6 = .ok (.istore_n 3, 1) := by decide +kernel
theorem dX2_grow_7 : decode cX2_grow 7 = .ok (.aload_n 0, 1) := by decide +kernel
theorem dX2_grow_8 : decode cX2_grow 8 = .ok (.getfield 9, 3) := by decide +kernel
theorem dX2_grow_11 : decode cX2_grow 11 = .ok (.iload_n 1, 1) := by decide +kernel
theorem dX2_grow_12 : decode cX2_grow 12 = .ok (.iload_n 3, 1) := by decide +kernel
theorem dX2_grow_13 : decode cX2_grow 13 = .ok (.iload_n 2, 1) := by decide +kernel
theorem dX2_grow_14 : decode cX2_grow 14 = .ok (.iadd, 1) := by decide +kernel
theorem dX2_grow_15 : decode cX2_grow 15 = .ok (.ldc 46, 2) := by decide +kernel
theorem dX2_grow_17 : decode cX2_grow 17 = .ok (.iand, 1) := by decide +kernel
theorem dX2_grow_18 : decode cX2_grow 18 = .ok (.iastore, 1) := by decide +kernel
theorem dX2_grow_19 : decode cX2_grow 19 = .ok (.iload_n 3, 1) := by decide +kernel
theorem dX2_grow_20 : decode cX2_grow 20 = .ok (.ireturn, 1) := by decide +kernel
theorem dX2_shrink_0 : decode cX2_shrink 0 = .ok (.aload_n 0, 1) := by decide +kernel
theorem dX2_shrink_1 : decode cX2_shrink 1 = .ok (.getfield 9, 3) := by decide +kernel
theorem dX2_shrink_4 : decode cX2_shrink 4 = .ok (.iload_n 1, 1) := by decide +kernel
theorem dX2_shrink_5 : decode cX2_shrink 5 = .ok (.aload_n 0, 1) := by decide +kernel
theorem dX2_shrink_6 : decode cX2_shrink 6 = .ok (.getfield 9, 3) := by decide +kernel
theorem dX2_shrink_9 : decode cX2_shrink 9 = .ok (.iload_n 1, 1) := by decide +kernel
theorem dX2_shrink_10 : decode cX2_shrink 10 = .ok (.iaload, 1) := by decide +kernel
theorem dX2_shrink_11 : decode cX2_shrink 11 = .ok (.iload_n 2, 1) := by decide +kernel
theorem dX2_shrink_12 : decode cX2_shrink 12 = .ok (.isub, 1) := by decide +kernel
theorem dX2_shrink_13 : decode cX2_shrink 13 = .ok (.ldc 46, 2) := by decide +kernel
theorem dX2_shrink_15 : decode cX2_shrink 15 = .ok (.iand, 1) := by decide +kernel
theorem dX2_shrink_16 : decode cX2_shrink 16 = .ok (.iastore, 1) := by decide +kernel
theorem dX2_shrink_17 : decode cX2_shrink 17 = .ok (.aload_n 0, 1) := by decide +kernel
theorem dX2_shrink_18 : decode cX2_shrink 18 = .ok (.getfield 9, 3) := by decide +kernel
theorem dX2_shrink_21 : decode cX2_shrink 21 = .ok (.iload_n 1, 1) := by decide +kernel
theorem dX2_shrink_22 : decode cX2_shrink 22 = .ok (.iaload, 1) := by decide +kernel
theorem dX2_shrink_23 : decode cX2_shrink 23 = .ok (.ireturn, 1) := by decide +kernel
theorem dX2_fromRegister_0 : decode cX2_fromRegister 0 = .ok (.aload_n 0, 1) := by decide +kernel
theorem dX2_fromRegister_1 : decode cX2_fromRegister 1 = .ok (.getfield 9, 3) := by decide +kernel
theorem dX2_fromRegister_4 : decode cX2_fromRegister 4 = .ok (.iload_n 1, 1) := by decide +kernel
theorem dX2_fromRegister_5 : decode cX2_fromRegister 5 = .ok (.iaload, 1) := by decide +kernel
theorem dX2_fromRegister_6 : decode cX2_fromRegister 6 = .ok (.iload_n 2, 1) := by decide +kernel
theorem dX2_fromRegister_7 : decode cX2_fromRegister 7 = .ok (.iadd, 1) := by decide +kernel
theorem dX2_fromRegister_8 : decode cX2_fromRegister 8 = .ok (.ldc 46, 2) := by decide +kernel
theorem dX2_fromRegister_10 : decode cX2_fromRegister 10 = .ok (.iand, 1) := by decide +kernel
theorem dX2_fromRegister_11 : decode cX2_fromRegister 11 = .ok (.ireturn, 1) := by decide +kernel
theorem dX2_strideOf_0 : decode cX2_strideOf 0 = .ok (.iload_n 1, 1) := by decide +kernel
theorem dX2_strideOf_1 : decode cX2_strideOf 1 = .ok (.ldc 46, 2) := by decide +kernel
theorem dX2_strideOf_3 : decode cX2_strideOf 3 = .ok (.if_icmp .eq 15, 3) := by decide +kernel
theorem dX2_strideOf_6 : decode cX2_strideOf 6 = .ok (.iload_n 0, 1) := by decide +kernel
theorem dX2_strideOf_7 : decode cX2_strideOf 7 = .ok (.bipush 6, 2) := by decide +kernel
theorem dX2_strideOf_9 : decode cX2_strideOf 9 = .ok (.if_icmp .eq 9, 3) := by decide +kernel
theorem dX2_strideOf_12 : decode cX2_strideOf 12 = .ok (.iload_n 0, 1) := by decide +kernel
theorem dX2_strideOf_13 : decode cX2_strideOf 13 = .ok (.bipush 7, 2) := by decide +kernel
theorem dX2_strideOf_15 : decode cX2_strideOf 15 = .ok (.if_icmp .ne 7, 3) := by decide +kernel
theorem dX2_strideOf_18 : decode cX2_strideOf 18 = .ok (.iconst 2, 1) := by decide +kernel
theorem dX2_strideOf_19 : decode cX2_strideOf 19 = .ok (.goto 4, 3) := by decide +kernel
theorem dX2_strideOf_22 : decode cX2_strideOf 22 = .ok (.iconst 1, 1) := by decide +kernel
theorem dX2_strideOf_23 : decode cX2_strideOf 23 = .ok (.ireturn, 1) := by decide +kernel
theorem dX3_init_0 : decode cX3_init 0 = .ok (.aload_n 0, 1) := by decide +kernel
theorem dX3_init_1 : decode cX3_init 1 = .ok (.invokespecial 3, 3) := by decide +kernel
theorem dX3_init_4 : decode cX3_init 4 = .ok (.aload_n 0, 1) := by decide +kernel
theorem dX3_init_5 : decode cX3_init 5 = .ok (.new 9, 3) := by decide +kernel
theorem dX3_init_8 : decode cX3_init 8 = .ok (.dup, 1) := by decide +kernel
theorem dX3_init_9 : decode cX3_init 9 = .ok (.invokespecial 11, 3) := by decide +kernel
theorem dX3_init_12 : decode cX3_init 12 = .ok (.putfield 12, 3) := by decide +kernel
theorem dX3_init_15 : decode cX3_init 15 = .ok (.aload_n 0, 1) := by decide +kernel
theorem dX3_init_16 : decode cX3_init 16 = .ok (.new 18, 3) := by decide +kernel
theorem dX3_init_19 : decode cX3_init 19 = .ok (.dup, 1) := by decide +kernel
theorem dX3_init_20 : decode cX3_init 20 = .ok (.aload_n 1, 1) := by decide +kernel
theorem dX3_init_21 : decode cX3_init 21 = .ok (.invokespecial 20, 3) := by decide +kernel
theorem dX3_init_24 : decode cX3_init 24 = .ok (.putfield 23, 3) := by decide +kernel
theorem dX3_init_27 : decode cX3_init 27 = .ok (.return_, 1) := by decide +kernel
theorem dX3_empty_0 : decode cX3_empty 0 = .ok (.aload_n 0, 1) := by decide +kernel
theorem dX3_empty_1 : decode cX3_empty 1 = .ok (.getfield 23, 3) := by decide +kernel
theorem dX3_empty_4 : decode cX3_empty 4 = .ok (.invokevirtual 27, 3) := by decide +kernel
theorem dX3_empty_7 : decode cX3_empty 7 = .ok (.aload_n 0, 1) := by decide +kernel
theorem dX3_empty_8 : decode cX3_empty 8 = .ok (.getfield 12, 3) := by decide +kernel
theorem dX3_empty_11 : decode cX3_empty 11 = .ok (.iconst 0, 1) := by decide +kernel
theorem dX3_empty_12 : decode cX3_empty 12 = .ok (.invokevirtual 30, 3) := by decide +kernel
theorem dX3_empty_15 : decode cX3_empty 15 = .ok (.return_, 1) := by decide +kernel
theorem dX3_step_0 : decode cX3_step 0 = .ok (.aload_n 0, 1) := by decide +kernel
theorem dX3_step_1 : decode cX3_step 1 = .ok (.getfield 23, 3) := by decide +kernel
theorem dX3_step_4 : decode cX3_step 4 = .ok (.invokevirtual 34, 3) := by decide +kernel
theorem dX3_step_7 : decode cX3_step 7 = .ok (.aload_n 0, 1) := by decide +kernel
theorem dX3_step_8 : decode cX3_step 8 = .ok (.getfield 12, 3) := by decide +kernel
theorem dX3_step_11 : decode cX3_step 11 = .ok (.invokevirtual 37, 3) := by decide +kernel
theorem dX3_step_14 : decode cX3_step 14 = .ok (.istore_n 1, 1) := by decide +kernel
theorem dX3_step_15 : decode cX3_step 15 = .ok (.aload_n 0, 1) := by decide +kernel
theorem dX3_step_16 : decode cX3_step 16 = .ok (.getfield 23, 3) := by decide +kernel
theorem dX3_step_19 : decode cX3_step 19 = .ok (.invokevirtual 41, 3) := by decide +kernel
theorem dX3_step_22 : decode cX3_step 22 = .ok (.istore_n 2, 1) := by decide +kernel
theorem dX3_step_23 : decode cX3_step 23 = .ok (.aload_n 0, 1) := by decide +kernel
theorem dX3_step_24 : decode cX3_step 24 = .ok (.getfield 23, 3) := by decide +kernel
theorem dX3_step_27 : decode cX3_step 27 = .ok (.getfield 44, 3) := by decide +kernel
theorem dX3_step_30 : decode cX3_step 30 = .ok (.ifCond .ne 63, 3) := by decide +kernel
theorem dX3_step_33 : decode cX3_step 33 = .ok (.iload_n 2, 1) := by decide +kernel
theorem dX3_step_34 : decode cX3_step 34 = .ok (.ifCond .ne 5, 3) := by decide +kernel
theorem dX3_step_37 : decode cX3_step 37 = .ok (.iconst 1, 1) := by decide +kernel
theorem dX3_step_38 : decode cX3_step 38 = .ok (.ireturn, 1) := by decide +kernel
theorem dX3_step_39 : decode cX3_step 39 = .ok (.iload_n 2, 1) := by decide +kernel
theorem dX3_step_40 : decode cX3_step 40 = .ok (.bipush 12, 2) := by decide +kernel
theorem dX3_step_42 : decode cX3_step 42 = .ok (.ishr, 1) := by decide +kernel
theorem dX3_step_43 : decode cX3_step 43 = .ok (.bipush 7, 2) := by decide +kernel
theorem dX3_step_45 : decode cX3_step 45 = .ok (.iand, 1) := by decide +kernel
theorem dX3_step_46 : decode cX3_step 46 = .ok (.istore_n 3, 1) := by decide +kernel
theorem dX3_step_47 : decode cX3_step 47 = .ok (.iload_n 3, 1) := by decide +kernel
theorem dX3_step_48 : decode cX3_step 48 = .ok (.ifCond .ne 11, 3) := by decide +kernel
theorem dX3_step_51 : decode cX3_step 51 = .ok (.aload_n 0, 1) := by decide +kernel
theorem dX3_step_52 : decode cX3_step 52 = .ok (.iload_n 2, 1) := by decide +kernel
theorem dX3_step_53 : decode cX3_step 53 = .ok (.invokevirtual 48, 3) := by decide +kernel
theorem dX3_step_56 : decode cX3_step 56 = .ok (.goto 37, 3) := by decide +kernel
theorem dX3_step_59 : decode cX3_step 59 = .ok (.iload_n 3, 1) := by decide +kernel
theorem dX3_step_60 : decode cX3_step 60 = .ok (.bipush 6, 2) := by decide +kernel
theorem dX3_step_62 : decode cX3_step 62 = .ok (.if_icmp .ne 11, 3) := by decide +kernel
theorem dX3_step_65 : decode cX3_step 65 = .ok (.aload_n 0, 1) := by decide +kernel
theorem dX3_step_66 : decode cX3_step 66 = .ok (.iload_n 2, 1) := by decide +kernel
theorem dX3_step_67 : decode cX3_step 67 = .ok (.invokevirtual 51, 3) := by decide +kernel
theorem dX3_step_70 : decode cX3_step 70 = .ok (.goto 23, 3) := by decide +kernel
theorem dX3_step_73 : decode cX3_step 73 = .ok (.iload_n 3, 1) := by decide +kernel
theorem dX3_step_74 : decode cX3_step 74 = .ok (.bipush 7, 2) := by decide +kernel
theorem dX3_step_76 : decode cX3_step 76 = .ok (.if_icmp .ne 11, 3) := by decide +kernel
theorem dX3_step_79 : decode cX3_step 79 = .ok (.aload_n 0, 1) := by decide +kernel
theorem dX3_step_80 : decode cX3_step 80 = .ok (.iload_n 2, 1) := by decide +kernel
theorem dX3_step_81 : decode cX3_step 81 = .ok (.invokevirtual 54, 3) := by decide +kernel
theorem dX3_step_84 : decode cX3_step 84 = .ok (.goto 9, 3) := by decide +kernel
theorem dX3_step_87 : decode cX3_step 87 = .ok (.aload_n 0, 1) := by decide +kernel
theorem dX3_step_88 : decode cX3_step 88 = .ok (.iload_n 2, 1) := by decide +kernel
theorem dX3_step_89 : decode cX3_step 89 = .ok (.iload_n 3, 1) := by decide +kernel
theorem dX3_step_90 : decode cX3_step 90 = .ok (.invokevirtual 57, 3) := by decide +kernel
theorem dX3_step_93 : decode cX3_step 93 = .ok (.aload_n 0, 1) := by decide +kernel
theorem dX3_step_94 : decode cX3_step 94 = .ok (.getfield 23, 3) := by decide +kernel
theorem dX3_step_97 : decode cX3_step 97 = .ok (.getfield 44, 3) := by decide +kernel
theorem dX3_step_100 : decode cX3_step 100 = .ok (.ifCond .eq 18, 3) := by decide +kernel
theorem dX3_step_103 : decode cX3_step 103 = .ok (.aload_n 0, 1) := by decide +kernel
theorem dX3_step_104 : decode cX3_step 104 = .ok (.getfield 23, 3) := by decide +kernel
theorem dX3_step_107 : decode cX3_step 107 = .ok (.invokevirtual 61, 3) := by decide +kernel
theorem dX3_step_110 : decode cX3_step 110 = .ok (.aload_n 0, 1) := by decide +kernel
theorem dX3_step_111 : decode cX3_step 111 = .ok (.getfield 12, 3) := by decide +kernel
theorem dX3_step_114 : decode cX3_step 114 = .ok (.iload_n 1, 1) := by decide +kernel
theorem dX3_step_115 : decode cX3_step 115 = .ok (.invokevirtual 30, 3) := by decide +kernel
theorem dX3_step_118 : decode cX3_step 118 = .ok (.aload_n 0, 1) := by decide +kernel
theorem dX3_step_119 : decode cX3_step 119 = .ok (.getfield 23, 3) := by decide +kernel
theorem dX3_step_122 : decode cX3_step 122 = .ok (.getfield 44, 3) := by decide +kernel
theorem dX3_step_125 : decode cX3_step 125 = .ok (.ireturn, 1) := by decide +kernel
theorem dX3_refuse_0 : decode cX3_refuse 0 = .ok (.aload_n 0, 1) := by decide +kernel
theorem dX3_refuse_1 : decode cX3_refuse 1 = .ok (.getfield 23, 3) := by decide +kernel
theorem dX3_refuse_4 : decode cX3_refuse 4 = .ok (.iconst 4, 1) := by decide +kernel
theorem dX3_refuse_5 : decode cX3_refuse 5 = .ok (.putfield 44, 3) := by decide +kernel
theorem dX3_refuse_8 : decode cX3_refuse 8 = .ok (.return_, 1) := by decide +kernel
theorem dX3_hasHighestBit_0 : decode cX3_hasHighestBit 0 = .ok (.iload_n 0, 1) := by decide +kernel
theorem dX3_hasHighestBit_1 : decode cX3_hasHighestBit 1 = .ok (.ldc 64, 2) := by decide +kernel
theorem dX3_hasHighestBit_3 : decode cX3_hasHighestBit 3 = .ok (.iand, 1) := by decide +kernel
theorem dX3_hasHighestBit_4 : decode cX3_hasHighestBit 4 = .ok (.ifCond .eq 7, 3) := by decide +kernel
theorem dX3_hasHighestBit_7 : decode cX3_hasHighestBit 7 = .ok (.iconst 1, 1) := by decide +kernel
theorem dX3_hasHighestBit_8 : decode cX3_hasHighestBit 8 = .ok (.goto 4, 3) := by decide +kernel
theorem dX3_hasHighestBit_11 : decode cX3_hasHighestBit 11 = .ok (.iconst 0, 1) := by decide +kernel
theorem dX3_hasHighestBit_12 : decode cX3_hasHighestBit 12 = .ok (.ireturn, 1) := by decide +kernel
theorem dX3_sizeIn_0 : decode cX3_sizeIn 0 = .ok (.iload_n 0, 1) := by decide +kernel
theorem dX3_sizeIn_1 : decode cX3_sizeIn 1 = .ok (.invokestatic 65, 3) := by decide +kernel
theorem dX3_sizeIn_4 : decode cX3_sizeIn 4 = .ok (.ifCond .eq 9, 3) := by decide +kernel
theorem dX3_sizeIn_7 : decode cX3_sizeIn 7 = .ok (.sipush 255, 3) := by decide +kernel
theorem dX3_sizeIn_10 : decode cX3_sizeIn 10 = .ok (.goto 5, 3) := by decide +kernel
theorem dX3_sizeIn_13 : decode cX3_sizeIn 13 = .ok (.ldc 69, 2) := by decide +kernel
theorem dX3_sizeIn_15 : decode cX3_sizeIn 15 = .ok (.ireturn, 1) := by decide +kernel
theorem dX3_performTwo_0 : decode cX3_performTwo 0 = .ok (.iload_n 1, 1) := by decide +kernel
theorem dX3_performTwo_1 : decode cX3_performTwo 1 = .ok (.invokestatic 70, 3) := by decide +kernel
theorem dX3_performTwo_4 : decode cX3_performTwo 4 = .ok (.istore_n 3, 1) := by decide +kernel
theorem dX3_performTwo_5 : decode cX3_performTwo 5 = .ok (.aload_n 0, 1) := by decide +kernel
theorem dX3_performTwo_6 : decode cX3_performTwo 6 = .ok (.getfield 23, 3) := by decide +kernel
theorem dX3_performTwo_9 : decode cX3_performTwo 9 = .ok (.aload_n 0, 1) := by decide +kernel
theorem dX3_performTwo_10 : decode cX3_performTwo 10 = .ok (.getfield 23, 3) := by decide +kernel
theorem dX3_performTwo_13 : decode cX3_performTwo 13 = .ok (.iload_n 1, 1) := by decide +kernel
theorem dX3_performTwo_14 : decode cX3_performTwo 14 = .ok (.bipush 6, 2) := by decide +kernel
theorem dX3_performTwo_16 : decode cX3_performTwo 16 = .ok (.ishr, 1) := by decide +kernel
theorem dX3_performTwo_17 : decode cX3_performTwo 17 = .ok (.iload_n 3, 1) := by decide +kernel
theorem dX3_performTwo_18 : decode cX3_performTwo 18 = .ok (.invokevirtual 74, 3) := by decide +kernel
theorem dX3_performTwo_21 : decode cX3_performTwo 21 = .ok (.iload_n 3, 1) := by decide +kernel
theorem dX3_performTwo_22 : decode cX3_performTwo 22 = .ok (.invokevirtual 78, 3) := by decide +kernel
theorem dX3_performTwo_25 : decode cX3_performTwo 25 = .ok (.istore 4, 2) := by decide +kernel
theorem dX3_performTwo_27 : decode cX3_performTwo 27 = .ok (.aload_n 0, 1) := by decide +kernel
theorem dX3_performTwo_28 : decode cX3_performTwo 28 = .ok (.getfield 23, 3) := by decide +kernel
theorem dX3_performTwo_31 : decode cX3_performTwo 31 = .ok (.iload_n 1, 1) := by decide +kernel
theorem dX3_performTwo_32 : decode cX3_performTwo 32 = .ok (.iload_n 3, 1) := by decide +kernel
theorem dX3_performTwo_33 : decode cX3_performTwo 33 = .ok (.invokevirtual 74, 3) := by decide +kernel
theorem dX3_performTwo_36 : decode cX3_performTwo 36 = .ok (.istore 5, 2) := by decide +kernel
theorem dX3_performTwo_38 : decode cX3_performTwo 38 = .ok (.aload_n 0, 1) := by decide +kernel
theorem dX3_performTwo_39 : decode cX3_performTwo 39 = .ok (.getfield 23, 3) := by decide +kernel
theorem dX3_performTwo_42 : decode cX3_performTwo 42 = .ok (.iload 5, 2) := by decide +kernel
theorem dX3_performTwo_44 : decode cX3_performTwo 44 = .ok (.iload_n 3, 1) := by decide +kernel
theorem dX3_performTwo_45 : decode cX3_performTwo 45 = .ok (.invokevirtual 78, 3) := by decide +kernel
theorem dX3_performTwo_48 : decode cX3_performTwo 48 = .ok (.istore 6, 2) := by decide +kernel
theorem dX3_performTwo_50 : decode cX3_performTwo 50 = .ok (.iload_n 2, 1) := by decide +kernel
theorem dX3_performTwo_51 : decode cX3_performTwo 51 = .ok (.iconst 2, 1) := by decide +kernel
theorem dX3_performTwo_52 : decode cX3_performTwo 52 = .ok (.if_icmp .ne 13, 3) := by decide +kernel
theorem dX3_performTwo_55 : decode cX3_performTwo 55 = .ok (.aload_n 0, 1) := by decide +kernel
theorem dX3_performTwo_56 : decode cX3_performTwo 56 = .ok (.iload 4, 2) := by decide +kernel
theorem dX3_performTwo_58 : decode cX3_performTwo 58 = .ok (.iload 6, 2) := by decide +kernel
theorem dX3_performTwo_60 : decode cX3_performTwo 60 = .ok (.iload_n 3, 1) := by decide +kernel
theorem dX3_performTwo_61 : decode cX3_performTwo 61 = .ok (.invokevirtual 81, 3) := by decide +kernel
theorem dX3_performTwo_64 : decode cX3_performTwo 64 = .ok (.return_, 1) := by decide +kernel
theorem dX3_performTwo_65 : decode cX3_performTwo 65 = .ok (.iload_n 2, 1) := by decide +kernel
theorem dX3_performTwo_66 : decode cX3_performTwo 66 = .ok (.iload 4, 2) := by decide +kernel
theorem dX3_performTwo_68 : decode cX3_performTwo 68 = .ok (.iload 6, 2) := by decide +kernel
theorem dX3_performTwo_70 : decode cX3_performTwo 70 = .ok (.invokestatic 85, 3) := by decide +kernel
theorem dX3_performTwo_73 : decode cX3_performTwo 73 = .ok (.istore 7, 2) := by decide +kernel
theorem dX3_performTwo_75 : decode cX3_performTwo 75 = .ok (.aload_n 0, 1) := by decide +kernel
theorem dX3_performTwo_76 : decode cX3_performTwo 76 = .ok (.getfield 12, 3) := by decide +kernel
theorem dX3_performTwo_79 : decode cX3_performTwo 79 = .ok (.iload 7, 2) := by decide +kernel
theorem dX3_performTwo_81 : decode cX3_performTwo 81 = .ok (.iload_n 3, 1) := by decide +kernel
theorem dX3_performTwo_82 : decode cX3_performTwo 82 = .ok (.invokevirtual 89, 3) := by decide +kernel
theorem dX3_performTwo_85 : decode cX3_performTwo 85 = .ok (.aload_n 0, 1) := by decide +kernel
theorem dX3_performTwo_86 : decode cX3_performTwo 86 = .ok (.getfield 12, 3) := by decide +kernel
theorem dX3_performTwo_89 : decode cX3_performTwo 89 = .ok (.iconst 0, 1) := by decide +kernel
theorem dX3_performTwo_90 : decode cX3_performTwo 90 = .ok (.putfield 92, 3) := by decide +kernel
theorem dX3_performTwo_93 : decode cX3_performTwo 93 = .ok (.iload_n 2, 1) := by decide +kernel
theorem dX3_performTwo_94 : decode cX3_performTwo 94 = .ok (.iconst 1, 1) := by decide +kernel
theorem dX3_performTwo_95 : decode cX3_performTwo 95 = .ok (.if_icmp .ne 18, 3) := by decide +kernel
theorem dX3_performTwo_98 : decode cX3_performTwo 98 = .ok (.aload_n 0, 1) := by decide +kernel
theorem dX3_performTwo_99 : decode cX3_performTwo 99 = .ok (.getfield 23, 3) := by decide +kernel
theorem dX3_performTwo_102 : decode cX3_performTwo 102 = .ok (.iload 5, 2) := by decide +kernel
theorem dX3_performTwo_104 : decode cX3_performTwo 104 = .ok (.iload_n 3, 1) := by decide +kernel
theorem dX3_performTwo_105 : decode cX3_performTwo 105 = .ok (.iload 7, 2) := by decide +kernel
theorem dX3_performTwo_107 : decode cX3_performTwo 107 = .ok (.invokevirtual 96, 3) := by decide +kernel
theorem dX3_performTwo_110 : decode cX3_performTwo 110 = .ok (.goto 20, 3) := by decide +kernel
theorem dX3_performTwo_113 : decode cX3_performTwo 113 = .ok (.iload_n 2, 1) := by decide +kernel
theorem dX3_performTwo_114 : decode cX3_performTwo 114 = .ok (.iconst 3, 1) := by decide +kernel
theorem dX3_performTwo_115 : decode cX3_performTwo 115 = .ok (.if_icmp .eq 15, 3) := by decide +kernel
theorem dX3_performTwo_118 : decode cX3_performTwo 118 = .ok (.aload_n 0, 1) := by decide +kernel
theorem dX3_performTwo_119 : decode cX3_performTwo 119 = .ok (.getfield 23, 3) := by decide +kernel
theorem dX3_performTwo_122 : decode cX3_performTwo 122 = .ok (.iload 5, 2) := by decide +kernel
theorem dX3_performTwo_124 : decode cX3_performTwo 124 = .ok (.iload_n 3, 1) := by decide +kernel
theorem dX3_performTwo_125 : decode cX3_performTwo 125 = .ok (.iload 7, 2) := by decide +kernel
theorem dX3_performTwo_127 : decode cX3_performTwo 127 = .ok (.invokevirtual 99, 3) := by decide +kernel
theorem dX3_performTwo_130 : decode cX3_performTwo 130 = .ok (.return_, 1) := by decide +kernel
theorem dX3_combine_0 : decode cX3_combine 0 = .ok (.iload_n 0, 1) := by decide +kernel
theorem dX3_combine_1 : decode cX3_combine 1 = .ok (.tableswitch 43 1 4 #[31, 43, 33, 37], 31) := by decide +kernel
theorem dX3_combine_32 : decode cX3_combine 32 = .ok (.iload_n 1, 1) := by decide +kernel
theorem dX3_combine_33 : decode cX3_combine 33 = .ok (.ireturn, 1) := by decide +kernel
theorem dX3_combine_34 : decode cX3_combine 34 = .ok (.iload_n 1, 1) := by decide +kernel
theorem dX3_combine_35 : decode cX3_combine 35 = .ok (.iload_n 2, 1) := by decide +kernel
theorem dX3_combine_36 : decode cX3_combine 36 = .ok (.iand, 1) := by decide +kernel
theorem dX3_combine_37 : decode cX3_combine 37 = .ok (.ireturn, 1) := by decide +kernel
theorem dX3_combine_38 : decode cX3_combine 38 = .ok (.iload_n 2, 1) := by decide +kernel
theorem dX3_combine_39 : decode cX3_combine 39 = .ok (.iload_n 1, 1) := by decide +kernel
theorem dX3_combine_40 : decode cX3_combine 40 = .ok (.iconst (-1), 1) := by decide +kernel
theorem dX3_combine_41 : decode cX3_combine 41 = .ok (.ixor, 1) := by decide +kernel
theorem dX3_combine_42 : decode cX3_combine 42 = .ok (.iand, 1) := by decide +kernel
theorem dX3_combine_43 : decode cX3_combine 43 = .ok (.ireturn, 1) := by decide +kernel
theorem dX3_combine_44 : decode cX3_combine 44 = .ok (.iload_n 1, 1) := by decide +kernel
theorem dX3_combine_45 : decode cX3_combine 45 = .ok (.iload_n 2, 1) := by decide +kernel
theorem dX3_combine_46 : decode cX3_combine 46 = .ok (.ior, 1) := by decide +kernel
theorem dX3_combine_47 : decode cX3_combine 47 = .ok (.ireturn, 1) := by decide +kernel
theorem dX3_addOrSubtract_0 : decode cX3_addOrSubtract 0 = .ok (.aload_n 0, 1) := by decide +kernel
theorem dX3_addOrSubtract_1 : decode cX3_addOrSubtract 1 = .ok (.getfield 23, 3) := by decide +kernel
theorem dX3_addOrSubtract_4 : decode cX3_addOrSubtract 4 = .ok (.aload_n 0, 1) := by decide +kernel
theorem dX3_addOrSubtract_5 : decode cX3_addOrSubtract 5 = .ok (.getfield 23, 3) := by decide +kernel
theorem dX3_addOrSubtract_8 : decode cX3_addOrSubtract 8 = .ok (.iload_n 1, 1) := by decide +kernel
theorem dX3_addOrSubtract_9 : decode cX3_addOrSubtract 9 = .ok (.bipush 6, 2) := by decide +kernel
theorem dX3_addOrSubtract_11 : decode cX3_addOrSubtract 11 = .ok (.ishr, 1) := by decide +kernel
theorem dX3_addOrSubtract_12 : decode cX3_addOrSubtract 12 = .ok (.ldc 69, 2) := by decide +kernel
theorem dX3_addOrSubtract_14 : decode cX3_addOrSubtract 14 = .ok (.invokevirtual 74, 3) := by decide +kernel
theorem dX3_addOrSubtract_17 : decode cX3_addOrSubtract 17 = .ok (.ldc 69, 2) := by decide +kernel
theorem dX3_addOrSubtract_19 : decode cX3_addOrSubtract 19 = .ok (.invokevirtual 78, 3) := by decide +kernel
theorem dX3_addOrSubtract_22 : decode cX3_addOrSubtract 22 = .ok (.istore_n 2, 1) := by decide +kernel
theorem dX3_addOrSubtract_23 : decode cX3_addOrSubtract 23 = .ok (.aload_n 0, 1) := by decide +kernel
theorem dX3_addOrSubtract_24 : decode cX3_addOrSubtract 24 = .ok (.getfield 23, 3) := by decide +kernel
theorem dX3_addOrSubtract_27 : decode cX3_addOrSubtract 27 = .ok (.iload_n 1, 1) := by decide +kernel
theorem dX3_addOrSubtract_28 : decode cX3_addOrSubtract 28 = .ok (.ldc 69, 2) := by decide +kernel
theorem dX3_addOrSubtract_30 : decode cX3_addOrSubtract 30 = .ok (.invokevirtual 74, 3) := by decide +kernel
theorem dX3_addOrSubtract_33 : decode cX3_addOrSubtract 33 = .ok (.istore_n 3, 1) := by decide +kernel
theorem dX3_addOrSubtract_34 : decode cX3_addOrSubtract 34 = .ok (.aload_n 0, 1) := by decide +kernel
theorem dX3_addOrSubtract_35 : decode cX3_addOrSubtract 35 = .ok (.getfield 23, 3) := by decide +kernel
theorem dX3_addOrSubtract_38 : decode cX3_addOrSubtract 38 = .ok (.iload_n 3, 1) := by decide +kernel
theorem dX3_addOrSubtract_39 : decode cX3_addOrSubtract 39 = .ok (.ldc 69, 2) := by decide +kernel
theorem dX3_addOrSubtract_41 : decode cX3_addOrSubtract 41 = .ok (.invokevirtual 78, 3) := by decide +kernel
theorem dX3_addOrSubtract_44 : decode cX3_addOrSubtract 44 = .ok (.istore 4, 2) := by decide +kernel
theorem dX3_addOrSubtract_46 : decode cX3_addOrSubtract 46 = .ok (.iload_n 1, 1) := by decide +kernel
theorem dX3_addOrSubtract_47 : decode cX3_addOrSubtract 47 = .ok (.invokestatic 65, 3) := by decide +kernel
theorem dX3_addOrSubtract_50 : decode cX3_addOrSubtract 50 = .ok (.ifCond .eq 24, 3) := by decide +kernel
theorem dX3_addOrSubtract_53 : decode cX3_addOrSubtract 53 = .ok (.iload 4, 2) := by decide +kernel
theorem dX3_addOrSubtract_55 : decode cX3_addOrSubtract 55 = .ok (.iload_n 2, 1) := by decide +kernel
theorem dX3_addOrSubtract_56 : decode cX3_addOrSubtract 56 = .ok (.isub, 1) := by decide +kernel
theorem dX3_addOrSubtract_57 : decode cX3_addOrSubtract 57 = .ok (.ldc 69, 2) := by decide +kernel
theorem dX3_addOrSubtract_59 : decode cX3_addOrSubtract 59 = .ok (.iand, 1) := by decide +kernel
theorem dX3_addOrSubtract_60 : decode cX3_addOrSubtract 60 = .ok (.istore 5, 2) := by decide +kernel
theorem dX3_addOrSubtract_62 : decode cX3_addOrSubtract 62 = .ok (.aload_n 0, 1) := by decide +kernel
theorem dX3_addOrSubtract_63 : decode cX3_addOrSubtract 63 = .ok (.iload 4, 2) := by decide +kernel
theorem dX3_addOrSubtract_65 : decode cX3_addOrSubtract 65 = .ok (.iload_n 2, 1) := by decide +kernel
theorem dX3_addOrSubtract_66 : decode cX3_addOrSubtract 66 = .ok (.ldc 69, 2) := by decide +kernel
theorem dX3_addOrSubtract_68 : decode cX3_addOrSubtract 68 = .ok (.invokevirtual 81, 3) := by decide +kernel
theorem dX3_addOrSubtract_71 : decode cX3_addOrSubtract 71 = .ok (.goto 73, 3) := by decide +kernel
theorem dX3_addOrSubtract_74 : decode cX3_addOrSubtract 74 = .ok (.iload_n 2, 1) := by decide +kernel
theorem dX3_addOrSubtract_75 : decode cX3_addOrSubtract 75 = .ok (.iload 4, 2) := by decide +kernel
theorem dX3_addOrSubtract_77 : decode cX3_addOrSubtract 77 = .ok (.iadd, 1) := by decide +kernel
theorem dX3_addOrSubtract_78 : decode cX3_addOrSubtract 78 = .ok (.ldc 69, 2) := by decide +kernel
theorem dX3_addOrSubtract_80 : decode cX3_addOrSubtract 80 = .ok (.iand, 1) := by decide +kernel
theorem dX3_addOrSubtract_81 : decode cX3_addOrSubtract 81 = .ok (.istore 5, 2) := by decide +kernel
theorem dX3_addOrSubtract_83 : decode cX3_addOrSubtract 83 = .ok (.aload_n 0, 1) := by decide +kernel
theorem dX3_addOrSubtract_84 : decode cX3_addOrSubtract 84 = .ok (.getfield 12, 3) := by decide +kernel
theorem dX3_addOrSubtract_87 : decode cX3_addOrSubtract 87 = .ok (.iload 5, 2) := by decide +kernel
theorem dX3_addOrSubtract_89 : decode cX3_addOrSubtract 89 = .ok (.ldc 69, 2) := by decide +kernel
theorem dX3_addOrSubtract_91 : decode cX3_addOrSubtract 91 = .ok (.invokevirtual 89, 3) := by decide +kernel
