theorem dX3_returnOrSetFlags_88 : decode cX3_returnOrSetFlags 88 = .ok (.invokevirtual 30, 3) := by decide +kernel
theorem dX3_returnOrSetFlags_91 : decode cX3_returnOrSetFlags 91 = .ok (.goto 19, 3) := by decide +kernel
theorem dX3_returnOrSetFlags_94 : decode cX3_returnOrSetFlags 94 = .ok (.aload_n 0, 1) := by decide +kernel
theorem dX3_returnOrSetFlags_95 : decode cX3_returnOrSetFlags 95 = .ok (.getfield 12, 3) := by decide +kernel
theorem dX3_returnOrSetFlags_98 : decode cX3_returnOrSetFlags 98 = .ok (.aload_n 0, 1) := by decide +kernel
theorem dX3_returnOrSetFlags_99 : decode cX3_returnOrSetFlags 99 = .ok (.getfield 12, 3) := by decide +kernel
theorem dX3_returnOrSetFlags_102 : decode cX3_returnOrSetFlags 102 = .ok (.invokevirtual 37, 3) := by decide +kernel
theorem dX3_returnOrSetFlags_105 : decode cX3_returnOrSetFlags 105 = .ok (.iload_n 3, 1) := by decide +kernel
theorem dX3_returnOrSetFlags_106 : decode cX3_returnOrSetFlags 106 = .ok (.ior, 1) := by decide +kernel
theorem dX3_returnOrSetFlags_107 : decode cX3_returnOrSetFlags 107 = .ok (.invokevirtual 30, 3) := by decide +kernel
theorem dX3_returnOrSetFlags_110 : decode cX3_returnOrSetFlags 110 = .ok (.return_, 1) := by decide +kernel
theorem dX4_init_0 : decode cX4_init 0 = .ok (.aload_n 0, 1) := by decide +kernel
theorem dX4_init_1 : decode cX4_init 1 = .ok (.invokespecial 3, 3) := by decide +kernel
theorem dX4_init_4 : decode cX4_init 4 = .ok (.aload_n 0, 1) := by decide +kernel
theorem dX4_init_5 : decode cX4_init 5 = .ok (.new 9, 3) := by decide +kernel
theorem dX4_init_8 : decode cX4_init 8 = .ok (.dup, 1) := by decide +kernel
theorem dX4_init_9 : decode cX4_init 9 = .ok (.invokespecial 11, 3) := by decide +kernel
theorem dX4_init_12 : decode cX4_init 12 = .ok (.putfield 12, 3) := by decide +kernel
theorem dX4_init_15 : decode cX4_init 15 = .ok (.aload_n 0, 1) := by decide +kernel
theorem dX4_init_16 : decode cX4_init 16 = .ok (.new 16, 3) := by decide +kernel
theorem dX4_init_19 : decode cX4_init 19 = .ok (.dup, 1) := by decide +kernel
theorem dX4_init_20 : decode cX4_init 20 = .ok (.aload_n 0, 1) := by decide +kernel
theorem dX4_init_21 : decode cX4_init 21 = .ok (.getfield 12, 3) := by decide +kernel
theorem dX4_init_24 : decode cX4_init 24 = .ok (.invokespecial 18, 3) := by decide +kernel
theorem dX4_init_27 : decode cX4_init 27 = .ok (.putfield 21, 3) := by decide +kernel
theorem dX4_init_30 : decode cX4_init 30 = .ok (.return_, 1) := by decide +kernel
theorem dX4_load_0 : decode cX4_load 0 = .ok (.aload_n 0, 1) := by decide +kernel
theorem dX4_load_1 : decode cX4_load 1 = .ok (.iload_n 1, 1) := by decide +kernel
theorem dX4_load_2 : decode cX4_load 2 = .ok (.invokevirtual 25, 3) := by decide +kernel
theorem dX4_load_5 : decode cX4_load 5 = .ok (.aload_n 0, 1) := by decide +kernel
theorem dX4_load_6 : decode cX4_load 6 = .ok (.getfield 12, 3) := by decide +kernel
theorem dX4_load_9 : decode cX4_load 9 = .ok (.iload_n 1, 1) := by decide +kernel
theorem dX4_load_10 : decode cX4_load 10 = .ok (.iload_n 2, 1) := by decide +kernel
theorem dX4_load_11 : decode cX4_load 11 = .ok (.invokevirtual 29, 3) := by decide +kernel
theorem dX4_load_14 : decode cX4_load 14 = .ok (.aload_n 0, 1) := by decide +kernel
theorem dX4_load_15 : decode cX4_load 15 = .ok (.getfield 12, 3) := by decide +kernel
theorem dX4_load_18 : decode cX4_load 18 = .ok (.iload_n 1, 1) := by decide +kernel
theorem dX4_load_19 : decode cX4_load 19 = .ok (.iconst 4, 1) := by decide +kernel
theorem dX4_load_20 : decode cX4_load 20 = .ok (.iadd, 1) := by decide +kernel
theorem dX4_load_21 : decode cX4_load 21 = .ok (.iload_n 3, 1) := by decide +kernel
theorem dX4_load_22 : decode cX4_load 22 = .ok (.invokevirtual 29, 3) := by decide +kernel
theorem dX4_load_25 : decode cX4_load 25 = .ok (.iadd, 1) := by decide +kernel
theorem dX4_load_26 : decode cX4_load 26 = .ok (.aload_n 0, 1) := by decide +kernel
theorem dX4_load_27 : decode cX4_load 27 = .ok (.getfield 12, 3) := by decide +kernel
theorem dX4_load_30 : decode cX4_load 30 = .ok (.iload_n 1, 1) := by decide +kernel
theorem dX4_load_31 : decode cX4_load 31 = .ok (.bipush 8, 2) := by decide +kernel
theorem dX4_load_33 : decode cX4_load 33 = .ok (.iadd, 1) := by decide +kernel
theorem dX4_load_34 : decode cX4_load 34 = .ok (.iload 4, 2) := by decide +kernel
theorem dX4_load_36 : decode cX4_load 36 = .ok (.invokevirtual 29, 3) := by decide +kernel
theorem dX4_load_39 : decode cX4_load 39 = .ok (.iadd, 1) := by decide +kernel
theorem dX4_load_40 : decode cX4_load 40 = .ok (.aload_n 0, 1) := by decide +kernel
theorem dX4_load_41 : decode cX4_load 41 = .ok (.getfield 12, 3) := by decide +kernel
theorem dX4_load_44 : decode cX4_load 44 = .ok (.iload_n 1, 1) := by decide +kernel
theorem dX4_load_45 : decode cX4_load 45 = .ok (.bipush 12, 2) := by decide +kernel
theorem dX4_load_47 : decode cX4_load 47 = .ok (.iadd, 1) := by decide +kernel
theorem dX4_load_48 : decode cX4_load 48 = .ok (.iload 5, 2) := by decide +kernel
theorem dX4_load_50 : decode cX4_load 50 = .ok (.invokevirtual 29, 3) := by decide +kernel
theorem dX4_load_53 : decode cX4_load 53 = .ok (.iadd, 1) := by decide +kernel
theorem dX4_load_54 : decode cX4_load 54 = .ok (.aload_n 0, 1) := by decide +kernel
theorem dX4_load_55 : decode cX4_load 55 = .ok (.getfield 12, 3) := by decide +kernel
theorem dX4_load_58 : decode cX4_load 58 = .ok (.iload_n 1, 1) := by decide +kernel
theorem dX4_load_59 : decode cX4_load 59 = .ok (.bipush 16, 2) := by decide +kernel
theorem dX4_load_61 : decode cX4_load 61 = .ok (.iadd, 1) := by decide +kernel
theorem dX4_load_62 : decode cX4_load 62 = .ok (.iload 6, 2) := by decide +kernel
theorem dX4_load_64 : decode cX4_load 64 = .ok (.invokevirtual 29, 3) := by decide +kernel
theorem dX4_load_67 : decode cX4_load 67 = .ok (.iadd, 1) := by decide +kernel
theorem dX4_load_68 : decode cX4_load 68 = .ok (.ireturn, 1) := by decide +kernel
theorem dX4_word_0 : decode cX4_word 0 = .ok (.aload_n 0, 1) := by decide +kernel
theorem dX4_word_1 : decode cX4_word 1 = .ok (.iload_n 1, 1) := by decide +kernel
theorem dX4_word_2 : decode cX4_word 2 = .ok (.invokevirtual 25, 3) := by decide +kernel
theorem dX4_word_5 : decode cX4_word 5 = .ok (.aload_n 0, 1) := by decide +kernel
theorem dX4_word_6 : decode cX4_word 6 = .ok (.getfield 12, 3) := by decide +kernel
theorem dX4_word_9 : decode cX4_word 9 = .ok (.iload_n 1, 1) := by decide +kernel
theorem dX4_word_10 : decode cX4_word 10 = .ok (.ldc 33, 2) := by decide +kernel
theorem dX4_word_12 : decode cX4_word 12 = .ok (.invokevirtual 34, 3) := by decide +kernel
theorem dX4_word_15 : decode cX4_word 15 = .ok (.ireturn, 1) := by decide +kernel
theorem dX4_poke_0 : decode cX4_poke 0 = .ok (.aload_n 0, 1) := by decide +kernel
theorem dX4_poke_1 : decode cX4_poke 1 = .ok (.iload_n 1, 1) := by decide +kernel
theorem dX4_poke_2 : decode cX4_poke 2 = .ok (.invokevirtual 25, 3) := by decide +kernel
theorem dX4_poke_5 : decode cX4_poke 5 = .ok (.aload_n 0, 1) := by decide +kernel
theorem dX4_poke_6 : decode cX4_poke 6 = .ok (.getfield 12, 3) := by decide +kernel
theorem dX4_poke_9 : decode cX4_poke 9 = .ok (.iload_n 1, 1) := by decide +kernel
theorem dX4_poke_10 : decode cX4_poke 10 = .ok (.ldc 33, 2) := by decide +kernel
theorem dX4_poke_12 : decode cX4_poke 12 = .ok (.invokevirtual 34, 3) := by decide +kernel
theorem dX4_poke_15 : decode cX4_poke 15 = .ok (.istore_n 3, 1) := by decide +kernel
theorem dX4_poke_16 : decode cX4_poke 16 = .ok (.aload_n 0, 1) := by decide +kernel
theorem dX4_poke_17 : decode cX4_poke 17 = .ok (.getfield 12, 3) := by decide +kernel
theorem dX4_poke_20 : decode cX4_poke 20 = .ok (.iload_n 1, 1) := by decide +kernel
theorem dX4_poke_21 : decode cX4_poke 21 = .ok (.iload_n 2, 1) := by decide +kernel
theorem dX4_poke_22 : decode cX4_poke 22 = .ok (.invokevirtual 37, 3) := by decide +kernel
theorem dX4_poke_25 : decode cX4_poke 25 = .ok (.iload_n 3, 1) := by decide +kernel
theorem dX4_poke_26 : decode cX4_poke 26 = .ok (.iload_n 2, 1) := by decide +kernel
theorem dX4_poke_27 : decode cX4_poke 27 = .ok (.ldc 33, 2) := by decide +kernel
theorem dX4_poke_29 : decode cX4_poke 29 = .ok (.iand, 1) := by decide +kernel
theorem dX4_poke_30 : decode cX4_poke 30 = .ok (.if_icmp .eq 7, 3) := by decide +kernel
theorem dX4_poke_33 : decode cX4_poke 33 = .ok (.iconst 1, 1) := by decide +kernel
theorem dX4_poke_34 : decode cX4_poke 34 = .ok (.goto 4, 3) := by decide +kernel
theorem dX4_poke_37 : decode cX4_poke 37 = .ok (.iconst 0, 1) := by decide +kernel
theorem dX4_poke_38 : decode cX4_poke 38 = .ok (.ireturn, 1) := by decide +kernel
theorem dX4_register_0 : decode cX4_register 0 = .ok (.aload_n 0, 1) := by decide +kernel
theorem dX4_register_1 : decode cX4_register 1 = .ok (.iload_n 1, 1) := by decide +kernel
theorem dX4_register_2 : decode cX4_register 2 = .ok (.invokevirtual 41, 3) := by decide +kernel
theorem dX4_register_5 : decode cX4_register 5 = .ok (.aload_n 0, 1) := by decide +kernel
theorem dX4_register_6 : decode cX4_register 6 = .ok (.getfield 21, 3) := by decide +kernel
theorem dX4_register_9 : decode cX4_register 9 = .ok (.getfield 44, 3) := by decide +kernel
theorem dX4_register_12 : decode cX4_register 12 = .ok (.getfield 48, 3) := by decide +kernel
theorem dX4_register_15 : decode cX4_register 15 = .ok (.iload_n 1, 1) := by decide +kernel
theorem dX4_register_16 : decode cX4_register 16 = .ok (.iaload, 1) := by decide +kernel
theorem dX4_register_17 : decode cX4_register 17 = .ok (.ireturn, 1) := by decide +kernel
theorem dX4_put_0 : decode cX4_put 0 = .ok (.aload_n 0, 1) := by decide +kernel
theorem dX4_put_1 : decode cX4_put 1 = .ok (.iload_n 1, 1) := by decide +kernel
theorem dX4_put_2 : decode cX4_put 2 = .ok (.invokevirtual 41, 3) := by decide +kernel
theorem dX4_put_5 : decode cX4_put 5 = .ok (.aload_n 0, 1) := by decide +kernel
theorem dX4_put_6 : decode cX4_put 6 = .ok (.getfield 21, 3) := by decide +kernel
theorem dX4_put_9 : decode cX4_put 9 = .ok (.getfield 44, 3) := by decide +kernel
theorem dX4_put_12 : decode cX4_put 12 = .ok (.getfield 48, 3) := by decide +kernel
theorem dX4_put_15 : decode cX4_put 15 = .ok (.iload_n 1, 1) := by decide +kernel
theorem dX4_put_16 : decode cX4_put 16 = .ok (.iload_n 2, 1) := by decide +kernel
theorem dX4_put_17 : decode cX4_put 17 = .ok (.ldc 33, 2) := by decide +kernel
theorem dX4_put_19 : decode cX4_put 19 = .ok (.iand, 1) := by decide +kernel
theorem dX4_put_20 : decode cX4_put 20 = .ok (.iastore, 1) := by decide +kernel
theorem dX4_put_21 : decode cX4_put 21 = .ok (.return_, 1) := by decide +kernel
theorem dX4_flags_0 : decode cX4_flags 0 = .ok (.aload_n 0, 1) := by decide +kernel
theorem dX4_flags_1 : decode cX4_flags 1 = .ok (.getfield 21, 3) := by decide +kernel
theorem dX4_flags_4 : decode cX4_flags 4 = .ok (.getfield 54, 3) := by decide +kernel
theorem dX4_flags_7 : decode cX4_flags 7 = .ok (.invokevirtual 58, 3) := by decide +kernel
theorem dX4_flags_10 : decode cX4_flags 10 = .ok (.ireturn, 1) := by decide +kernel
theorem dX4_flag_0 : decode cX4_flag 0 = .ok (.aload_n 0, 1) := by decide +kernel
theorem dX4_flag_1 : decode cX4_flag 1 = .ok (.getfield 21, 3) := by decide +kernel
theorem dX4_flag_4 : decode cX4_flag 4 = .ok (.getfield 54, 3) := by decide +kernel
theorem dX4_flag_7 : decode cX4_flag 7 = .ok (.iload_n 1, 1) := by decide +kernel
theorem dX4_flag_8 : decode cX4_flag 8 = .ok (.invokevirtual 64, 3) := by decide +kernel
theorem dX4_flag_11 : decode cX4_flag 11 = .ok (.return_, 1) := by decide +kernel
theorem dX4_run_0 : decode cX4_run 0 = .ok (.iload_n 1, 1) := by decide +kernel
theorem dX4_run_1 : decode cX4_run 1 = .ok (.ifCond .lt 10, 3) := by decide +kernel
theorem dX4_run_4 : decode cX4_run 4 = .ok (.iload_n 1, 1) := by decide +kernel
theorem dX4_run_5 : decode cX4_run 5 = .ok (.sipush 5000, 3) := by decide +kernel
theorem dX4_run_8 : decode cX4_run 8 = .ok (.if_icmp .le 11, 3) := by decide +kernel
theorem dX4_run_11 : decode cX4_run 11 = .ok (.new 67, 3) := by decide +kernel
theorem dX4_run_14 : decode cX4_run 14 = .ok (.dup, 1) := by decide +kernel
theorem dX4_run_15 : decode cX4_run 15 = .ok (.invokespecial 69, 3) := by decide +kernel
theorem dX4_run_18 : decode cX4_run 18 = .ok (.athrow, 1) := by decide +kernel
theorem dX4_run_19 : decode cX4_run 19 = .ok (.aload_n 0, 1) := by decide +kernel
theorem dX4_run_20 : decode cX4_run 20 = .ok (.iconst 0, 1) := by decide +kernel
theorem dX4_run_21 : decode cX4_run 21 = .ok (.putfield 70, 3) := by decide +kernel
theorem dX4_run_24 : decode cX4_run 24 = .ok (.iconst 0, 1) := by decide +kernel
theorem dX4_run_25 : decode cX4_run 25 = .ok (.istore_n 2, 1) := by decide +kernel
theorem dX4_run_26 : decode cX4_run 26 = .ok (.iload_n 2, 1) := by decide +kernel
theorem dX4_run_27 : decode cX4_run 27 = .ok (.iload_n 1, 1) := by decide +kernel
theorem dX4_run_28 : decode cX4_run 28 = .ok (.if_icmp .ge 42, 3) := by decide +kernel
theorem dX4_run_31 : decode cX4_run 31 = .ok (.aload_n 0, 1) := by decide +kernel
theorem dX4_run_32 : decode cX4_run 32 = .ok (.getfield 21, 3) := by decide +kernel
theorem dX4_run_35 : decode cX4_run 35 = .ok (.invokevirtual 74, 3) := by decide +kernel
theorem dX4_run_38 : decode cX4_run 38 = .ok (.istore_n 3, 1) := by decide +kernel
theorem dX4_run_39 : decode cX4_run 39 = .ok (.iload_n 3, 1) := by decide +kernel
theorem dX4_run_40 : decode cX4_run 40 = .ok (.ifCond .eq 8, 3) := by decide +kernel
theorem dX4_run_43 : decode cX4_run 43 = .ok (.iload_n 3, 1) := by decide +kernel
theorem dX4_run_44 : decode cX4_run 44 = .ok (.iconst 1, 1) := by decide +kernel
theorem dX4_run_45 : decode cX4_run 45 = .ok (.if_icmp .ne 13, 3) := by decide +kernel
theorem dX4_run_48 : decode cX4_run 48 = .ok (.aload_n 0, 1) := by decide +kernel
theorem dX4_run_49 : decode cX4_run 49 = .ok (.dup, 1) := by decide +kernel
theorem dX4_run_50 : decode cX4_run 50 = .ok (.getfield 70, 3) := by decide +kernel
theorem dX4_run_53 : decode cX4_run 53 = .ok (.iconst 1, 1) := by decide +kernel
theorem dX4_run_54 : decode cX4_run 54 = .ok (.iadd, 1) := by decide +kernel
theorem dX4_run_55 : decode cX4_run 55 = .ok (.putfield 70, 3) := by decide +kernel
theorem dX4_run_58 : decode cX4_run 58 = .ok (.iload_n 3, 1) := by decide +kernel
theorem dX4_run_59 : decode cX4_run 59 = .ok (.ifCond .eq 5, 3) := by decide +kernel
theorem dX4_run_62 : decode cX4_run 62 = .ok (.iload_n 3, 1) := by decide +kernel
theorem dX4_run_63 : decode cX4_run 63 = .ok (.ireturn, 1) := by decide +kernel
theorem dX4_run_64 : decode cX4_run 64 = .ok (.iinc 2 1, 3) := by decide +kernel
theorem dX4_run_67 : decode cX4_run 67 = .ok (.goto (-41), 3) := by decide +kernel
theorem dX4_run_70 : decode cX4_run 70 = .ok (.iconst 0, 1) := by decide +kernel
theorem dX4_run_71 : decode cX4_run 71 = .ok (.ireturn, 1) := by decide +kernel
theorem dX4_steps_0 : decode cX4_steps 0 = .ok (.aload_n 0, 1) := by decide +kernel
theorem dX4_steps_1 : decode cX4_steps 1 = .ok (.getfield 70, 3) := by decide +kernel
theorem dX4_steps_4 : decode cX4_steps 4 = .ok (.ireturn, 1) := by decide +kernel
theorem dX4_output_0 : decode cX4_output 0 = .ok (.iload_n 1, 1) := by decide +kernel
theorem dX4_output_1 : decode cX4_output 1 = .ok (.ifCond .lt 14, 3) := by decide +kernel
theorem dX4_output_4 : decode cX4_output 4 = .ok (.iload_n 1, 1) := by decide +kernel
theorem dX4_output_5 : decode cX4_output 5 = .ok (.aload_n 0, 1) := by decide +kernel
theorem dX4_output_6 : decode cX4_output 6 = .ok (.getfield 12, 3) := by decide +kernel
theorem dX4_output_9 : decode cX4_output 9 = .ok (.getfield 77, 3) := by decide +kernel
theorem dX4_output_12 : decode cX4_output 12 = .ok (.if_icmp .lt 11, 3) := by decide +kernel
theorem dX4_output_15 : decode cX4_output 15 = .ok (.new 80, 3) := by decide +kernel
theorem dX4_output_18 : decode cX4_output 18 = .ok (.dup, 1) := by decide +kernel
theorem dX4_output_19 : decode cX4_output 19 = .ok (.invokespecial 82, 3) := by decide +kernel
theorem dX4_output_22 : decode cX4_output 22 = .ok (.athrow, 1) := by decide +kernel
theorem dX4_output_23 : decode cX4_output 23 = .ok (.aload_n 0, 1) := by decide +kernel
theorem dX4_output_24 : decode cX4_output 24 = .ok (.getfield 12, 3) := by decide +kernel
theorem dX4_output_27 : decode cX4_output 27 = .ok (.getfield 83, 3) := by decide +kernel
theorem dX4_output_30 : decode cX4_output 30 = .ok (.iload_n 1, 1) := by decide +kernel
theorem dX4_output_31 : decode cX4_output 31 = .ok (.iaload, 1) := by decide +kernel
theorem dX4_output_32 : decode cX4_output 32 = .ok (.ireturn, 1) := by decide +kernel
theorem dX4_outputs_0 : decode cX4_outputs 0 = .ok (.aload_n 0, 1) := by decide +kernel
theorem dX4_outputs_1 : decode cX4_outputs 1 = .ok (.getfield 12, 3) := by decide +kernel
theorem dX4_outputs_4 : decode cX4_outputs 4 = .ok (.getfield 77, 3) := by decide +kernel
theorem dX4_outputs_7 : decode cX4_outputs 7 = .ok (.ireturn, 1) := by decide +kernel
theorem dX4_clear_0 : decode cX4_clear 0 = .ok (.aload_n 0, 1) := by decide +kernel
theorem dX4_clear_1 : decode cX4_clear 1 = .ok (.getfield 12, 3) := by decide +kernel
theorem dX4_clear_4 : decode cX4_clear 4 = .ok (.invokevirtual 86, 3) := by decide +kernel
theorem dX4_clear_7 : decode cX4_clear 7 = .ok (.aload_n 0, 1) := by decide +kernel
theorem dX4_clear_8 : decode cX4_clear 8 = .ok (.getfield 21, 3) := by decide +kernel
theorem dX4_clear_11 : decode cX4_clear 11 = .ok (.invokevirtual 89, 3) := by decide +kernel
theorem dX4_clear_14 : decode cX4_clear 14 = .ok (.aload_n 0, 1) := by decide +kernel
theorem dX4_clear_15 : decode cX4_clear 15 = .ok (.iconst 0, 1) := by decide +kernel
theorem dX4_clear_16 : decode cX4_clear 16 = .ok (.putfield 70, 3) := by decide +kernel
theorem dX4_clear_19 : decode cX4_clear 19 = .ok (.return_, 1) := by decide +kernel
theorem dX4_needWordAt_0 : decode cX4_needWordAt 0 = .ok (.aload_n 0, 1) := by decide +kernel
theorem dX4_needWordAt_1 : decode cX4_needWordAt 1 = .ok (.getfield 12, 3) := by decide +kernel
theorem dX4_needWordAt_4 : decode cX4_needWordAt 4 = .ok (.iload_n 1, 1) := by decide +kernel
theorem dX4_needWordAt_5 : decode cX4_needWordAt 5 = .ok (.ldc 33, 2) := by decide +kernel
theorem dX4_needWordAt_7 : decode cX4_needWordAt 7 = .ok (.invokevirtual 90, 3) := by decide +kernel
theorem dX4_needWordAt_10 : decode cX4_needWordAt 10 = .ok (.ifCond .eq 11, 3) := by decide +kernel
theorem dX4_needWordAt_13 : decode cX4_needWordAt 13 = .ok (.new 80, 3) := by decide +kernel
theorem dX4_needWordAt_16 : decode cX4_needWordAt 16 = .ok (.dup, 1) := by decide +kernel
theorem dX4_needWordAt_17 : decode cX4_needWordAt 17 = .ok (.invokespecial 82, 3) := by decide +kernel
theorem dX4_needWordAt_20 : decode cX4_needWordAt 20 = .ok (.athrow, 1) := by decide +kernel
theorem dX4_needWordAt_21 : decode cX4_needWordAt 21 = .ok (.return_, 1) := by decide +kernel
theorem dX4_needRegister_0 : decode cX4_needRegister 0 = .ok (.iload_n 1, 1) := by decide +kernel
theorem dX4_needRegister_1 : decode cX4_needRegister 1 = .ok (.ifCond .lt 9, 3) := by decide +kernel
theorem dX4_needRegister_4 : decode cX4_needRegister 4 = .ok (.iload_n 1, 1) := by decide +kernel
theorem dX4_needRegister_5 : decode cX4_needRegister 5 = .ok (.bipush 8, 2) := by decide +kernel
theorem dX4_needRegister_7 : decode cX4_needRegister 7 = .ok (.if_icmp .lt 11, 3) := by decide +kernel
theorem dX4_needRegister_10 : decode cX4_needRegister 10 = .ok (.new 80, 3) := by decide +kernel
theorem dX4_needRegister_13 : decode cX4_needRegister 13 = .ok (.dup, 1) := by decide +kernel
theorem dX4_needRegister_14 : decode cX4_needRegister 14 = .ok (.invokespecial 82, 3) := by decide +kernel
theorem dX4_needRegister_17 : decode cX4_needRegister 17 = .ok (.athrow, 1) := by decide +kernel
theorem dX4_needRegister_18 : decode cX4_needRegister 18 = .ok (.return_, 1) := by decide +kernel
theorem dX4_signOf_0 : decode cX4_signOf 0 = .ok (.iload_n 0, 1) := by decide +kernel
theorem dX4_signOf_1 : decode cX4_signOf 1 = .ok (.sipush 255, 3) := by decide +kernel
theorem dX4_signOf_4 : decode cX4_signOf 4 = .ok (.if_icmp .ne 9, 3) := by decide +kernel
theorem dX4_signOf_7 : decode cX4_signOf 7 = .ok (.sipush 128, 3) := by decide +kernel
theorem dX4_signOf_10 : decode cX4_signOf 10 = .ok (.goto 5, 3) := by decide +kernel
theorem dX4_signOf_13 : decode cX4_signOf 13 = .ok (.ldc 93, 2) := by decide +kernel
theorem dX4_signOf_15 : decode cX4_signOf 15 = .ok (.ireturn, 1) := by decide +kernel
theorem dX4_signed_0 : decode cX4_signed 0 = .ok (.iload_n 1, 1) := by decide +kernel
theorem dX4_signed_1 : decode cX4_signed 1 = .ok (.invokestatic 94, 3) := by decide +kernel
theorem dX4_signed_4 : decode cX4_signed 4 = .ok (.istore_n 2, 1) := by decide +kernel
theorem dX4_signed_5 : decode cX4_signed 5 = .ok (.iload_n 0, 1) := by decide +kernel
theorem dX4_signed_6 : decode cX4_signed 6 = .ok (.iload_n 1, 1) := by decide +kernel
theorem dX4_signed_7 : decode cX4_signed 7 = .ok (.iand, 1) := by decide +kernel
theorem dX4_signed_8 : decode cX4_signed 8 = .ok (.iload_n 2, 1) := by decide +kernel
theorem dX4_signed_9 : decode cX4_signed 9 = .ok (.ixor, 1) := by decide +kernel
theorem dX4_signed_10 : decode cX4_signed 10 = .ok (.iload_n 2, 1) := by decide +kernel
theorem dX4_signed_11 : decode cX4_signed 11 = .ok (.isub, 1) := by decide +kernel
theorem dX4_signed_12 : decode cX4_signed 12 = .ok (.ireturn, 1) := by decide +kernel
theorem dX5_init_0 : decode cX5_init 0 = .ok (.aload_n 0, 1) := by decide +kernel
theorem dX5_init_1 : decode cX5_init 1 = .ok (.invokespecial 1, 3) := by decide +kernel
theorem dX5_init_4 : decode cX5_init 4 = .ok (.aload_n 0, 1) := by decide +kernel
theorem dX5_init_5 : decode cX5_init 5 = .ok (.sipush 4096, 3) := by decide +kernel
theorem dX5_init_8 : decode cX5_init 8 = .ok (.newarray .int, 2) := by decide +kernel
theorem dX5_init_10 : decode cX5_init 10 = .ok (.putfield 7, 3) := by decide +kernel
theorem dX5_init_13 : decode cX5_init 13 = .ok (.aload_n 0, 1) := by decide +kernel
theorem dX5_init_14 : decode cX5_init 14 = .ok (.bipush 8, 2) := by decide +kernel
theorem dX5_init_16 : decode cX5_init 16 = .ok (.newarray .int, 2) := by decide +kernel
theorem dX5_init_18 : decode cX5_init 18 = .ok (.putfield 13, 3) := by decide +kernel
theorem dX5_init_21 : decode cX5_init 21 = .ok (.aload_n 0, 1) := by decide +kernel
theorem dX5_init_22 : decode cX5_init 22 = .ok (.sipush 400, 3) := by decide +kernel
theorem dX5_init_25 : decode cX5_init 25 = .ok (.newarray .int, 2) := by decide +kernel
theorem dX5_init_27 : decode cX5_init 27 = .ok (.putfield 16, 3) := by decide +kernel
theorem dX5_init_30 : decode cX5_init 30 = .ok (.aload_n 0, 1) := by decide +kernel
theorem dX5_init_31 : decode cX5_init 31 = .ok (.bipush 8, 2) := by decide +kernel
theorem dX5_init_33 : decode cX5_init 33 = .ok (.newarray .int, 2) := by decide +kernel
theorem dX5_init_35 : decode cX5_init 35 = .ok (.putfield 19, 3) := by decide +kernel
theorem dX5_init_38 : decode cX5_init 38 = .ok (.return_, 1) := by decide +kernel
theorem dX5_thrown_0 : decode cX5_thrown 0 = .ok (.aload_n 0, 1) := by decide +kernel
theorem dX5_thrown_1 : decode cX5_thrown 1 = .ok (.getfield 22, 3) := by decide +kernel
theorem dX5_thrown_4 : decode cX5_thrown 4 = .ok (.ireturn, 1) := by decide +kernel
theorem dX5_isWord_0 : decode cX5_isWord 0 = .ok (.iload_n 0, 1) := by decide +kernel
theorem dX5_isWord_1 : decode cX5_isWord 1 = .ok (.ifCond .lt 20, 3) := by decide +kernel
theorem dX5_isWord_4 : decode cX5_isWord 4 = .ok (.iload_n 0, 1) := by decide +kernel
theorem dX5_isWord_5 : decode cX5_isWord 5 = .ok (.sipush 4096, 3) := by decide +kernel
theorem dX5_isWord_8 : decode cX5_isWord 8 = .ok (.if_icmp .ge 13, 3) := by decide +kernel
theorem dX5_isWord_11 : decode cX5_isWord 11 = .ok (.iload_n 0, 1) := by decide +kernel
theorem dX5_isWord_12 : decode cX5_isWord 12 = .ok (.iconst 2, 1) := by decide +kernel
theorem dX5_isWord_13 : decode cX5_isWord 13 = .ok (.irem, 1) := by decide +kernel
theorem dX5_isWord_14 : decode cX5_isWord 14 = .ok (.ifCond .ne 7, 3) := by decide +kernel
theorem dX5_isWord_17 : decode cX5_isWord 17 = .ok (.iconst 1, 1) := by decide +kernel
theorem dX5_isWord_18 : decode cX5_isWord 18 = .ok (.goto 4, 3) := by decide +kernel
theorem dX5_isWord_21 : decode cX5_isWord 21 = .ok (.iconst 0, 1) := by decide +kernel
theorem dX5_isWord_22 : decode cX5_isWord 22 = .ok (.ireturn, 1) := by decide +kernel
theorem dX5_wordAt_0 : decode cX5_wordAt 0 = .ok (.aload_n 0, 1) := by decide +kernel
theorem dX5_wordAt_1 : decode cX5_wordAt 1 = .ok (.getfield 7, 3) := by decide +kernel
theorem dX5_wordAt_4 : decode cX5_wordAt 4 = .ok (.iload_n 1, 1) := by decide +kernel
theorem dX5_wordAt_5 : decode cX5_wordAt 5 = .ok (.iaload, 1) := by decide +kernel
theorem dX5_wordAt_6 : decode cX5_wordAt 6 = .ok (.aload_n 0, 1) := by decide +kernel
theorem dX5_wordAt_7 : decode cX5_wordAt 7 = .ok (.getfield 7, 3) := by decide +kernel
theorem dX5_wordAt_10 : decode cX5_wordAt 10 = .ok (.iload_n 1, 1) := by decide +kernel
theorem dX5_wordAt_11 : decode cX5_wordAt 11 = .ok (.iconst 1, 1) := by decide +kernel
theorem dX5_wordAt_12 : decode cX5_wordAt 12 = .ok (.iadd, 1) := by decide +kernel
theorem dX5_wordAt_13 : decode cX5_wordAt 13 = .ok (.iaload, 1) := by decide +kernel
theorem dX5_wordAt_14 : decode cX5_wordAt 14 = .ok (.bipush 8, 2) := by decide +kernel
theorem dX5_wordAt_16 : decode cX5_wordAt 16 = .ok (.ishl, 1) := by decide +kernel
theorem dX5_wordAt_17 : decode cX5_wordAt 17 = .ok (.ior, 1) := by decide +kernel
theorem dX5_wordAt_18 : decode cX5_wordAt 18 = .ok (.ireturn, 1) := by decide +kernel
theorem dX5_setWord_0 : decode cX5_setWord 0 = .ok (.aload_n 0, 1) := by decide +kernel
theorem dX5_setWord_1 : decode cX5_setWord 1 = .ok (.getfield 7, 3) := by decide +kernel
theorem dX5_setWord_4 : decode cX5_setWord 4 = .ok (.iload_n 1, 1) := by decide +kernel
theorem dX5_setWord_5 : decode cX5_setWord 5 = .ok (.iload_n 2, 1) := by decide +kernel
theorem dX5_setWord_6 : decode cX5_setWord 6 = .ok (.sipush 255, 3) := by decide +kernel
theorem dX5_setWord_9 : decode cX5_setWord 9 = .ok (.iand, 1) := by decide +kernel
theorem dX5_setWord_10 : decode cX5_setWord 10 = .ok (.iastore, 1) := by decide +kernel
theorem dX5_setWord_11 : decode cX5_setWord 11 = .ok (.aload_n 0, 1) := by decide +kernel
theorem dX5_setWord_12 : decode cX5_setWord 12 = .ok (.getfield 7, 3) := by decide +kernel
theorem dX5_setWord_15 : decode cX5_setWord 15 = .ok (.iload_n 1, 1) := by decide +kernel
theorem dX5_setWord_16 : decode cX5_setWord 16 = .ok (.iconst 1, 1) := by decide +kernel
theorem dX5_setWord_17 : decode cX5_setWord 17 = .ok (.iadd, 1) := by decide +kernel
theorem dX5_setWord_18 : decode cX5_setWord 18 = .ok (.iload_n 2, 1) := by decide +kernel
theorem dX5_setWord_19 : decode cX5_setWord 19 = .ok (.bipush 8, 2) := by decide +kernel
theorem dX5_setWord_21 : decode cX5_setWord 21 = .ok (.ishr, 1) := by decide +kernel
theorem dX5_setWord_22 : decode cX5_setWord 22 = .ok (.sipush 255, 3) := by decide +kernel
theorem dX5_setWord_25 : decode cX5_setWord 25 = .ok (.iand, 1) := by decide +kernel
theorem dX5_setWord_26 : decode cX5_setWord 26 = .ok (.iastore, 1) := by decide +kernel
theorem dX5_setWord_27 : decode cX5_setWord 27 = .ok (.return_, 1) := by decide +kernel
theorem dX5_load_0 : decode cX5_load 0 = .ok (.aload_n 0, 1) := by decide +kernel
theorem dX5_load_1 : decode cX5_load 1 = .ok (.iload_n 1, 1) := by decide +kernel
theorem dX5_load_2 : decode cX5_load 2 = .ok (.invokestatic 26, 3) := by decide +kernel
theorem dX5_load_5 : decode cX5_load 5 = .ok (.ifCond .eq 7, 3) := by decide +kernel
theorem dX5_load_8 : decode cX5_load 8 = .ok (.iconst 0, 1) := by decide +kernel
theorem dX5_load_9 : decode cX5_load 9 = .ok (.goto 4, 3) := by decide +kernel
theorem dX5_load_12 : decode cX5_load 12 = .ok (.iconst 1, 1) := by decide +kernel
theorem dX5_load_13 : decode cX5_load 13 = .ok (.putfield 22, 3) := by decide +kernel
theorem dX5_load_16 : decode cX5_load 16 = .ok (.iconst 0, 1) := by decide +kernel
theorem dX5_load_17 : decode cX5_load 17 = .ok (.istore 7, 2) := by decide +kernel
theorem dX5_load_19 : decode cX5_load 19 = .ok (.iconst 0, 1) := by decide +kernel
theorem dX5_load_20 : decode cX5_load 20 = .ok (.istore 8, 2) := by decide +kernel
theorem dX5_load_22 : decode cX5_load 22 = .ok (.iload 8, 2) := by decide +kernel
theorem dX5_load_24 : decode cX5_load 24 = .ok (.bipush 10, 2) := by decide +kernel
theorem dX5_load_26 : decode cX5_load 26 = .ok (.if_icmp .ge 109, 3) := by decide +kernel
theorem dX5_load_29 : decode cX5_load 29 = .ok (.aload_n 0, 1) := by decide +kernel
theorem dX5_load_30 : decode cX5_load 30 = .ok (.getfield 22, 3) := by decide +kernel
theorem dX5_load_33 : decode cX5_load 33 = .ok (.ifCond .ne 102, 3) := by decide +kernel
theorem dX5_load_36 : decode cX5_load 36 = .ok (.iload 8, 2) := by decide +kernel
theorem dX5_load_38 : decode cX5_load 38 = .ok (.iconst 2, 1) := by decide +kernel
theorem dX5_load_39 : decode cX5_load 39 = .ok (.if_icmp .ge 7, 3) := by decide +kernel
theorem dX5_load_42 : decode cX5_load 42 = .ok (.iload_n 2, 1) := by decide +kernel
theorem dX5_load_43 : decode cX5_load 43 = .ok (.goto 39, 3) := by decide +kernel
theorem dX5_load_46 : decode cX5_load 46 = .ok (.iload 8, 2) := by decide +kernel
theorem dX5_load_48 : decode cX5_load 48 = .ok (.iconst 4, 1) := by decide +kernel
theorem dX5_load_49 : decode cX5_load 49 = .ok (.if_icmp .ge 7, 3) := by decide +kernel
theorem dX5_load_52 : decode cX5_load 52 = .ok (.iload_n 3, 1) := by decide +kernel
theorem dX5_load_53 : decode cX5_load 53 = .ok (.goto 29, 3) := by decide +kernel
theorem dX5_load_56 : decode cX5_load 56 = .ok (.iload 8, 2) := by decide +kernel
theorem dX5_load_58 : decode cX5_load 58 = .ok (.bipush 6, 2) := by decide +kernel
theorem dX5_load_60 : decode cX5_load 60 = .ok (.if_icmp .ge 8, 3) := by decide +kernel
theorem dX5_load_63 : decode cX5_load 63 = .ok (.iload 4, 2) := by decide +kernel
theorem dX5_load_65 : decode cX5_load 65 = .ok (.goto 17, 3) := by decide +kernel
theorem dX5_load_68 : decode cX5_load 68 = .ok (.iload 8, 2) := by decide +kernel
theorem dX5_load_70 : decode cX5_load 70 = .ok (.bipush 8, 2) := by decide +kernel
theorem dX5_load_72 : decode cX5_load 72 = .ok (.if_icmp .ge 8, 3) := by decide +kernel
theorem dX5_load_75 : decode cX5_load 75 = .ok (.iload 5, 2) := by decide +kernel
theorem dX5_load_77 : decode cX5_load 77 = .ok (.goto 5, 3) := by decide +kernel
theorem dX5_load_80 : decode cX5_load 80 = .ok (.iload 6, 2) := by decide +kernel
theorem dX5_load_82 : decode cX5_load 82 = .ok (.istore 9, 2) := by decide +kernel
theorem dX5_load_84 : decode cX5_load 84 = .ok (.iload_n 1, 1) := by decide +kernel
theorem dX5_load_85 : decode cX5_load 85 = .ok (.iconst 2, 1) := by decide +kernel
theorem dX5_load_86 : decode cX5_load 86 = .ok (.iload 8, 2) := by decide +kernel
theorem dX5_load_88 : decode cX5_load 88 = .ok (.imul, 1) := by decide +kernel
theorem dX5_load_89 : decode cX5_load 89 = .ok (.iadd, 1) := by decide +kernel
theorem dX5_load_90 : decode cX5_load 90 = .ok (.sipush 4096, 3) := by decide +kernel
theorem dX5_load_93 : decode cX5_load 93 = .ok (.if_icmp .ge 36, 3) := by decide +kernel
theorem dX5_load_96 : decode cX5_load 96 = .ok (.aload_n 0, 1) := by decide +kernel
theorem dX5_load_97 : decode cX5_load 97 = .ok (.iload_n 1, 1) := by decide +kernel
theorem dX5_load_98 : decode cX5_load 98 = .ok (.iconst 2, 1) := by decide +kernel
theorem dX5_load_99 : decode cX5_load 99 = .ok (.iload 8, 2) := by decide +kernel
theorem dX5_load_101 : decode cX5_load 101 = .ok (.imul, 1) := by decide +kernel
theorem dX5_load_102 : decode cX5_load 102 = .ok (.iadd, 1) := by decide +kernel
theorem dX5_load_103 : decode cX5_load 103 = .ok (.iload 8, 2) := by decide +kernel
theorem dX5_load_105 : decode cX5_load 105 = .ok (.iconst 2, 1) := by decide +kernel
theorem dX5_load_106 : decode cX5_load 106 = .ok (.irem, 1) := by decide +kernel
theorem dX5_load_107 : decode cX5_load 107 = .ok (.ifCond .ne 11, 3) := by decide +kernel
theorem dX5_load_110 : decode cX5_load 110 = .ok (.iload 9, 2) := by decide +kernel
theorem dX5_load_112 : decode cX5_load 112 = .ok (.bipush 16, 2) := by decide +kernel
theorem dX5_load_114 : decode cX5_load 114 = .ok (.iushr, 1) := by decide +kernel
theorem dX5_load_115 : decode cX5_load 115 = .ok (.goto 8, 3) := by decide +kernel
theorem dX5_load_118 : decode cX5_load 118 = .ok (.iload 9, 2) := by decide +kernel
theorem dX5_load_120 : decode cX5_load 120 = .ok (.ldc 30, 2) := by decide +kernel
theorem dX5_load_122 : decode cX5_load 122 = .ok (.iand, 1) := by decide +kernel
theorem dX5_load_123 : decode cX5_load 123 = .ok (.invokevirtual 31, 3) := by decide +kernel
theorem dX5_load_126 : decode cX5_load 126 = .ok (.iinc 7 1, 3) := by decide +kernel
theorem dX5_load_129 : decode cX5_load 129 = .ok (.iinc 8 1, 3) := by decide +kernel
theorem dX5_load_132 : decode cX5_load 132 = .ok (.goto (-110), 3) := by decide +kernel
theorem dX5_load_135 : decode cX5_load 135 = .ok (.iload 7, 2) := by decide +kernel
theorem dX5_load_137 : decode cX5_load 137 = .ok (.ireturn, 1) := by decide +kernel
theorem dX5_word_0 : decode cX5_word 0 = .ok (.aload_n 0, 1) := by decide +kernel
theorem dX5_word_1 : decode cX5_word 1 = .ok (.iload_n 1, 1) := by decide +kernel
theorem dX5_word_2 : decode cX5_word 2 = .ok (.invokestatic 26, 3) := by decide +kernel
theorem dX5_word_5 : decode cX5_word 5 = .ok (.ifCond .eq 7, 3) := by decide +kernel
theorem dX5_word_8 : decode cX5_word 8 = .ok (.iconst 0, 1) := by decide +kernel
theorem dX5_word_9 : decode cX5_word 9 = .ok (.goto 4, 3) := by decide +kernel
theorem dX5_word_12 : decode cX5_word 12 = .ok (.iconst 1, 1) := by decide +kernel
theorem dX5_word_13 : decode cX5_word 13 = .ok (.putfield 22, 3) := by decide +kernel
theorem dX5_word_16 : decode cX5_word 16 = .ok (.aload_n 0, 1) := by decide +kernel
theorem dX5_word_17 : decode cX5_word 17 = .ok (.getfield 22, 3) := by decide +kernel
theorem dX5_word_20 : decode cX5_word 20 = .ok (.ifCond .le 7, 3) := by decide +kernel
theorem dX5_word_23 : decode cX5_word 23 = .ok (.iconst 0, 1) := by decide +kernel
theorem dX5_word_24 : decode cX5_word 24 = .ok (.goto 8, 3) := by decide +kernel
theorem dX5_word_27 : decode cX5_word 27 = .ok (.aload_n 0, 1) := by decide +kernel
theorem dX5_word_28 : decode cX5_word 28 = .ok (.iload_n 1, 1) := by decide +kernel
theorem dX5_word_29 : decode cX5_word 29 = .ok (.invokevirtual 35, 3) := by decide +kernel
