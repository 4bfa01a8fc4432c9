theorem dX5_word_32 : decode cX5_word 32 = .ok (.ireturn, 1) := by decide +kernel
theorem dX5_poke_0 : decode cX5_poke 0 = .ok (.aload_n 0, 1) := by decide +kernel
theorem dX5_poke_1 : decode cX5_poke 1 = .ok (.iload_n 1, 1) := by decide +kernel
theorem dX5_poke_2 : decode cX5_poke 2 = .ok (.invokestatic 26, 3) := by decide +kernel
theorem dX5_poke_5 : decode cX5_poke 5 = .ok (.ifCond .eq 7, 3) := by decide +kernel
theorem dX5_poke_8 : decode cX5_poke 8 = .ok (.iconst 0, 1) := by decide +kernel
theorem dX5_poke_9 : decode cX5_poke 9 = .ok (.goto 4, 3) := by decide +kernel
theorem dX5_poke_12 : decode cX5_poke 12 = .ok (.iconst 1, 1) := by decide +kernel
theorem dX5_poke_13 : decode cX5_poke 13 = .ok (.putfield 22, 3) := by decide +kernel
theorem dX5_poke_16 : decode cX5_poke 16 = .ok (.aload_n 0, 1) := by decide +kernel
theorem dX5_poke_17 : decode cX5_poke 17 = .ok (.getfield 22, 3) := by decide +kernel
theorem dX5_poke_20 : decode cX5_poke 20 = .ok (.ifCond .le 5, 3) := by decide +kernel
theorem dX5_poke_23 : decode cX5_poke 23 = .ok (.iconst 0, 1) := by decide +kernel
theorem dX5_poke_24 : decode cX5_poke 24 = .ok (.ireturn, 1) := by decide +kernel
theorem dX5_poke_25 : decode cX5_poke 25 = .ok (.aload_n 0, 1) := by decide +kernel
theorem dX5_poke_26 : decode cX5_poke 26 = .ok (.iload_n 1, 1) := by decide +kernel
theorem dX5_poke_27 : decode cX5_poke 27 = .ok (.invokevirtual 35, 3) := by decide +kernel
theorem dX5_poke_30 : decode cX5_poke 30 = .ok (.iload_n 2, 1) := by decide +kernel
theorem dX5_poke_31 : decode cX5_poke 31 = .ok (.ldc 30, 2) := by decide +kernel
theorem dX5_poke_33 : decode cX5_poke 33 = .ok (.iand, 1) := by decide +kernel
theorem dX5_poke_34 : decode cX5_poke 34 = .ok (.if_icmp .eq 7, 3) := by decide +kernel
theorem dX5_poke_37 : decode cX5_poke 37 = .ok (.iconst 1, 1) := by decide +kernel
theorem dX5_poke_38 : decode cX5_poke 38 = .ok (.goto 4, 3) := by decide +kernel
theorem dX5_poke_41 : decode cX5_poke 41 = .ok (.iconst 0, 1) := by decide +kernel
theorem dX5_poke_42 : decode cX5_poke 42 = .ok (.istore_n 3, 1) := by decide +kernel
theorem dX5_poke_43 : decode cX5_poke 43 = .ok (.aload_n 0, 1) := by decide +kernel
theorem dX5_poke_44 : decode cX5_poke 44 = .ok (.iload_n 1, 1) := by decide +kernel
theorem dX5_poke_45 : decode cX5_poke 45 = .ok (.iload_n 2, 1) := by decide +kernel
theorem dX5_poke_46 : decode cX5_poke 46 = .ok (.invokevirtual 31, 3) := by decide +kernel
theorem dX5_poke_49 : decode cX5_poke 49 = .ok (.iload_n 3, 1) := by decide +kernel
theorem dX5_poke_50 : decode cX5_poke 50 = .ok (.ireturn, 1) := by decide +kernel
theorem dX5_register_0 : decode cX5_register 0 = .ok (.aload_n 0, 1) := by decide +kernel
theorem dX5_register_1 : decode cX5_register 1 = .ok (.iload_n 1, 1) := by decide +kernel
theorem dX5_register_2 : decode cX5_register 2 = .ok (.ifCond .lt 13, 3) := by decide +kernel
theorem dX5_register_5 : decode cX5_register 5 = .ok (.iload_n 1, 1) := by decide +kernel
theorem dX5_register_6 : decode cX5_register 6 = .ok (.bipush 8, 2) := by decide +kernel
theorem dX5_register_8 : decode cX5_register 8 = .ok (.if_icmp .ge 7, 3) := by decide +kernel
theorem dX5_register_11 : decode cX5_register 11 = .ok (.iconst 0, 1) := by decide +kernel
theorem dX5_register_12 : decode cX5_register 12 = .ok (.goto 4, 3) := by decide +kernel
theorem dX5_register_15 : decode cX5_register 15 = .ok (.iconst 1, 1) := by decide +kernel
theorem dX5_register_16 : decode cX5_register 16 = .ok (.putfield 22, 3) := by decide +kernel
theorem dX5_register_19 : decode cX5_register 19 = .ok (.aload_n 0, 1) := by decide +kernel
theorem dX5_register_20 : decode cX5_register 20 = .ok (.getfield 22, 3) := by decide +kernel
theorem dX5_register_23 : decode cX5_register 23 = .ok (.ifCond .le 7, 3) := by decide +kernel
theorem dX5_register_26 : decode cX5_register 26 = .ok (.iconst 0, 1) := by decide +kernel
theorem dX5_register_27 : decode cX5_register 27 = .ok (.goto 9, 3) := by decide +kernel
theorem dX5_register_30 : decode cX5_register 30 = .ok (.aload_n 0, 1) := by decide +kernel
theorem dX5_register_31 : decode cX5_register 31 = .ok (.getfield 13, 3) := by decide +kernel
theorem dX5_register_34 : decode cX5_register 34 = .ok (.iload_n 1, 1) := by decide +kernel
theorem dX5_register_35 : decode cX5_register 35 = .ok (.iaload, 1) := by decide +kernel
theorem dX5_register_36 : decode cX5_register 36 = .ok (.ireturn, 1) := by decide +kernel
theorem dX5_put_0 : decode cX5_put 0 = .ok (.aload_n 0, 1) := by decide +kernel
theorem dX5_put_1 : decode cX5_put 1 = .ok (.iload_n 1, 1) := by decide +kernel
theorem dX5_put_2 : decode cX5_put 2 = .ok (.ifCond .lt 13, 3) := by decide +kernel
theorem dX5_put_5 : decode cX5_put 5 = .ok (.iload_n 1, 1) := by decide +kernel
theorem dX5_put_6 : decode cX5_put 6 = .ok (.bipush 8, 2) := by decide +kernel
theorem dX5_put_8 : decode cX5_put 8 = .ok (.if_icmp .ge 7, 3) := by decide +kernel
theorem dX5_put_11 : decode cX5_put 11 = .ok (.iconst 0, 1) := by decide +kernel
theorem dX5_put_12 : decode cX5_put 12 = .ok (.goto 4, 3) := by decide +kernel
theorem dX5_put_15 : decode cX5_put 15 = .ok (.iconst 1, 1) := by decide +kernel
theorem dX5_put_16 : decode cX5_put 16 = .ok (.putfield 22, 3) := by decide +kernel
theorem dX5_put_19 : decode cX5_put 19 = .ok (.aload_n 0, 1) := by decide +kernel
theorem dX5_put_20 : decode cX5_put 20 = .ok (.getfield 22, 3) := by decide +kernel
theorem dX5_put_23 : decode cX5_put 23 = .ok (.ifCond .ne 13, 3) := by decide +kernel
theorem dX5_put_26 : decode cX5_put 26 = .ok (.aload_n 0, 1) := by decide +kernel
theorem dX5_put_27 : decode cX5_put 27 = .ok (.getfield 13, 3) := by decide +kernel
theorem dX5_put_30 : decode cX5_put 30 = .ok (.iload_n 1, 1) := by decide +kernel
theorem dX5_put_31 : decode cX5_put 31 = .ok (.iload_n 2, 1) := by decide +kernel
theorem dX5_put_32 : decode cX5_put 32 = .ok (.ldc 30, 2) := by decide +kernel
theorem dX5_put_34 : decode cX5_put 34 = .ok (.iand, 1) := by decide +kernel
theorem dX5_put_35 : decode cX5_put 35 = .ok (.iastore, 1) := by decide +kernel
theorem dX5_put_36 : decode cX5_put 36 = .ok (.return_, 1) := by decide +kernel
theorem dX5_flags_0 : decode cX5_flags 0 = .ok (.aload_n 0, 1) := by decide +kernel
theorem dX5_flags_1 : decode cX5_flags 1 = .ok (.iconst 0, 1) := by decide +kernel
theorem dX5_flags_2 : decode cX5_flags 2 = .ok (.putfield 22, 3) := by decide +kernel
theorem dX5_flags_5 : decode cX5_flags 5 = .ok (.aload_n 0, 1) := by decide +kernel
theorem dX5_flags_6 : decode cX5_flags 6 = .ok (.getfield 39, 3) := by decide +kernel
theorem dX5_flags_9 : decode cX5_flags 9 = .ok (.ireturn, 1) := by decide +kernel
theorem dX5_flag_0 : decode cX5_flag 0 = .ok (.aload_n 0, 1) := by decide +kernel
theorem dX5_flag_1 : decode cX5_flag 1 = .ok (.iconst 0, 1) := by decide +kernel
theorem dX5_flag_2 : decode cX5_flag 2 = .ok (.putfield 22, 3) := by decide +kernel
theorem dX5_flag_5 : decode cX5_flag 5 = .ok (.aload_n 0, 1) := by decide +kernel
theorem dX5_flag_6 : decode cX5_flag 6 = .ok (.iload_n 1, 1) := by decide +kernel
theorem dX5_flag_7 : decode cX5_flag 7 = .ok (.bipush 15, 2) := by decide +kernel
theorem dX5_flag_9 : decode cX5_flag 9 = .ok (.iand, 1) := by decide +kernel
theorem dX5_flag_10 : decode cX5_flag 10 = .ok (.putfield 39, 3) := by decide +kernel
theorem dX5_flag_13 : decode cX5_flag 13 = .ok (.return_, 1) := by decide +kernel
theorem dX5_steps_0 : decode cX5_steps 0 = .ok (.aload_n 0, 1) := by decide +kernel
theorem dX5_steps_1 : decode cX5_steps 1 = .ok (.iconst 0, 1) := by decide +kernel
theorem dX5_steps_2 : decode cX5_steps 2 = .ok (.putfield 22, 3) := by decide +kernel
theorem dX5_steps_5 : decode cX5_steps 5 = .ok (.aload_n 0, 1) := by decide +kernel
theorem dX5_steps_6 : decode cX5_steps 6 = .ok (.getfield 42, 3) := by decide +kernel
theorem dX5_steps_9 : decode cX5_steps 9 = .ok (.ireturn, 1) := by decide +kernel
theorem dX5_output_0 : decode cX5_output 0 = .ok (.aload_n 0, 1) := by decide +kernel
theorem dX5_output_1 : decode cX5_output 1 = .ok (.iload_n 1, 1) := by decide +kernel
theorem dX5_output_2 : decode cX5_output 2 = .ok (.ifCond .lt 15, 3) := by decide +kernel
theorem dX5_output_5 : decode cX5_output 5 = .ok (.iload_n 1, 1) := by decide +kernel
theorem dX5_output_6 : decode cX5_output 6 = .ok (.aload_n 0, 1) := by decide +kernel
theorem dX5_output_7 : decode cX5_output 7 = .ok (.getfield 45, 3) := by decide +kernel
theorem dX5_output_10 : decode cX5_output 10 = .ok (.if_icmp .ge 7, 3) := by decide +kernel
theorem dX5_output_13 : decode cX5_output 13 = .ok (.iconst 0, 1) := by decide +kernel
theorem dX5_output_14 : decode cX5_output 14 = .ok (.goto 4, 3) := by decide +kernel
theorem dX5_output_17 : decode cX5_output 17 = .ok (.iconst 1, 1) := by decide +kernel
theorem dX5_output_18 : decode cX5_output 18 = .ok (.putfield 22, 3) := by decide +kernel
theorem dX5_output_21 : decode cX5_output 21 = .ok (.aload_n 0, 1) := by decide +kernel
theorem dX5_output_22 : decode cX5_output 22 = .ok (.getfield 22, 3) := by decide +kernel
theorem dX5_output_25 : decode cX5_output 25 = .ok (.ifCond .le 7, 3) := by decide +kernel
theorem dX5_output_28 : decode cX5_output 28 = .ok (.iconst 0, 1) := by decide +kernel
theorem dX5_output_29 : decode cX5_output 29 = .ok (.goto 9, 3) := by decide +kernel
theorem dX5_output_32 : decode cX5_output 32 = .ok (.aload_n 0, 1) := by decide +kernel
theorem dX5_output_33 : decode cX5_output 33 = .ok (.getfield 16, 3) := by decide +kernel
theorem dX5_output_36 : decode cX5_output 36 = .ok (.iload_n 1, 1) := by decide +kernel
theorem dX5_output_37 : decode cX5_output 37 = .ok (.iaload, 1) := by decide +kernel
theorem dX5_output_38 : decode cX5_output 38 = .ok (.ireturn, 1) := by decide +kernel
theorem dX5_outputs_0 : decode cX5_outputs 0 = .ok (.aload_n 0, 1) := by decide +kernel
theorem dX5_outputs_1 : decode cX5_outputs 1 = .ok (.iconst 0, 1) := by decide +kernel
theorem dX5_outputs_2 : decode cX5_outputs 2 = .ok (.putfield 22, 3) := by decide +kernel
theorem dX5_outputs_5 : decode cX5_outputs 5 = .ok (.aload_n 0, 1) := by decide +kernel
theorem dX5_outputs_6 : decode cX5_outputs 6 = .ok (.getfield 45, 3) := by decide +kernel
theorem dX5_outputs_9 : decode cX5_outputs 9 = .ok (.ireturn, 1) := by decide +kernel
theorem dX5_clear_0 : decode cX5_clear 0 = .ok (.aload_n 0, 1) := by decide +kernel
theorem dX5_clear_1 : decode cX5_clear 1 = .ok (.iconst 0, 1) := by decide +kernel
theorem dX5_clear_2 : decode cX5_clear 2 = .ok (.putfield 22, 3) := by decide +kernel
theorem dX5_clear_5 : decode cX5_clear 5 = .ok (.iconst 0, 1) := by decide +kernel
theorem dX5_clear_6 : decode cX5_clear 6 = .ok (.istore_n 1, 1) := by decide +kernel
theorem dX5_clear_7 : decode cX5_clear 7 = .ok (.iload_n 1, 1) := by decide +kernel
theorem dX5_clear_8 : decode cX5_clear 8 = .ok (.sipush 4096, 3) := by decide +kernel
theorem dX5_clear_11 : decode cX5_clear 11 = .ok (.if_icmp .ge 16, 3) := by decide +kernel
theorem dX5_clear_14 : decode cX5_clear 14 = .ok (.aload_n 0, 1) := by decide +kernel
theorem dX5_clear_15 : decode cX5_clear 15 = .ok (.getfield 7, 3) := by decide +kernel
theorem dX5_clear_18 : decode cX5_clear 18 = .ok (.iload_n 1, 1) := by decide +kernel
theorem dX5_clear_19 : decode cX5_clear 19 = .ok (.iconst 0, 1) := by decide +kernel
theorem dX5_clear_20 : decode cX5_clear 20 = .ok (.iastore, 1) := by decide +kernel
theorem dX5_clear_21 : decode cX5_clear 21 = .ok (.iinc 1 1, 3) := by decide +kernel
theorem dX5_clear_24 : decode cX5_clear 24 = .ok (.goto (-17), 3) := by decide +kernel
theorem dX5_clear_27 : decode cX5_clear 27 = .ok (.iconst 0, 1) := by decide +kernel
theorem dX5_clear_28 : decode cX5_clear 28 = .ok (.istore_n 1, 1) := by decide +kernel
theorem dX5_clear_29 : decode cX5_clear 29 = .ok (.iload_n 1, 1) := by decide +kernel
theorem dX5_clear_30 : decode cX5_clear 30 = .ok (.bipush 8, 2) := by decide +kernel
theorem dX5_clear_32 : decode cX5_clear 32 = .ok (.if_icmp .ge 16, 3) := by decide +kernel
theorem dX5_clear_35 : decode cX5_clear 35 = .ok (.aload_n 0, 1) := by decide +kernel
theorem dX5_clear_36 : decode cX5_clear 36 = .ok (.getfield 13, 3) := by decide +kernel
theorem dX5_clear_39 : decode cX5_clear 39 = .ok (.iload_n 1, 1) := by decide +kernel
theorem dX5_clear_40 : decode cX5_clear 40 = .ok (.iconst 0, 1) := by decide +kernel
theorem dX5_clear_41 : decode cX5_clear 41 = .ok (.iastore, 1) := by decide +kernel
theorem dX5_clear_42 : decode cX5_clear 42 = .ok (.iinc 1 1, 3) := by decide +kernel
theorem dX5_clear_45 : decode cX5_clear 45 = .ok (.goto (-16), 3) := by decide +kernel
theorem dX5_clear_48 : decode cX5_clear 48 = .ok (.aload_n 0, 1) := by decide +kernel
theorem dX5_clear_49 : decode cX5_clear 49 = .ok (.iconst 0, 1) := by decide +kernel
theorem dX5_clear_50 : decode cX5_clear 50 = .ok (.putfield 39, 3) := by decide +kernel
theorem dX5_clear_53 : decode cX5_clear 53 = .ok (.aload_n 0, 1) := by decide +kernel
theorem dX5_clear_54 : decode cX5_clear 54 = .ok (.iconst 0, 1) := by decide +kernel
theorem dX5_clear_55 : decode cX5_clear 55 = .ok (.putfield 45, 3) := by decide +kernel
theorem dX5_clear_58 : decode cX5_clear 58 = .ok (.aload_n 0, 1) := by decide +kernel
theorem dX5_clear_59 : decode cX5_clear 59 = .ok (.iconst 0, 1) := by decide +kernel
theorem dX5_clear_60 : decode cX5_clear 60 = .ok (.putfield 42, 3) := by decide +kernel
theorem dX5_clear_63 : decode cX5_clear 63 = .ok (.return_, 1) := by decide +kernel
theorem dX5_fail_0 : decode cX5_fail 0 = .ok (.aload_n 0, 1) := by decide +kernel
theorem dX5_fail_1 : decode cX5_fail 1 = .ok (.aload_n 0, 1) := by decide +kernel
theorem dX5_fail_2 : decode cX5_fail 2 = .ok (.getfield 48, 3) := by decide +kernel
theorem dX5_fail_5 : decode cX5_fail 5 = .ok (.ifCond .ne 7, 3) := by decide +kernel
theorem dX5_fail_8 : decode cX5_fail 8 = .ok (.iload_n 1, 1) := by decide +kernel
theorem dX5_fail_9 : decode cX5_fail 9 = .ok (.goto 7, 3) := by decide +kernel
theorem dX5_fail_12 : decode cX5_fail 12 = .ok (.aload_n 0, 1) := by decide +kernel
theorem dX5_fail_13 : decode cX5_fail 13 = .ok (.getfield 48, 3) := by decide +kernel
theorem dX5_fail_16 : decode cX5_fail 16 = .ok (.putfield 48, 3) := by decide +kernel
theorem dX5_fail_19 : decode cX5_fail 19 = .ok (.return_, 1) := by decide +kernel
theorem dX5_read_0 : decode cX5_read 0 = .ok (.iload_n 2, 1) := by decide +kernel
theorem dX5_read_1 : decode cX5_read 1 = .ok (.ifCond .ne 18, 3) := by decide +kernel
theorem dX5_read_4 : decode cX5_read 4 = .ok (.iload_n 1, 1) := by decide +kernel
theorem dX5_read_5 : decode cX5_read 5 = .ok (.iconst 2, 1) := by decide +kernel
theorem dX5_read_6 : decode cX5_read 6 = .ok (.irem, 1) := by decide +kernel
theorem dX5_read_7 : decode cX5_read 7 = .ok (.iconst 1, 1) := by decide +kernel
theorem dX5_read_8 : decode cX5_read 8 = .ok (.if_icmp .ne 11, 3) := by decide +kernel
theorem dX5_read_11 : decode cX5_read 11 = .ok (.aload_n 0, 1) := by decide +kernel
theorem dX5_read_12 : decode cX5_read 12 = .ok (.iconst 2, 1) := by decide +kernel
theorem dX5_read_13 : decode cX5_read 13 = .ok (.invokevirtual 51, 3) := by decide +kernel
theorem dX5_read_16 : decode cX5_read 16 = .ok (.goto 15, 3) := by decide +kernel
theorem dX5_read_19 : decode cX5_read 19 = .ok (.iload_n 1, 1) := by decide +kernel
theorem dX5_read_20 : decode cX5_read 20 = .ok (.sipush 4096, 3) := by decide +kernel
theorem dX5_read_23 : decode cX5_read 23 = .ok (.if_icmp .lt 8, 3) := by decide +kernel
theorem dX5_read_26 : decode cX5_read 26 = .ok (.aload_n 0, 1) := by decide +kernel
theorem dX5_read_27 : decode cX5_read 27 = .ok (.iconst 3, 1) := by decide +kernel
theorem dX5_read_28 : decode cX5_read 28 = .ok (.invokevirtual 51, 3) := by decide +kernel
theorem dX5_read_31 : decode cX5_read 31 = .ok (.aload_n 0, 1) := by decide +kernel
theorem dX5_read_32 : decode cX5_read 32 = .ok (.getfield 48, 3) := by decide +kernel
theorem dX5_read_35 : decode cX5_read 35 = .ok (.ifCond .le 7, 3) := by decide +kernel
theorem dX5_read_38 : decode cX5_read 38 = .ok (.iconst 0, 1) := by decide +kernel
theorem dX5_read_39 : decode cX5_read 39 = .ok (.goto 21, 3) := by decide +kernel
theorem dX5_read_42 : decode cX5_read 42 = .ok (.iload_n 2, 1) := by decide +kernel
theorem dX5_read_43 : decode cX5_read 43 = .ok (.ifCond .eq 12, 3) := by decide +kernel
theorem dX5_read_46 : decode cX5_read 46 = .ok (.aload_n 0, 1) := by decide +kernel
theorem dX5_read_47 : decode cX5_read 47 = .ok (.getfield 7, 3) := by decide +kernel
theorem dX5_read_50 : decode cX5_read 50 = .ok (.iload_n 1, 1) := by decide +kernel
theorem dX5_read_51 : decode cX5_read 51 = .ok (.iaload, 1) := by decide +kernel
theorem dX5_read_52 : decode cX5_read 52 = .ok (.goto 8, 3) := by decide +kernel
theorem dX5_read_55 : decode cX5_read 55 = .ok (.aload_n 0, 1) := by decide +kernel
theorem dX5_read_56 : decode cX5_read 56 = .ok (.iload_n 1, 1) := by decide +kernel
theorem dX5_read_57 : decode cX5_read 57 = .ok (.invokevirtual 35, 3) := by decide +kernel
theorem dX5_read_60 : decode cX5_read 60 = .ok (.ireturn, 1) := by decide +kernel
theorem dX5_fetch_0 : decode cX5_fetch 0 = .ok (.aload_n 0, 1) := by decide +kernel
theorem dX5_fetch_1 : decode cX5_fetch 1 = .ok (.aload_n 0, 1) := by decide +kernel
theorem dX5_fetch_2 : decode cX5_fetch 2 = .ok (.getfield 19, 3) := by decide +kernel
theorem dX5_fetch_5 : decode cX5_fetch 5 = .ok (.bipush 7, 2) := by decide +kernel
theorem dX5_fetch_7 : decode cX5_fetch 7 = .ok (.iaload, 1) := by decide +kernel
theorem dX5_fetch_8 : decode cX5_fetch 8 = .ok (.iconst 0, 1) := by decide +kernel
theorem dX5_fetch_9 : decode cX5_fetch 9 = .ok (.invokevirtual 55, 3) := by decide +kernel
theorem dX5_fetch_12 : decode cX5_fetch 12 = .ok (.istore_n 1, 1) := by decide +kernel
theorem dX5_fetch_13 : decode cX5_fetch 13 = .ok (.aload_n 0, 1) := by decide +kernel
theorem dX5_fetch_14 : decode cX5_fetch 14 = .ok (.getfield 19, 3) := by decide +kernel
theorem dX5_fetch_17 : decode cX5_fetch 17 = .ok (.bipush 7, 2) := by decide +kernel
theorem dX5_fetch_19 : decode cX5_fetch 19 = .ok (.aload_n 0, 1) := by decide +kernel
theorem dX5_fetch_20 : decode cX5_fetch 20 = .ok (.getfield 19, 3) := by decide +kernel
theorem dX5_fetch_23 : decode cX5_fetch 23 = .ok (.bipush 7, 2) := by decide +kernel
theorem dX5_fetch_25 : decode cX5_fetch 25 = .ok (.iaload, 1) := by decide +kernel
theorem dX5_fetch_26 : decode cX5_fetch 26 = .ok (.iconst 2, 1) := by decide +kernel
theorem dX5_fetch_27 : decode cX5_fetch 27 = .ok (.iadd, 1) := by decide +kernel
theorem dX5_fetch_28 : decode cX5_fetch 28 = .ok (.ldc 30, 2) := by decide +kernel
theorem dX5_fetch_30 : decode cX5_fetch 30 = .ok (.iand, 1) := by decide +kernel
theorem dX5_fetch_31 : decode cX5_fetch 31 = .ok (.iastore, 1) := by decide +kernel
theorem dX5_fetch_32 : decode cX5_fetch 32 = .ok (.iload_n 1, 1) := by decide +kernel
theorem dX5_fetch_33 : decode cX5_fetch 33 = .ok (.ireturn, 1) := by decide +kernel
theorem dX5_move_0 : decode cX5_move 0 = .ok (.aload_n 0, 1) := by decide +kernel
theorem dX5_move_1 : decode cX5_move 1 = .ok (.getfield 19, 3) := by decide +kernel
theorem dX5_move_4 : decode cX5_move 4 = .ok (.iload_n 1, 1) := by decide +kernel
theorem dX5_move_5 : decode cX5_move 5 = .ok (.aload_n 0, 1) := by decide +kernel
theorem dX5_move_6 : decode cX5_move 6 = .ok (.getfield 19, 3) := by decide +kernel
theorem dX5_move_9 : decode cX5_move 9 = .ok (.iload_n 1, 1) := by decide +kernel
theorem dX5_move_10 : decode cX5_move 10 = .ok (.iaload, 1) := by decide +kernel
theorem dX5_move_11 : decode cX5_move 11 = .ok (.iload_n 2, 1) := by decide +kernel
theorem dX5_move_12 : decode cX5_move 12 = .ok (.iadd, 1) := by decide +kernel
theorem dX5_move_13 : decode cX5_move 13 = .ok (.ldc 30, 2) := by decide +kernel
theorem dX5_move_15 : decode cX5_move 15 = .ok (.iand, 1) := by decide +kernel
theorem dX5_move_16 : decode cX5_move 16 = .ok (.iastore, 1) := by decide +kernel
theorem dX5_move_17 : decode cX5_move 17 = .ok (.return_, 1) := by decide +kernel
theorem dX5_find_0 : decode cX5_find 0 = .ok (.iload_n 1, 1) := by decide +kernel
theorem dX5_find_1 : decode cX5_find 1 = .ok (.iconst 3, 1) := by decide +kernel
theorem dX5_find_2 : decode cX5_find 2 = .ok (.ishr, 1) := by decide +kernel
theorem dX5_find_3 : decode cX5_find 3 = .ok (.bipush 7, 2) := by decide +kernel
theorem dX5_find_5 : decode cX5_find 5 = .ok (.iand, 1) := by decide +kernel
theorem dX5_find_6 : decode cX5_find 6 = .ok (.istore_n 2, 1) := by decide +kernel
theorem dX5_find_7 : decode cX5_find 7 = .ok (.iload_n 1, 1) := by decide +kernel
theorem dX5_find_8 : decode cX5_find 8 = .ok (.bipush 7, 2) := by decide +kernel
theorem dX5_find_10 : decode cX5_find 10 = .ok (.iand, 1) := by decide +kernel
theorem dX5_find_11 : decode cX5_find 11 = .ok (.istore_n 3, 1) := by decide +kernel
theorem dX5_find_12 : decode cX5_find 12 = .ok (.aload_n 0, 1) := by decide +kernel
theorem dX5_find_13 : decode cX5_find 13 = .ok (.getfield 59, 3) := by decide +kernel
theorem dX5_find_16 : decode cX5_find 16 = .ok (.ifCond .eq 13, 3) := by decide +kernel
theorem dX5_find_19 : decode cX5_find 19 = .ok (.iload_n 3, 1) := by decide +kernel
theorem dX5_find_20 : decode cX5_find 20 = .ok (.bipush 6, 2) := by decide +kernel
theorem dX5_find_22 : decode cX5_find 22 = .ok (.if_icmp .ge 7, 3) := by decide +kernel
theorem dX5_find_25 : decode cX5_find 25 = .ok (.iconst 1, 1) := by decide +kernel
theorem dX5_find_26 : decode cX5_find 26 = .ok (.goto 4, 3) := by decide +kernel
theorem dX5_find_29 : decode cX5_find 29 = .ok (.iconst 2, 1) := by decide +kernel
theorem dX5_find_30 : decode cX5_find 30 = .ok (.istore 4, 2) := by decide +kernel
theorem dX5_find_32 : decode cX5_find 32 = .ok (.aload_n 0, 1) := by decide +kernel
theorem dX5_find_33 : decode cX5_find 33 = .ok (.iload_n 2, 1) := by decide +kernel
theorem dX5_find_34 : decode cX5_find 34 = .ok (.ifCond .ne 7, 3) := by decide +kernel
theorem dX5_find_37 : decode cX5_find 37 = .ok (.iload_n 3, 1) := by decide +kernel
theorem dX5_find_38 : decode cX5_find 38 = .ok (.goto 4, 3) := by decide +kernel
theorem dX5_find_41 : decode cX5_find 41 = .ok (.iconst (-1), 1) := by decide +kernel
theorem dX5_find_42 : decode cX5_find 42 = .ok (.putfield 63, 3) := by decide +kernel
theorem dX5_find_45 : decode cX5_find 45 = .ok (.aload_n 0, 1) := by decide +kernel
theorem dX5_find_46 : decode cX5_find 46 = .ok (.iconst (-1), 1) := by decide +kernel
theorem dX5_find_47 : decode cX5_find 47 = .ok (.putfield 66, 3) := by decide +kernel
theorem dX5_find_50 : decode cX5_find 50 = .ok (.aload_n 0, 1) := by decide +kernel
theorem dX5_find_51 : decode cX5_find 51 = .ok (.getfield 48, 3) := by decide +kernel
theorem dX5_find_54 : decode cX5_find 54 = .ok (.ifCond .gt 7, 3) := by decide +kernel
theorem dX5_find_57 : decode cX5_find 57 = .ok (.iload_n 2, 1) := by decide +kernel
theorem dX5_find_58 : decode cX5_find 58 = .ok (.ifCond .ne 4, 3) := by decide +kernel
theorem dX5_find_61 : decode cX5_find 61 = .ok (.return_, 1) := by decide +kernel
theorem dX5_find_62 : decode cX5_find 62 = .ok (.iload_n 2, 1) := by decide +kernel
theorem dX5_find_63 : decode cX5_find 63 = .ok (.iconst 1, 1) := by decide +kernel
theorem dX5_find_64 : decode cX5_find 64 = .ok (.if_icmp .ne 16, 3) := by decide +kernel
theorem dX5_find_67 : decode cX5_find 67 = .ok (.aload_n 0, 1) := by decide +kernel
theorem dX5_find_68 : decode cX5_find 68 = .ok (.aload_n 0, 1) := by decide +kernel
theorem dX5_find_69 : decode cX5_find 69 = .ok (.getfield 19, 3) := by decide +kernel
theorem dX5_find_72 : decode cX5_find 72 = .ok (.iload_n 3, 1) := by decide +kernel
theorem dX5_find_73 : decode cX5_find 73 = .ok (.iaload, 1) := by decide +kernel
theorem dX5_find_74 : decode cX5_find 74 = .ok (.putfield 66, 3) := by decide +kernel
theorem dX5_find_77 : decode cX5_find 77 = .ok (.goto 165, 3) := by decide +kernel
theorem dX5_find_80 : decode cX5_find 80 = .ok (.iload_n 2, 1) := by decide +kernel
theorem dX5_find_81 : decode cX5_find 81 = .ok (.iconst 2, 1) := by decide +kernel
theorem dX5_find_82 : decode cX5_find 82 = .ok (.if_icmp .ne 23, 3) := by decide +kernel
theorem dX5_find_85 : decode cX5_find 85 = .ok (.aload_n 0, 1) := by decide +kernel
theorem dX5_find_86 : decode cX5_find 86 = .ok (.aload_n 0, 1) := by decide +kernel
theorem dX5_find_87 : decode cX5_find 87 = .ok (.getfield 19, 3) := by decide +kernel
theorem dX5_find_90 : decode cX5_find 90 = .ok (.iload_n 3, 1) := by decide +kernel
theorem dX5_find_91 : decode cX5_find 91 = .ok (.iaload, 1) := by decide +kernel
theorem dX5_find_92 : decode cX5_find 92 = .ok (.putfield 66, 3) := by decide +kernel
theorem dX5_find_95 : decode cX5_find 95 = .ok (.aload_n 0, 1) := by decide +kernel
theorem dX5_find_96 : decode cX5_find 96 = .ok (.iload_n 3, 1) := by decide +kernel
theorem dX5_find_97 : decode cX5_find 97 = .ok (.iload 4, 2) := by decide +kernel
theorem dX5_find_99 : decode cX5_find 99 = .ok (.invokevirtual 69, 3) := by decide +kernel
theorem dX5_find_102 : decode cX5_find 102 = .ok (.goto 140, 3) := by decide +kernel
theorem dX5_find_105 : decode cX5_find 105 = .ok (.iload_n 2, 1) := by decide +kernel
theorem dX5_find_106 : decode cX5_find 106 = .ok (.iconst 3, 1) := by decide +kernel
theorem dX5_find_107 : decode cX5_find 107 = .ok (.if_icmp .ne 31, 3) := by decide +kernel
theorem dX5_find_110 : decode cX5_find 110 = .ok (.aload_n 0, 1) := by decide +kernel
theorem dX5_find_111 : decode cX5_find 111 = .ok (.getfield 19, 3) := by decide +kernel
theorem dX5_find_114 : decode cX5_find 114 = .ok (.iload_n 3, 1) := by decide +kernel
theorem dX5_find_115 : decode cX5_find 115 = .ok (.iaload, 1) := by decide +kernel
theorem dX5_find_116 : decode cX5_find 116 = .ok (.istore 5, 2) := by decide +kernel
theorem dX5_find_118 : decode cX5_find 118 = .ok (.aload_n 0, 1) := by decide +kernel
theorem dX5_find_119 : decode cX5_find 119 = .ok (.aload_n 0, 1) := by decide +kernel
theorem dX5_find_120 : decode cX5_find 120 = .ok (.iload 5, 2) := by decide +kernel
theorem dX5_find_122 : decode cX5_find 122 = .ok (.iconst 0, 1) := by decide +kernel
theorem dX5_find_123 : decode cX5_find 123 = .ok (.invokevirtual 55, 3) := by decide +kernel
theorem dX5_find_126 : decode cX5_find 126 = .ok (.putfield 66, 3) := by decide +kernel
theorem dX5_find_129 : decode cX5_find 129 = .ok (.aload_n 0, 1) := by decide +kernel
theorem dX5_find_130 : decode cX5_find 130 = .ok (.iload_n 3, 1) := by decide +kernel
theorem dX5_find_131 : decode cX5_find 131 = .ok (.iconst 2, 1) := by decide +kernel
theorem dX5_find_132 : decode cX5_find 132 = .ok (.invokevirtual 69, 3) := by decide +kernel
theorem dX5_find_135 : decode cX5_find 135 = .ok (.goto 107, 3) := by decide +kernel
theorem dX5_find_138 : decode cX5_find 138 = .ok (.iload_n 2, 1) := by decide +kernel
theorem dX5_find_139 : decode cX5_find 139 = .ok (.iconst 4, 1) := by decide +kernel
theorem dX5_find_140 : decode cX5_find 140 = .ok (.if_icmp .ne 24, 3) := by decide +kernel
theorem dX5_find_143 : decode cX5_find 143 = .ok (.aload_n 0, 1) := by decide +kernel
theorem dX5_find_144 : decode cX5_find 144 = .ok (.iload_n 3, 1) := by decide +kernel
theorem dX5_find_145 : decode cX5_find 145 = .ok (.iload 4, 2) := by decide +kernel
theorem dX5_find_147 : decode cX5_find 147 = .ok (.ineg, 1) := by decide +kernel
theorem dX5_find_148 : decode cX5_find 148 = .ok (.invokevirtual 69, 3) := by decide +kernel
theorem dX5_find_151 : decode cX5_find 151 = .ok (.aload_n 0, 1) := by decide +kernel
theorem dX5_find_152 : decode cX5_find 152 = .ok (.aload_n 0, 1) := by decide +kernel
theorem dX5_find_153 : decode cX5_find 153 = .ok (.getfield 19, 3) := by decide +kernel
theorem dX5_find_156 : decode cX5_find 156 = .ok (.iload_n 3, 1) := by decide +kernel
theorem dX5_find_157 : decode cX5_find 157 = .ok (.iaload, 1) := by decide +kernel
theorem dX5_find_158 : decode cX5_find 158 = .ok (.putfield 66, 3) := by decide +kernel
theorem dX5_find_161 : decode cX5_find 161 = .ok (.goto 81, 3) := by decide +kernel
theorem dX5_find_164 : decode cX5_find 164 = .ok (.iload_n 2, 1) := by decide +kernel
theorem dX5_find_165 : decode cX5_find 165 = .ok (.iconst 5, 1) := by decide +kernel
theorem dX5_find_166 : decode cX5_find 166 = .ok (.if_icmp .ne 28, 3) := by decide +kernel
theorem dX5_find_169 : decode cX5_find 169 = .ok (.aload_n 0, 1) := by decide +kernel
theorem dX5_find_170 : decode cX5_find 170 = .ok (.iload_n 3, 1) := by decide +kernel
theorem dX5_find_171 : decode cX5_find 171 = .ok (.bipush (-2), 2) := by decide +kernel
theorem dX5_find_173 : decode cX5_find 173 = .ok (.invokevirtual 69, 3) := by decide +kernel
theorem dX5_find_176 : decode cX5_find 176 = .ok (.aload_n 0, 1) := by decide +kernel
theorem dX5_find_177 : decode cX5_find 177 = .ok (.aload_n 0, 1) := by decide +kernel
theorem dX5_find_178 : decode cX5_find 178 = .ok (.aload_n 0, 1) := by decide +kernel
theorem dX5_find_179 : decode cX5_find 179 = .ok (.getfield 19, 3) := by decide +kernel
theorem dX5_find_182 : decode cX5_find 182 = .ok (.iload_n 3, 1) := by decide +kernel
theorem dX5_find_183 : decode cX5_find 183 = .ok (.iaload, 1) := by decide +kernel
theorem dX5_find_184 : decode cX5_find 184 = .ok (.iconst 0, 1) := by decide +kernel
theorem dX5_find_185 : decode cX5_find 185 = .ok (.invokevirtual 55, 3) := by decide +kernel
theorem dX5_find_188 : decode cX5_find 188 = .ok (.putfield 66, 3) := by decide +kernel
theorem dX5_find_191 : decode cX5_find 191 = .ok (.goto 51, 3) := by decide +kernel
theorem dX5_find_194 : decode cX5_find 194 = .ok (.aload_n 0, 1) := by decide +kernel
theorem dX5_find_195 : decode cX5_find 195 = .ok (.invokevirtual 72, 3) := by decide +kernel
theorem dX5_find_198 : decode cX5_find 198 = .ok (.istore 5, 2) := by decide +kernel
theorem dX5_find_200 : decode cX5_find 200 = .ok (.aload_n 0, 1) := by decide +kernel
theorem dX5_find_201 : decode cX5_find 201 = .ok (.iload 5, 2) := by decide +kernel
theorem dX5_find_203 : decode cX5_find 203 = .ok (.aload_n 0, 1) := by decide +kernel
theorem dX5_find_204 : decode cX5_find 204 = .ok (.getfield 19, 3) := by decide +kernel
theorem dX5_find_207 : decode cX5_find 207 = .ok (.iload_n 3, 1) := by decide +kernel
theorem dX5_find_208 : decode cX5_find 208 = .ok (.iaload, 1) := by decide +kernel
theorem dX5_find_209 : decode cX5_find 209 = .ok (.iadd, 1) := by decide +kernel
theorem dX5_find_210 : decode cX5_find 210 = .ok (.ldc 30, 2) := by decide +kernel
theorem dX5_find_212 : decode cX5_find 212 = .ok (.iand, 1) := by decide +kernel
theorem dX5_find_213 : decode cX5_find 213 = .ok (.putfield 66, 3) := by decide +kernel
theorem dX5_find_216 : decode cX5_find 216 = .ok (.aload_n 0, 1) := by decide +kernel
theorem dX5_find_217 : decode cX5_find 217 = .ok (.iload_n 2, 1) := by decide +kernel
theorem dX5_find_218 : decode cX5_find 218 = .ok (.bipush 7, 2) := by decide +kernel
theorem dX5_find_220 : decode cX5_find 220 = .ok (.if_icmp .ne 15, 3) := by decide +kernel
theorem dX5_find_223 : decode cX5_find 223 = .ok (.aload_n 0, 1) := by decide +kernel
theorem dX5_find_224 : decode cX5_find 224 = .ok (.aload_n 0, 1) := by decide +kernel
theorem dX5_find_225 : decode cX5_find 225 = .ok (.getfield 66, 3) := by decide +kernel
theorem dX5_find_228 : decode cX5_find 228 = .ok (.iconst 0, 1) := by decide +kernel
theorem dX5_find_229 : decode cX5_find 229 = .ok (.invokevirtual 55, 3) := by decide +kernel
theorem dX5_find_232 : decode cX5_find 232 = .ok (.goto 7, 3) := by decide +kernel
theorem dX5_find_235 : decode cX5_find 235 = .ok (.aload_n 0, 1) := by decide +kernel
theorem dX5_find_236 : decode cX5_find 236 = .ok (.getfield 66, 3) := by decide +kernel
theorem dX5_find_239 : decode cX5_find 239 = .ok (.putfield 66, 3) := by decide +kernel
theorem dX5_find_242 : decode cX5_find 242 = .ok (.return_, 1) := by decide +kernel
theorem dX5_get_0 : decode cX5_get 0 = .ok (.aload_n 0, 1) := by decide +kernel
theorem dX5_get_1 : decode cX5_get 1 = .ok (.getfield 48, 3) := by decide +kernel
theorem dX5_get_4 : decode cX5_get 4 = .ok (.ifCond .le 5, 3) := by decide +kernel
theorem dX5_get_7 : decode cX5_get 7 = .ok (.iconst 0, 1) := by decide +kernel
theorem dX5_get_8 : decode cX5_get 8 = .ok (.ireturn, 1) := by decide +kernel
theorem dX5_get_9 : decode cX5_get 9 = .ok (.aload_n 0, 1) := by decide +kernel
theorem dX5_get_10 : decode cX5_get 10 = .ok (.getfield 63, 3) := by decide +kernel
theorem dX5_get_13 : decode cX5_get 13 = .ok (.iconst (-1), 1) := by decide +kernel
theorem dX5_get_14 : decode cX5_get 14 = .ok (.if_icmp .eq 36, 3) := by decide +kernel
theorem dX5_get_17 : decode cX5_get 17 = .ok (.aload_n 0, 1) := by decide +kernel
theorem dX5_get_18 : decode cX5_get 18 = .ok (.getfield 59, 3) := by decide +kernel
theorem dX5_get_21 : decode cX5_get 21 = .ok (.ifCond .eq 19, 3) := by decide +kernel
theorem dX5_get_24 : decode cX5_get 24 = .ok (.aload_n 0, 1) := by decide +kernel
theorem dX5_get_25 : decode cX5_get 25 = .ok (.getfield 19, 3) := by decide +kernel
theorem dX5_get_28 : decode cX5_get 28 = .ok (.aload_n 0, 1) := by decide +kernel
theorem dX5_get_29 : decode cX5_get 29 = .ok (.getfield 63, 3) := by decide +kernel
theorem dX5_get_32 : decode cX5_get 32 = .ok (.iaload, 1) := by decide +kernel
theorem dX5_get_33 : decode cX5_get 33 = .ok (.sipush 255, 3) := by decide +kernel
theorem dX5_get_36 : decode cX5_get 36 = .ok (.iand, 1) := by decide +kernel
theorem dX5_get_37 : decode cX5_get 37 = .ok (.goto 12, 3) := by decide +kernel
theorem dX5_get_40 : decode cX5_get 40 = .ok (.aload_n 0, 1) := by decide +kernel
theorem dX5_get_41 : decode cX5_get 41 = .ok (.getfield 19, 3) := by decide +kernel
theorem dX5_get_44 : decode cX5_get 44 = .ok (.aload_n 0, 1) := by decide +kernel
theorem dX5_get_45 : decode cX5_get 45 = .ok (.getfield 63, 3) := by decide +kernel
theorem dX5_get_48 : decode cX5_get 48 = .ok (.iaload, 1) := by decide +kernel
theorem dX5_get_49 : decode cX5_get 49 = .ok (.ireturn, 1) := by decide +kernel
theorem dX5_get_50 : decode cX5_get 50 = .ok (.aload_n 0, 1) := by decide +kernel
