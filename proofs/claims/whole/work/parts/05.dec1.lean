theorem nd_S_init_0 : decode nc_S_init 0 = .ok (.aload_n 0, 1) := by decide +kernel
theorem nd_S_init_1 : decode nc_S_init 1 = .ok (.invokespecial 3, 3) := by decide +kernel
theorem nd_S_init_4 : decode nc_S_init 4 = .ok (.aload_n 0, 1) := by decide +kernel
theorem nd_S_init_5 : decode nc_S_init 5 = .ok (.new 9, 3) := by decide +kernel
theorem nd_S_init_8 : decode nc_S_init 8 = .ok (.dup, 1) := by decide +kernel
theorem nd_S_init_9 : decode nc_S_init 9 = .ok (.invokespecial 11, 3) := by decide +kernel
theorem nd_S_init_12 : decode nc_S_init 12 = .ok (.putfield 12, 3) := by decide +kernel
theorem nd_S_init_15 : decode nc_S_init 15 = .ok (.aload_n 0, 1) := by decide +kernel
theorem nd_S_init_16 : decode nc_S_init 16 = .ok (.new 16, 3) := by decide +kernel
theorem nd_S_init_19 : decode nc_S_init 19 = .ok (.dup, 1) := by decide +kernel
theorem nd_S_init_20 : decode nc_S_init 20 = .ok (.invokespecial 18, 3) := by decide +kernel
theorem nd_S_init_23 : decode nc_S_init 23 = .ok (.putfield 19, 3) := by decide +kernel
theorem nd_S_init_26 : decode nc_S_init 26 = .ok (.aload_n 0, 1) := by decide +kernel
theorem nd_S_init_27 : decode nc_S_init 27 = .ok (.new 23, 3) := by decide +kernel
theorem nd_S_init_30 : decode nc_S_init 30 = .ok (.dup, 1) := by decide +kernel
theorem nd_S_init_31 : decode nc_S_init 31 = .ok (.invokespecial 25, 3) := by decide +kernel
theorem nd_S_init_34 : decode nc_S_init 34 = .ok (.putfield 26, 3) := by decide +kernel
theorem nd_S_init_37 : decode nc_S_init 37 = .ok (.aload_n 0, 1) := by decide +kernel
theorem nd_S_init_38 : decode nc_S_init 38 = .ok (.new 30, 3) := by decide +kernel
theorem nd_S_init_41 : decode nc_S_init 41 = .ok (.dup, 1) := by decide +kernel
theorem nd_S_init_42 : decode nc_S_init 42 = .ok (.invokespecial 32, 3) := by decide +kernel
theorem nd_S_init_45 : decode nc_S_init 45 = .ok (.putfield 33, 3) := by decide +kernel
theorem nd_S_init_48 : decode nc_S_init 48 = .ok (.aload_n 0, 1) := by decide +kernel
theorem nd_S_init_49 : decode nc_S_init 49 = .ok (.iconst 4, 1) := by decide +kernel
theorem nd_S_init_50 : decode nc_S_init 50 = .ok (.putfield 37, 3) := by decide +kernel
theorem nd_S_init_53 : decode nc_S_init 53 = .ok (.return_, 1) := by decide +kernel
theorem nd_S_reset_0 : decode nc_S_reset 0 = .ok (.aload_n 0, 1) := by decide +kernel
theorem nd_S_reset_1 : decode nc_S_reset 1 = .ok (.getfield 19, 3) := by decide +kernel
theorem nd_S_reset_4 : decode nc_S_reset 4 = .ok (.invokevirtual 41, 3) := by decide +kernel
theorem nd_S_reset_7 : decode nc_S_reset 7 = .ok (.aload_n 0, 1) := by decide +kernel
theorem nd_S_reset_8 : decode nc_S_reset 8 = .ok (.getfield 26, 3) := by decide +kernel
theorem nd_S_reset_11 : decode nc_S_reset 11 = .ok (.invokevirtual 44, 3) := by decide +kernel
theorem nd_S_reset_14 : decode nc_S_reset 14 = .ok (.aload_n 0, 1) := by decide +kernel
theorem nd_S_reset_15 : decode nc_S_reset 15 = .ok (.iconst 0, 1) := by decide +kernel
theorem nd_S_reset_16 : decode nc_S_reset 16 = .ok (.invokevirtual 45, 3) := by decide +kernel
theorem nd_S_reset_19 : decode nc_S_reset 19 = .ok (.aload_n 0, 1) := by decide +kernel
theorem nd_S_reset_20 : decode nc_S_reset 20 = .ok (.iconst 0, 1) := by decide +kernel
theorem nd_S_reset_21 : decode nc_S_reset 21 = .ok (.putfield 49, 3) := by decide +kernel
theorem nd_S_reset_24 : decode nc_S_reset 24 = .ok (.aload_n 0, 1) := by decide +kernel
theorem nd_S_reset_25 : decode nc_S_reset 25 = .ok (.iconst 0, 1) := by decide +kernel
theorem nd_S_reset_26 : decode nc_S_reset 26 = .ok (.putfield 52, 3) := by decide +kernel
theorem nd_S_reset_29 : decode nc_S_reset 29 = .ok (.return_, 1) := by decide +kernel
theorem nd_S_put_0 : decode nc_S_put 0 = .ok (.iload_n 1, 1) := by decide +kernel
theorem nd_S_put_1 : decode nc_S_put 1 = .ok (.invokestatic 55, 3) := by decide +kernel
theorem nd_S_put_4 : decode nc_S_put 4 = .ok (.ifCond .ne 11, 3) := by decide +kernel
theorem nd_S_put_7 : decode nc_S_put 7 = .ok (.new 59, 3) := by decide +kernel
theorem nd_S_put_10 : decode nc_S_put 10 = .ok (.dup, 1) := by decide +kernel
theorem nd_S_put_11 : decode nc_S_put 11 = .ok (.invokespecial 61, 3) := by decide +kernel
theorem nd_S_put_14 : decode nc_S_put 14 = .ok (.athrow, 1) := by decide +kernel
theorem nd_S_put_15 : decode nc_S_put 15 = .ok (.aload_n 0, 1) := by decide +kernel
theorem nd_S_put_16 : decode nc_S_put 16 = .ok (.getfield 12, 3) := by decide +kernel
theorem nd_S_put_19 : decode nc_S_put 19 = .ok (.iload_n 1, 1) := by decide +kernel
theorem nd_S_put_20 : decode nc_S_put 20 = .ok (.invokevirtual 62, 3) := by decide +kernel
theorem nd_S_put_23 : decode nc_S_put 23 = .ok (.istore_n 3, 1) := by decide +kernel
theorem nd_S_put_24 : decode nc_S_put 24 = .ok (.aload_n 0, 1) := by decide +kernel
theorem nd_S_put_25 : decode nc_S_put 25 = .ok (.getfield 12, 3) := by decide +kernel
theorem nd_S_put_28 : decode nc_S_put 28 = .ok (.iload_n 1, 1) := by decide +kernel
theorem nd_S_put_29 : decode nc_S_put 29 = .ok (.iload_n 2, 1) := by decide +kernel
theorem nd_S_put_30 : decode nc_S_put 30 = .ok (.invokevirtual 66, 3) := by decide +kernel
theorem nd_S_put_33 : decode nc_S_put 33 = .ok (.iload_n 3, 1) := by decide +kernel
theorem nd_S_put_34 : decode nc_S_put 34 = .ok (.ireturn, 1) := by decide +kernel
theorem nd_S_word_0 : decode nc_S_word 0 = .ok (.iload_n 1, 1) := by decide +kernel
theorem nd_S_word_1 : decode nc_S_word 1 = .ok (.invokestatic 55, 3) := by decide +kernel
theorem nd_S_word_4 : decode nc_S_word 4 = .ok (.ifCond .ne 11, 3) := by decide +kernel
theorem nd_S_word_7 : decode nc_S_word 7 = .ok (.new 59, 3) := by decide +kernel
theorem nd_S_word_10 : decode nc_S_word 10 = .ok (.dup, 1) := by decide +kernel
theorem nd_S_word_11 : decode nc_S_word 11 = .ok (.invokespecial 61, 3) := by decide +kernel
theorem nd_S_word_14 : decode nc_S_word 14 = .ok (.athrow, 1) := by decide +kernel
theorem nd_S_word_15 : decode nc_S_word 15 = .ok (.aload_n 0, 1) := by decide +kernel
theorem nd_S_word_16 : decode nc_S_word 16 = .ok (.getfield 12, 3) := by decide +kernel
theorem nd_S_word_19 : decode nc_S_word 19 = .ok (.iload_n 1, 1) := by decide +kernel
theorem nd_S_word_20 : decode nc_S_word 20 = .ok (.invokevirtual 62, 3) := by decide +kernel
theorem nd_S_word_23 : decode nc_S_word 23 = .ok (.ireturn, 1) := by decide +kernel
theorem nd_S_set_0 : decode nc_S_set 0 = .ok (.iload_n 1, 1) := by decide +kernel
theorem nd_S_set_1 : decode nc_S_set 1 = .ok (.ifCond .lt 9, 3) := by decide +kernel
theorem nd_S_set_4 : decode nc_S_set 4 = .ok (.iload_n 1, 1) := by decide +kernel
theorem nd_S_set_5 : decode nc_S_set 5 = .ok (.bipush 34, 2) := by decide +kernel
theorem nd_S_set_7 : decode nc_S_set 7 = .ok (.if_icmp .lt 11, 3) := by decide +kernel
theorem nd_S_set_10 : decode nc_S_set 10 = .ok (.new 59, 3) := by decide +kernel
theorem nd_S_set_13 : decode nc_S_set 13 = .ok (.dup, 1) := by decide +kernel
theorem nd_S_set_14 : decode nc_S_set 14 = .ok (.invokespecial 61, 3) := by decide +kernel
theorem nd_S_set_17 : decode nc_S_set 17 = .ok (.athrow, 1) := by decide +kernel
theorem nd_S_set_18 : decode nc_S_set 18 = .ok (.aload_n 0, 1) := by decide +kernel
theorem nd_S_set_19 : decode nc_S_set 19 = .ok (.getfield 19, 3) := by decide +kernel
theorem nd_S_set_22 : decode nc_S_set 22 = .ok (.iload_n 1, 1) := by decide +kernel
theorem nd_S_set_23 : decode nc_S_set 23 = .ok (.invokevirtual 70, 3) := by decide +kernel
theorem nd_S_set_26 : decode nc_S_set 26 = .ok (.istore_n 3, 1) := by decide +kernel
theorem nd_S_set_27 : decode nc_S_set 27 = .ok (.aload_n 0, 1) := by decide +kernel
theorem nd_S_set_28 : decode nc_S_set 28 = .ok (.getfield 19, 3) := by decide +kernel
theorem nd_S_set_31 : decode nc_S_set 31 = .ok (.iload_n 1, 1) := by decide +kernel
theorem nd_S_set_32 : decode nc_S_set 32 = .ok (.iload_n 2, 1) := by decide +kernel
theorem nd_S_set_33 : decode nc_S_set 33 = .ok (.invokevirtual 73, 3) := by decide +kernel
theorem nd_S_set_36 : decode nc_S_set 36 = .ok (.iload_n 3, 1) := by decide +kernel
theorem nd_S_set_37 : decode nc_S_set 37 = .ok (.ireturn, 1) := by decide +kernel
theorem nd_S_register_0 : decode nc_S_register 0 = .ok (.iload_n 1, 1) := by decide +kernel
theorem nd_S_register_1 : decode nc_S_register 1 = .ok (.ifCond .lt 9, 3) := by decide +kernel
theorem nd_S_register_4 : decode nc_S_register 4 = .ok (.iload_n 1, 1) := by decide +kernel
theorem nd_S_register_5 : decode nc_S_register 5 = .ok (.bipush 34, 2) := by decide +kernel
theorem nd_S_register_7 : decode nc_S_register 7 = .ok (.if_icmp .lt 11, 3) := by decide +kernel
theorem nd_S_register_10 : decode nc_S_register 10 = .ok (.new 59, 3) := by decide +kernel
theorem nd_S_register_13 : decode nc_S_register 13 = .ok (.dup, 1) := by decide +kernel
theorem nd_S_register_14 : decode nc_S_register 14 = .ok (.invokespecial 61, 3) := by decide +kernel
theorem nd_S_register_17 : decode nc_S_register 17 = .ok (.athrow, 1) := by decide +kernel
theorem nd_S_register_18 : decode nc_S_register 18 = .ok (.aload_n 0, 1) := by decide +kernel
theorem nd_S_register_19 : decode nc_S_register 19 = .ok (.getfield 19, 3) := by decide +kernel
theorem nd_S_register_22 : decode nc_S_register 22 = .ok (.iload_n 1, 1) := by decide +kernel
theorem nd_S_register_23 : decode nc_S_register 23 = .ok (.invokevirtual 70, 3) := by decide +kernel
theorem nd_S_register_26 : decode nc_S_register 26 = .ok (.ireturn, 1) := by decide +kernel
theorem nd_S_go_0 : decode nc_S_go 0 = .ok (.aload_n 0, 1) := by decide +kernel
theorem nd_S_go_1 : decode nc_S_go 1 = .ok (.getfield 76, 3) := by decide +kernel
theorem nd_S_go_4 : decode nc_S_go 4 = .ok (.istore_n 2, 1) := by decide +kernel
theorem nd_S_go_5 : decode nc_S_go 5 = .ok (.aload_n 0, 1) := by decide +kernel
theorem nd_S_go_6 : decode nc_S_go 6 = .ok (.getfield 19, 3) := by decide +kernel
theorem nd_S_go_9 : decode nc_S_go 9 = .ok (.invokevirtual 79, 3) := by decide +kernel
theorem nd_S_go_12 : decode nc_S_go 12 = .ok (.aload_n 0, 1) := by decide +kernel
theorem nd_S_go_13 : decode nc_S_go 13 = .ok (.iload_n 1, 1) := by decide +kernel
theorem nd_S_go_14 : decode nc_S_go 14 = .ok (.invokevirtual 45, 3) := by decide +kernel
theorem nd_S_go_17 : decode nc_S_go 17 = .ok (.iload_n 2, 1) := by decide +kernel
theorem nd_S_go_18 : decode nc_S_go 18 = .ok (.ireturn, 1) := by decide +kernel
theorem nd_S_status_0 : decode nc_S_status 0 = .ok (.aload_n 0, 1) := by decide +kernel
theorem nd_S_status_1 : decode nc_S_status 1 = .ok (.getfield 26, 3) := by decide +kernel
theorem nd_S_status_4 : decode nc_S_status 4 = .ok (.getfield 82, 3) := by decide +kernel
theorem nd_S_status_7 : decode nc_S_status 7 = .ok (.istore_n 2, 1) := by decide +kernel
theorem nd_S_status_8 : decode nc_S_status 8 = .ok (.aload_n 0, 1) := by decide +kernel
theorem nd_S_status_9 : decode nc_S_status 9 = .ok (.getfield 26, 3) := by decide +kernel
theorem nd_S_status_12 : decode nc_S_status 12 = .ok (.bipush 12, 2) := by decide +kernel
theorem nd_S_status_14 : decode nc_S_status 14 = .ok (.iload_n 1, 1) := by decide +kernel
theorem nd_S_status_15 : decode nc_S_status 15 = .ok (.invokevirtual 85, 3) := by decide +kernel
theorem nd_S_status_18 : decode nc_S_status 18 = .ok (.iload_n 2, 1) := by decide +kernel
theorem nd_S_status_19 : decode nc_S_status 19 = .ok (.ireturn, 1) := by decide +kernel
theorem nd_S_lines_0 : decode nc_S_lines 0 = .ok (.iload_n 1, 1) := by decide +kernel
theorem nd_S_lines_1 : decode nc_S_lines 1 = .ok (.ifCond .lt 9, 3) := by decide +kernel
theorem nd_S_lines_4 : decode nc_S_lines 4 = .ok (.iload_n 1, 1) := by decide +kernel
theorem nd_S_lines_5 : decode nc_S_lines 5 = .ok (.bipush 63, 2) := by decide +kernel
theorem nd_S_lines_7 : decode nc_S_lines 7 = .ok (.if_icmp .le 11, 3) := by decide +kernel
theorem nd_S_lines_10 : decode nc_S_lines 10 = .ok (.new 86, 3) := by decide +kernel
theorem nd_S_lines_13 : decode nc_S_lines 13 = .ok (.dup, 1) := by decide +kernel
theorem nd_S_lines_14 : decode nc_S_lines 14 = .ok (.invokespecial 88, 3) := by decide +kernel
theorem nd_S_lines_17 : decode nc_S_lines 17 = .ok (.athrow, 1) := by decide +kernel
theorem nd_S_lines_18 : decode nc_S_lines 18 = .ok (.aload_n 0, 1) := by decide +kernel
theorem nd_S_lines_19 : decode nc_S_lines 19 = .ok (.getfield 26, 3) := by decide +kernel
theorem nd_S_lines_22 : decode nc_S_lines 22 = .ok (.getfield 89, 3) := by decide +kernel
theorem nd_S_lines_25 : decode nc_S_lines 25 = .ok (.istore_n 2, 1) := by decide +kernel
theorem nd_S_lines_26 : decode nc_S_lines 26 = .ok (.aload_n 0, 1) := by decide +kernel
theorem nd_S_lines_27 : decode nc_S_lines 27 = .ok (.getfield 26, 3) := by decide +kernel
theorem nd_S_lines_30 : decode nc_S_lines 30 = .ok (.iload_n 1, 1) := by decide +kernel
theorem nd_S_lines_31 : decode nc_S_lines 31 = .ok (.putfield 89, 3) := by decide +kernel
theorem nd_S_lines_34 : decode nc_S_lines 34 = .ok (.iload_n 2, 1) := by decide +kernel
theorem nd_S_lines_35 : decode nc_S_lines 35 = .ok (.ireturn, 1) := by decide +kernel
theorem nd_S_step_0 : decode nc_S_step 0 = .ok (.aload_n 0, 1) := by decide +kernel
theorem nd_S_step_1 : decode nc_S_step 1 = .ok (.invokevirtual 92, 3) := by decide +kernel
theorem nd_S_step_4 : decode nc_S_step 4 = .ok (.ireturn, 1) := by decide +kernel
theorem nd_S_run_0 : decode nc_S_run 0 = .ok (.iload_n 1, 1) := by decide +kernel
theorem nd_S_run_1 : decode nc_S_run 1 = .ok (.ifCond .lt 10, 3) := by decide +kernel
theorem nd_S_run_4 : decode nc_S_run 4 = .ok (.iload_n 1, 1) := by decide +kernel
theorem nd_S_run_5 : decode nc_S_run 5 = .ok (.sipush 5000, 3) := by decide +kernel
theorem nd_S_run_8 : decode nc_S_run 8 = .ok (.if_icmp .le 11, 3) := by decide +kernel
theorem nd_S_run_11 : decode nc_S_run 11 = .ok (.new 86, 3) := by decide +kernel
theorem nd_S_run_14 : decode nc_S_run 14 = .ok (.dup, 1) := by decide +kernel
theorem nd_S_run_15 : decode nc_S_run 15 = .ok (.invokespecial 88, 3) := by decide +kernel
theorem nd_S_run_18 : decode nc_S_run 18 = .ok (.athrow, 1) := by decide +kernel
theorem nd_S_run_19 : decode nc_S_run 19 = .ok (.aload_n 0, 1) := by decide +kernel
theorem nd_S_run_20 : decode nc_S_run 20 = .ok (.getfield 52, 3) := by decide +kernel
theorem nd_S_run_23 : decode nc_S_run 23 = .ok (.istore_n 2, 1) := by decide +kernel
theorem nd_S_run_24 : decode nc_S_run 24 = .ok (.iconst 0, 1) := by decide +kernel
theorem nd_S_run_25 : decode nc_S_run 25 = .ok (.istore_n 3, 1) := by decide +kernel
theorem nd_S_run_26 : decode nc_S_run 26 = .ok (.iload_n 3, 1) := by decide +kernel
theorem nd_S_run_27 : decode nc_S_run 27 = .ok (.iload_n 1, 1) := by decide +kernel
theorem nd_S_run_28 : decode nc_S_run 28 = .ok (.if_icmp .ge 14, 3) := by decide +kernel
theorem nd_S_run_31 : decode nc_S_run 31 = .ok (.aload_n 0, 1) := by decide +kernel
theorem nd_S_run_32 : decode nc_S_run 32 = .ok (.invokevirtual 92, 3) := by decide +kernel
theorem nd_S_run_35 : decode nc_S_run 35 = .ok (.pop, 1) := by decide +kernel
theorem nd_S_run_36 : decode nc_S_run 36 = .ok (.iinc 3 1, 3) := by decide +kernel
theorem nd_S_run_39 : decode nc_S_run 39 = .ok (.goto (-13), 3) := by decide +kernel
theorem nd_S_run_42 : decode nc_S_run 42 = .ok (.aload_n 0, 1) := by decide +kernel
theorem nd_S_run_43 : decode nc_S_run 43 = .ok (.getfield 52, 3) := by decide +kernel
theorem nd_S_run_46 : decode nc_S_run 46 = .ok (.iload_n 2, 1) := by decide +kernel
theorem nd_S_run_47 : decode nc_S_run 47 = .ok (.isub, 1) := by decide +kernel
theorem nd_S_run_48 : decode nc_S_run 48 = .ok (.ireturn, 1) := by decide +kernel
theorem nd_S_look_0 : decode nc_S_look 0 = .ok (.iload_n 1, 1) := by decide +kernel
theorem nd_S_look_1 : decode nc_S_look 1 = .ok (.tableswitch 140 0 10 #[59, 64, 69, 77, 85, 93, 101, 114, 122, 130, 135], 59) := by decide +kernel
theorem nd_S_look_60 : decode nc_S_look 60 = .ok (.aload_n 0, 1) := by decide +kernel
theorem nd_S_look_61 : decode nc_S_look 61 = .ok (.getfield 76, 3) := by decide +kernel
theorem nd_S_look_64 : decode nc_S_look 64 = .ok (.ireturn, 1) := by decide +kernel
theorem nd_S_look_65 : decode nc_S_look 65 = .ok (.aload_n 0, 1) := by decide +kernel
theorem nd_S_look_66 : decode nc_S_look 66 = .ok (.getfield 37, 3) := by decide +kernel
theorem nd_S_look_69 : decode nc_S_look 69 = .ok (.ireturn, 1) := by decide +kernel
theorem nd_S_look_70 : decode nc_S_look 70 = .ok (.aload_n 0, 1) := by decide +kernel
theorem nd_S_look_71 : decode nc_S_look 71 = .ok (.getfield 26, 3) := by decide +kernel
theorem nd_S_look_74 : decode nc_S_look 74 = .ok (.getfield 82, 3) := by decide +kernel
theorem nd_S_look_77 : decode nc_S_look 77 = .ok (.ireturn, 1) := by decide +kernel
theorem nd_S_look_78 : decode nc_S_look 78 = .ok (.aload_n 0, 1) := by decide +kernel
theorem nd_S_look_79 : decode nc_S_look 79 = .ok (.getfield 26, 3) := by decide +kernel
theorem nd_S_look_82 : decode nc_S_look 82 = .ok (.invokevirtual 96, 3) := by decide +kernel
theorem nd_S_look_85 : decode nc_S_look 85 = .ok (.ireturn, 1) := by decide +kernel
theorem nd_S_look_86 : decode nc_S_look 86 = .ok (.aload_n 0, 1) := by decide +kernel
theorem nd_S_look_87 : decode nc_S_look 87 = .ok (.getfield 26, 3) := by decide +kernel
theorem nd_S_look_90 : decode nc_S_look 90 = .ok (.getfield 99, 3) := by decide +kernel
theorem nd_S_look_93 : decode nc_S_look 93 = .ok (.ireturn, 1) := by decide +kernel
theorem nd_S_look_94 : decode nc_S_look 94 = .ok (.aload_n 0, 1) := by decide +kernel
theorem nd_S_look_95 : decode nc_S_look 95 = .ok (.getfield 26, 3) := by decide +kernel
theorem nd_S_look_98 : decode nc_S_look 98 = .ok (.getfield 102, 3) := by decide +kernel
theorem nd_S_look_101 : decode nc_S_look 101 = .ok (.ireturn, 1) := by decide +kernel
theorem nd_S_look_102 : decode nc_S_look 102 = .ok (.aload_n 0, 1) := by decide +kernel
theorem nd_S_look_103 : decode nc_S_look 103 = .ok (.getfield 105, 3) := by decide +kernel
theorem nd_S_look_106 : decode nc_S_look 106 = .ok (.ifCond .eq 7, 3) := by decide +kernel
theorem nd_S_look_109 : decode nc_S_look 109 = .ok (.iconst 1, 1) := by decide +kernel
theorem nd_S_look_110 : decode nc_S_look 110 = .ok (.goto 4, 3) := by decide +kernel
theorem nd_S_look_113 : decode nc_S_look 113 = .ok (.iconst 0, 1) := by decide +kernel
theorem nd_S_look_114 : decode nc_S_look 114 = .ok (.ireturn, 1) := by decide +kernel
theorem nd_S_look_115 : decode nc_S_look 115 = .ok (.aload_n 0, 1) := by decide +kernel
theorem nd_S_look_116 : decode nc_S_look 116 = .ok (.getfield 19, 3) := by decide +kernel
theorem nd_S_look_119 : decode nc_S_look 119 = .ok (.getfield 109, 3) := by decide +kernel
theorem nd_S_look_122 : decode nc_S_look 122 = .ok (.ireturn, 1) := by decide +kernel
theorem nd_S_look_123 : decode nc_S_look 123 = .ok (.aload_n 0, 1) := by decide +kernel
theorem nd_S_look_124 : decode nc_S_look 124 = .ok (.getfield 19, 3) := by decide +kernel
theorem nd_S_look_127 : decode nc_S_look 127 = .ok (.getfield 112, 3) := by decide +kernel
theorem nd_S_look_130 : decode nc_S_look 130 = .ok (.ireturn, 1) := by decide +kernel
theorem nd_S_look_131 : decode nc_S_look 131 = .ok (.aload_n 0, 1) := by decide +kernel
theorem nd_S_look_132 : decode nc_S_look 132 = .ok (.getfield 49, 3) := by decide +kernel
theorem nd_S_look_135 : decode nc_S_look 135 = .ok (.ireturn, 1) := by decide +kernel
theorem nd_S_look_136 : decode nc_S_look 136 = .ok (.aload_n 0, 1) := by decide +kernel
theorem nd_S_look_137 : decode nc_S_look 137 = .ok (.getfield 52, 3) := by decide +kernel
theorem nd_S_look_140 : decode nc_S_look 140 = .ok (.ireturn, 1) := by decide +kernel
theorem nd_S_look_141 : decode nc_S_look 141 = .ok (.new 59, 3) := by decide +kernel
theorem nd_S_look_144 : decode nc_S_look 144 = .ok (.dup, 1) := by decide +kernel
theorem nd_S_look_145 : decode nc_S_look 145 = .ok (.invokespecial 61, 3) := by decide +kernel
theorem nd_S_look_148 : decode nc_S_look 148 = .ok (.athrow, 1) := by decide +kernel
theorem nd_S_isPlaceOfWord_0 : decode nc_S_isPlaceOfWord 0 = .ok (.iload_n 0, 1) := by decide +kernel
theorem nd_S_isPlaceOfWord_1 : decode nc_S_isPlaceOfWord 1 = .ok (.iconst 3, 1) := by decide +kernel
theorem nd_S_isPlaceOfWord_2 : decode nc_S_isPlaceOfWord 2 = .ok (.iand, 1) := by decide +kernel
theorem nd_S_isPlaceOfWord_3 : decode nc_S_isPlaceOfWord 3 = .ok (.ifCond .ne 14, 3) := by decide +kernel
theorem nd_S_isPlaceOfWord_6 : decode nc_S_isPlaceOfWord 6 = .ok (.iload_n 0, 1) := by decide +kernel
theorem nd_S_isPlaceOfWord_7 : decode nc_S_isPlaceOfWord 7 = .ok (.invokestatic 115, 3) := by decide +kernel
theorem nd_S_isPlaceOfWord_10 : decode nc_S_isPlaceOfWord 10 = .ok (.ifCond .eq 7, 3) := by decide +kernel
theorem nd_S_isPlaceOfWord_13 : decode nc_S_isPlaceOfWord 13 = .ok (.iconst 1, 1) := by decide +kernel
theorem nd_S_isPlaceOfWord_14 : decode nc_S_isPlaceOfWord 14 = .ok (.goto 4, 3) := by decide +kernel
theorem nd_S_isPlaceOfWord_17 : decode nc_S_isPlaceOfWord 17 = .ok (.iconst 0, 1) := by decide +kernel
theorem nd_S_isPlaceOfWord_18 : decode nc_S_isPlaceOfWord 18 = .ok (.ireturn, 1) := by decide +kernel
theorem nd_S_isInMemory_0 : decode nc_S_isInMemory 0 = .ok (.iload_n 0, 1) := by decide +kernel
theorem nd_S_isInMemory_1 : decode nc_S_isInMemory 1 = .ok (.ifCond .lt 14, 3) := by decide +kernel
theorem nd_S_isInMemory_4 : decode nc_S_isInMemory 4 = .ok (.iload_n 0, 1) := by decide +kernel
theorem nd_S_isInMemory_5 : decode nc_S_isInMemory 5 = .ok (.sipush 4096, 3) := by decide +kernel
theorem nd_S_isInMemory_8 : decode nc_S_isInMemory 8 = .ok (.if_icmp .ge 7, 3) := by decide +kernel
theorem nd_S_isInMemory_11 : decode nc_S_isInMemory 11 = .ok (.iconst 1, 1) := by decide +kernel
theorem nd_S_isInMemory_12 : decode nc_S_isInMemory 12 = .ok (.goto 4, 3) := by decide +kernel
theorem nd_S_isInMemory_15 : decode nc_S_isInMemory 15 = .ok (.iconst 0, 1) := by decide +kernel
theorem nd_S_isInMemory_16 : decode nc_S_isInMemory 16 = .ok (.ireturn, 1) := by decide +kernel
theorem nd_S_continueAt_0 : decode nc_S_continueAt 0 = .ok (.aload_n 0, 1) := by decide +kernel
theorem nd_S_continueAt_1 : decode nc_S_continueAt 1 = .ok (.iload_n 1, 1) := by decide +kernel
theorem nd_S_continueAt_2 : decode nc_S_continueAt 2 = .ok (.putfield 76, 3) := by decide +kernel
theorem nd_S_continueAt_5 : decode nc_S_continueAt 5 = .ok (.aload_n 0, 1) := by decide +kernel
theorem nd_S_continueAt_6 : decode nc_S_continueAt 6 = .ok (.iload_n 1, 1) := by decide +kernel
theorem nd_S_continueAt_7 : decode nc_S_continueAt 7 = .ok (.iconst 4, 1) := by decide +kernel
theorem nd_S_continueAt_8 : decode nc_S_continueAt 8 = .ok (.iadd, 1) := by decide +kernel
theorem nd_S_continueAt_9 : decode nc_S_continueAt 9 = .ok (.putfield 37, 3) := by decide +kernel
theorem nd_S_continueAt_12 : decode nc_S_continueAt 12 = .ok (.aload_n 0, 1) := by decide +kernel
theorem nd_S_continueAt_13 : decode nc_S_continueAt 13 = .ok (.iconst 0, 1) := by decide +kernel
theorem nd_S_continueAt_14 : decode nc_S_continueAt 14 = .ok (.putfield 105, 3) := by decide +kernel
theorem nd_S_continueAt_17 : decode nc_S_continueAt 17 = .ok (.return_, 1) := by decide +kernel
theorem nd_S_takeStep_0 : decode nc_S_takeStep 0 = .ok (.aload_n 0, 1) := by decide +kernel
theorem nd_S_takeStep_1 : decode nc_S_takeStep 1 = .ok (.dup, 1) := by decide +kernel
theorem nd_S_takeStep_2 : decode nc_S_takeStep 2 = .ok (.getfield 49, 3) := by decide +kernel
theorem nd_S_takeStep_5 : decode nc_S_takeStep 5 = .ok (.iconst 1, 1) := by decide +kernel
theorem nd_S_takeStep_6 : decode nc_S_takeStep 6 = .ok (.iadd, 1) := by decide +kernel
theorem nd_S_takeStep_7 : decode nc_S_takeStep 7 = .ok (.putfield 49, 3) := by decide +kernel
theorem nd_S_takeStep_10 : decode nc_S_takeStep 10 = .ok (.aload_n 0, 1) := by decide +kernel
theorem nd_S_takeStep_11 : decode nc_S_takeStep 11 = .ok (.getfield 26, 3) := by decide +kernel
theorem nd_S_takeStep_14 : decode nc_S_takeStep 14 = .ok (.invokevirtual 118, 3) := by decide +kernel
theorem nd_S_takeStep_17 : decode nc_S_takeStep 17 = .ok (.ifCond .eq 10, 3) := by decide +kernel
theorem nd_S_takeStep_20 : decode nc_S_takeStep 20 = .ok (.aload_n 0, 1) := by decide +kernel
theorem nd_S_takeStep_21 : decode nc_S_takeStep 21 = .ok (.iconst 0, 1) := by decide +kernel
theorem nd_S_takeStep_22 : decode nc_S_takeStep 22 = .ok (.invokevirtual 122, 3) := by decide +kernel
theorem nd_S_takeStep_25 : decode nc_S_takeStep 25 = .ok (.iconst 2, 1) := by decide +kernel
theorem nd_S_takeStep_26 : decode nc_S_takeStep 26 = .ok (.ireturn, 1) := by decide +kernel
theorem nd_S_takeStep_27 : decode nc_S_takeStep 27 = .ok (.aload_n 0, 1) := by decide +kernel
theorem nd_S_takeStep_28 : decode nc_S_takeStep 28 = .ok (.invokevirtual 125, 3) := by decide +kernel
theorem nd_S_takeStep_31 : decode nc_S_takeStep 31 = .ok (.istore_n 1, 1) := by decide +kernel
theorem nd_S_takeStep_32 : decode nc_S_takeStep 32 = .ok (.iload_n 1, 1) := by decide +kernel
theorem nd_S_takeStep_33 : decode nc_S_takeStep 33 = .ok (.iconst (-1), 1) := by decide +kernel
theorem nd_S_takeStep_34 : decode nc_S_takeStep 34 = .ok (.if_icmp .ne 22, 3) := by decide +kernel
theorem nd_S_takeStep_37 : decode nc_S_takeStep 37 = .ok (.aload_n 0, 1) := by decide +kernel
theorem nd_S_takeStep_38 : decode nc_S_takeStep 38 = .ok (.aload_n 0, 1) := by decide +kernel
theorem nd_S_takeStep_39 : decode nc_S_takeStep 39 = .ok (.getfield 12, 3) := by decide +kernel
theorem nd_S_takeStep_42 : decode nc_S_takeStep 42 = .ok (.aload_n 0, 1) := by decide +kernel
theorem nd_S_takeStep_43 : decode nc_S_takeStep 43 = .ok (.getfield 76, 3) := by decide +kernel
theorem nd_S_takeStep_46 : decode nc_S_takeStep 46 = .ok (.ldc 128, 2) := by decide +kernel
theorem nd_S_takeStep_48 : decode nc_S_takeStep 48 = .ok (.iand, 1) := by decide +kernel
theorem nd_S_takeStep_49 : decode nc_S_takeStep 49 = .ok (.invokevirtual 62, 3) := by decide +kernel
theorem nd_S_takeStep_52 : decode nc_S_takeStep 52 = .ok (.invokevirtual 129, 3) := by decide +kernel
theorem nd_S_takeStep_55 : decode nc_S_takeStep 55 = .ok (.istore_n 1, 1) := by decide +kernel
theorem nd_S_takeStep_56 : decode nc_S_takeStep 56 = .ok (.iload_n 1, 1) := by decide +kernel
theorem nd_S_takeStep_57 : decode nc_S_takeStep 57 = .ok (.iconst (-1), 1) := by decide +kernel
theorem nd_S_takeStep_58 : decode nc_S_takeStep 58 = .ok (.if_icmp .eq 10, 3) := by decide +kernel
theorem nd_S_takeStep_61 : decode nc_S_takeStep 61 = .ok (.aload_n 0, 1) := by decide +kernel
theorem nd_S_takeStep_62 : decode nc_S_takeStep 62 = .ok (.iload_n 1, 1) := by decide +kernel
theorem nd_S_takeStep_63 : decode nc_S_takeStep 63 = .ok (.invokevirtual 122, 3) := by decide +kernel
theorem nd_S_takeStep_66 : decode nc_S_takeStep 66 = .ok (.iconst 1, 1) := by decide +kernel
theorem nd_S_takeStep_67 : decode nc_S_takeStep 67 = .ok (.ireturn, 1) := by decide +kernel
theorem nd_S_takeStep_68 : decode nc_S_takeStep 68 = .ok (.aload_n 0, 1) := by decide +kernel
theorem nd_S_takeStep_69 : decode nc_S_takeStep 69 = .ok (.invokevirtual 132, 3) := by decide +kernel
theorem nd_S_takeStep_72 : decode nc_S_takeStep 72 = .ok (.iconst 0, 1) := by decide +kernel
theorem nd_S_takeStep_73 : decode nc_S_takeStep 73 = .ok (.ireturn, 1) := by decide +kernel
theorem nd_S_enterException_0 : decode nc_S_enterException 0 = .ok (.aload_n 0, 1) := by decide +kernel
theorem nd_S_enterException_1 : decode nc_S_enterException 1 = .ok (.dup, 1) := by decide +kernel
theorem nd_S_enterException_2 : decode nc_S_enterException 2 = .ok (.getfield 52, 3) := by decide +kernel
theorem nd_S_enterException_5 : decode nc_S_enterException 5 = .ok (.iconst 1, 1) := by decide +kernel
theorem nd_S_enterException_6 : decode nc_S_enterException 6 = .ok (.iadd, 1) := by decide +kernel
theorem nd_S_enterException_7 : decode nc_S_enterException 7 = .ok (.putfield 52, 3) := by decide +kernel
theorem nd_S_enterException_10 : decode nc_S_enterException 10 = .ok (.aload_n 0, 1) := by decide +kernel
theorem nd_S_enterException_11 : decode nc_S_enterException 11 = .ok (.getfield 19, 3) := by decide +kernel
theorem nd_S_enterException_14 : decode nc_S_enterException 14 = .ok (.invokevirtual 135, 3) := by decide +kernel
theorem nd_S_enterException_17 : decode nc_S_enterException 17 = .ok (.aload_n 0, 1) := by decide +kernel
theorem nd_S_enterException_18 : decode nc_S_enterException 18 = .ok (.getfield 26, 3) := by decide +kernel
theorem nd_S_enterException_21 : decode nc_S_enterException 21 = .ok (.iload_n 1, 1) := by decide +kernel
theorem nd_S_enterException_22 : decode nc_S_enterException 22 = .ok (.aload_n 0, 1) := by decide +kernel
theorem nd_S_enterException_23 : decode nc_S_enterException 23 = .ok (.getfield 105, 3) := by decide +kernel
theorem nd_S_enterException_26 : decode nc_S_enterException 26 = .ok (.ifCond .eq 12, 3) := by decide +kernel
theorem nd_S_enterException_29 : decode nc_S_enterException 29 = .ok (.aload_n 0, 1) := by decide +kernel
theorem nd_S_enterException_30 : decode nc_S_enterException 30 = .ok (.getfield 76, 3) := by decide +kernel
theorem nd_S_enterException_33 : decode nc_S_enterException 33 = .ok (.iconst 4, 1) := by decide +kernel
theorem nd_S_enterException_34 : decode nc_S_enterException 34 = .ok (.isub, 1) := by decide +kernel
theorem nd_S_enterException_35 : decode nc_S_enterException 35 = .ok (.goto 7, 3) := by decide +kernel
theorem nd_S_enterException_38 : decode nc_S_enterException 38 = .ok (.aload_n 0, 1) := by decide +kernel
theorem nd_S_enterException_39 : decode nc_S_enterException 39 = .ok (.getfield 76, 3) := by decide +kernel
theorem nd_S_enterException_42 : decode nc_S_enterException 42 = .ok (.aload_n 0, 1) := by decide +kernel
theorem nd_S_enterException_43 : decode nc_S_enterException 43 = .ok (.getfield 105, 3) := by decide +kernel
theorem nd_S_enterException_46 : decode nc_S_enterException 46 = .ok (.invokevirtual 138, 3) := by decide +kernel
theorem nd_S_enterException_49 : decode nc_S_enterException 49 = .ok (.aload_n 0, 1) := by decide +kernel
theorem nd_S_enterException_50 : decode nc_S_enterException 50 = .ok (.ldc 142, 2) := by decide +kernel
theorem nd_S_enterException_52 : decode nc_S_enterException 52 = .ok (.invokevirtual 45, 3) := by decide +kernel
theorem nd_S_enterException_55 : decode nc_S_enterException 55 = .ok (.return_, 1) := by decide +kernel
theorem nd_S_finishInstruction_0 : decode nc_S_finishInstruction 0 = .ok (.aload_n 0, 1) := by decide +kernel
theorem nd_S_finishInstruction_1 : decode nc_S_finishInstruction 1 = .ok (.getfield 19, 3) := by decide +kernel
theorem nd_S_finishInstruction_4 : decode nc_S_finishInstruction 4 = .ok (.invokevirtual 135, 3) := by decide +kernel
theorem nd_S_finishInstruction_7 : decode nc_S_finishInstruction 7 = .ok (.aload_n 0, 1) := by decide +kernel
theorem nd_S_finishInstruction_8 : decode nc_S_finishInstruction 8 = .ok (.getfield 33, 3) := by decide +kernel
theorem nd_S_finishInstruction_11 : decode nc_S_finishInstruction 11 = .ok (.getfield 143, 3) := by decide +kernel
theorem nd_S_finishInstruction_14 : decode nc_S_finishInstruction 14 = .ok (.ifCond .eq 27, 3) := by decide +kernel
theorem nd_S_finishInstruction_17 : decode nc_S_finishInstruction 17 = .ok (.aload_n 0, 1) := by decide +kernel
theorem nd_S_finishInstruction_18 : decode nc_S_finishInstruction 18 = .ok (.getfield 19, 3) := by decide +kernel
theorem nd_S_finishInstruction_21 : decode nc_S_finishInstruction 21 = .ok (.aload_n 0, 1) := by decide +kernel
theorem nd_S_finishInstruction_22 : decode nc_S_finishInstruction 22 = .ok (.getfield 33, 3) := by decide +kernel
theorem nd_S_finishInstruction_25 : decode nc_S_finishInstruction 25 = .ok (.getfield 146, 3) := by decide +kernel
theorem nd_S_finishInstruction_28 : decode nc_S_finishInstruction 28 = .ok (.aload_n 0, 1) := by decide +kernel
theorem nd_S_finishInstruction_29 : decode nc_S_finishInstruction 29 = .ok (.getfield 33, 3) := by decide +kernel
theorem nd_S_finishInstruction_32 : decode nc_S_finishInstruction 32 = .ok (.getfield 149, 3) := by decide +kernel
theorem nd_S_finishInstruction_35 : decode nc_S_finishInstruction 35 = .ok (.invokevirtual 152, 3) := by decide +kernel
theorem nd_S_finishInstruction_38 : decode nc_S_finishInstruction 38 = .ok (.goto 24, 3) := by decide +kernel
theorem nd_S_finishInstruction_41 : decode nc_S_finishInstruction 41 = .ok (.aload_n 0, 1) := by decide +kernel
theorem nd_S_finishInstruction_42 : decode nc_S_finishInstruction 42 = .ok (.getfield 19, 3) := by decide +kernel
theorem nd_S_finishInstruction_45 : decode nc_S_finishInstruction 45 = .ok (.aload_n 0, 1) := by decide +kernel
theorem nd_S_finishInstruction_46 : decode nc_S_finishInstruction 46 = .ok (.getfield 33, 3) := by decide +kernel
theorem nd_S_finishInstruction_49 : decode nc_S_finishInstruction 49 = .ok (.getfield 146, 3) := by decide +kernel
theorem nd_S_finishInstruction_52 : decode nc_S_finishInstruction 52 = .ok (.aload_n 0, 1) := by decide +kernel
theorem nd_S_finishInstruction_53 : decode nc_S_finishInstruction 53 = .ok (.getfield 33, 3) := by decide +kernel
theorem nd_S_finishInstruction_56 : decode nc_S_finishInstruction 56 = .ok (.getfield 149, 3) := by decide +kernel
theorem nd_S_finishInstruction_59 : decode nc_S_finishInstruction 59 = .ok (.invokevirtual 73, 3) := by decide +kernel
theorem nd_S_finishInstruction_62 : decode nc_S_finishInstruction 62 = .ok (.aload_n 0, 1) := by decide +kernel
theorem nd_S_finishInstruction_63 : decode nc_S_finishInstruction 63 = .ok (.aload_n 0, 1) := by decide +kernel
theorem nd_S_finishInstruction_64 : decode nc_S_finishInstruction 64 = .ok (.getfield 37, 3) := by decide +kernel
theorem nd_S_finishInstruction_67 : decode nc_S_finishInstruction 67 = .ok (.putfield 76, 3) := by decide +kernel
theorem nd_S_finishInstruction_70 : decode nc_S_finishInstruction 70 = .ok (.aload_n 0, 1) := by decide +kernel
theorem nd_S_finishInstruction_71 : decode nc_S_finishInstruction 71 = .ok (.aload_n 0, 1) := by decide +kernel
theorem nd_S_finishInstruction_72 : decode nc_S_finishInstruction 72 = .ok (.getfield 33, 3) := by decide +kernel
theorem nd_S_finishInstruction_75 : decode nc_S_finishInstruction 75 = .ok (.getfield 155, 3) := by decide +kernel
theorem nd_S_finishInstruction_78 : decode nc_S_finishInstruction 78 = .ok (.putfield 37, 3) := by decide +kernel
theorem nd_S_finishInstruction_81 : decode nc_S_finishInstruction 81 = .ok (.aload_n 0, 1) := by decide +kernel
theorem nd_S_finishInstruction_82 : decode nc_S_finishInstruction 82 = .ok (.aload_n 0, 1) := by decide +kernel
theorem nd_S_finishInstruction_83 : decode nc_S_finishInstruction 83 = .ok (.getfield 33, 3) := by decide +kernel
theorem nd_S_finishInstruction_86 : decode nc_S_finishInstruction 86 = .ok (.getfield 158, 3) := by decide +kernel
theorem nd_S_finishInstruction_89 : decode nc_S_finishInstruction 89 = .ok (.putfield 105, 3) := by decide +kernel
theorem nd_S_finishInstruction_92 : decode nc_S_finishInstruction 92 = .ok (.return_, 1) := by decide +kernel
theorem nd_S_faultAtPc_0 : decode nc_S_faultAtPc 0 = .ok (.aload_n 0, 1) := by decide +kernel
theorem nd_S_faultAtPc_1 : decode nc_S_faultAtPc 1 = .ok (.getfield 76, 3) := by decide +kernel
theorem nd_S_faultAtPc_4 : decode nc_S_faultAtPc 4 = .ok (.iconst 3, 1) := by decide +kernel
theorem nd_S_faultAtPc_5 : decode nc_S_faultAtPc 5 = .ok (.iand, 1) := by decide +kernel
theorem nd_S_faultAtPc_6 : decode nc_S_faultAtPc 6 = .ok (.ifCond .ne 17, 3) := by decide +kernel
theorem nd_S_faultAtPc_9 : decode nc_S_faultAtPc 9 = .ok (.aload_n 0, 1) := by decide +kernel
theorem nd_S_faultAtPc_10 : decode nc_S_faultAtPc 10 = .ok (.getfield 26, 3) := by decide +kernel
theorem nd_S_faultAtPc_13 : decode nc_S_faultAtPc 13 = .ok (.aload_n 0, 1) := by decide +kernel
theorem nd_S_faultAtPc_14 : decode nc_S_faultAtPc 14 = .ok (.getfield 76, 3) := by decide +kernel
theorem nd_S_faultAtPc_17 : decode nc_S_faultAtPc 17 = .ok (.invokevirtual 161, 3) := by decide +kernel
theorem nd_S_faultAtPc_20 : decode nc_S_faultAtPc 20 = .ok (.ifCond .eq 16, 3) := by decide +kernel
theorem nd_S_faultAtPc_23 : decode nc_S_faultAtPc 23 = .ok (.aload_n 0, 1) := by decide +kernel
theorem nd_S_faultAtPc_24 : decode nc_S_faultAtPc 24 = .ok (.getfield 26, 3) := by decide +kernel
theorem nd_S_faultAtPc_27 : decode nc_S_faultAtPc 27 = .ok (.aload_n 0, 1) := by decide +kernel
theorem nd_S_faultAtPc_28 : decode nc_S_faultAtPc 28 = .ok (.getfield 76, 3) := by decide +kernel
theorem nd_S_faultAtPc_31 : decode nc_S_faultAtPc 31 = .ok (.putfield 102, 3) := by decide +kernel
theorem nd_S_faultAtPc_34 : decode nc_S_faultAtPc 34 = .ok (.iconst 4, 1) := by decide +kernel
theorem nd_S_faultAtPc_35 : decode nc_S_faultAtPc 35 = .ok (.ireturn, 1) := by decide +kernel
theorem nd_S_faultAtPc_36 : decode nc_S_faultAtPc 36 = .ok (.aload_n 0, 1) := by decide +kernel
theorem nd_S_faultAtPc_37 : decode nc_S_faultAtPc 37 = .ok (.getfield 76, 3) := by decide +kernel
theorem nd_S_faultAtPc_40 : decode nc_S_faultAtPc 40 = .ok (.ldc 128, 2) := by decide +kernel
theorem nd_S_faultAtPc_42 : decode nc_S_faultAtPc 42 = .ok (.iand, 1) := by decide +kernel
theorem nd_S_faultAtPc_43 : decode nc_S_faultAtPc 43 = .ok (.invokestatic 115, 3) := by decide +kernel
theorem nd_S_faultAtPc_46 : decode nc_S_faultAtPc 46 = .ok (.ifCond .eq 7, 3) := by decide +kernel
theorem nd_S_faultAtPc_49 : decode nc_S_faultAtPc 49 = .ok (.iconst (-1), 1) := by decide +kernel
theorem nd_S_faultAtPc_50 : decode nc_S_faultAtPc 50 = .ok (.goto 5, 3) := by decide +kernel
theorem nd_S_faultAtPc_53 : decode nc_S_faultAtPc 53 = .ok (.bipush 6, 2) := by decide +kernel
theorem nd_S_faultAtPc_55 : decode nc_S_faultAtPc 55 = .ok (.ireturn, 1) := by decide +kernel
theorem nd_S_perform_0 : decode nc_S_perform 0 = .ok (.aload_n 0, 1) := by decide +kernel
theorem nd_S_perform_1 : decode nc_S_perform 1 = .ok (.getfield 33, 3) := by decide +kernel
theorem nd_S_perform_4 : decode nc_S_perform 4 = .ok (.aload_n 0, 1) := by decide +kernel
theorem nd_S_perform_5 : decode nc_S_perform 5 = .ok (.getfield 37, 3) := by decide +kernel
theorem nd_S_perform_8 : decode nc_S_perform 8 = .ok (.iconst 4, 1) := by decide +kernel
theorem nd_S_perform_9 : decode nc_S_perform 9 = .ok (.iadd, 1) := by decide +kernel
theorem nd_S_perform_10 : decode nc_S_perform 10 = .ok (.invokevirtual 164, 3) := by decide +kernel
theorem nd_S_perform_13 : decode nc_S_perform 13 = .ok (.aload_n 0, 1) := by decide +kernel
theorem nd_S_perform_14 : decode nc_S_perform 14 = .ok (.getfield 105, 3) := by decide +kernel
theorem nd_S_perform_17 : decode nc_S_perform 17 = .ok (.ifCond .eq 13, 3) := by decide +kernel
theorem nd_S_perform_20 : decode nc_S_perform 20 = .ok (.iload_n 1, 1) := by decide +kernel
theorem nd_S_perform_21 : decode nc_S_perform 21 = .ok (.invokestatic 167, 3) := by decide +kernel
theorem nd_S_perform_24 : decode nc_S_perform 24 = .ok (.ifCond .eq 6, 3) := by decide +kernel
theorem nd_S_perform_27 : decode nc_S_perform 27 = .ok (.bipush 10, 2) := by decide +kernel
theorem nd_S_perform_29 : decode nc_S_perform 29 = .ok (.ireturn, 1) := by decide +kernel
theorem nd_S_perform_30 : decode nc_S_perform 30 = .ok (.iload_n 1, 1) := by decide +kernel
theorem nd_S_perform_31 : decode nc_S_perform 31 = .ok (.invokestatic 169, 3) := by decide +kernel
theorem nd_S_perform_34 : decode nc_S_perform 34 = .ok (.tableswitch 250 0 46 #[202, 208, 214, 214, 220, 220, 220, 220, 226, 226, 226, 226, 226, 226, 226, 226, 232, 250, 250, 250, 250, 250, 250, 250, 250, 250, 250, 250, 250, 250, 250, 250, 238, 238, 238, 238, 238, 238, 238, 250, 244, 244, 244, 244, 250, 250, 244], 202) := by decide +kernel
theorem nd_S_perform_236 : decode nc_S_perform 236 = .ok (.aload_n 0, 1) := by decide +kernel
theorem nd_S_perform_237 : decode nc_S_perform 237 = .ok (.iload_n 1, 1) := by decide +kernel
theorem nd_S_perform_238 : decode nc_S_perform 238 = .ok (.invokevirtual 172, 3) := by decide +kernel
theorem nd_S_perform_241 : decode nc_S_perform 241 = .ok (.ireturn, 1) := by decide +kernel
theorem nd_S_perform_242 : decode nc_S_perform 242 = .ok (.aload_n 0, 1) := by decide +kernel
theorem nd_S_perform_243 : decode nc_S_perform 243 = .ok (.iload_n 1, 1) := by decide +kernel
theorem nd_S_perform_244 : decode nc_S_perform 244 = .ok (.invokevirtual 175, 3) := by decide +kernel
theorem nd_S_perform_247 : decode nc_S_perform 247 = .ok (.ireturn, 1) := by decide +kernel
theorem nd_S_perform_248 : decode nc_S_perform 248 = .ok (.aload_n 0, 1) := by decide +kernel
theorem nd_S_perform_249 : decode nc_S_perform 249 = .ok (.iload_n 1, 1) := by decide +kernel
theorem nd_S_perform_250 : decode nc_S_perform 250 = .ok (.invokevirtual 178, 3) := by decide +kernel
theorem nd_S_perform_253 : decode nc_S_perform 253 = .ok (.ireturn, 1) := by decide +kernel
theorem nd_S_perform_254 : decode nc_S_perform 254 = .ok (.aload_n 0, 1) := by decide +kernel
theorem nd_S_perform_255 : decode nc_S_perform 255 = .ok (.iload_n 1, 1) := by decide +kernel
theorem nd_S_perform_256 : decode nc_S_perform 256 = .ok (.invokevirtual 181, 3) := by decide +kernel
theorem nd_S_perform_259 : decode nc_S_perform 259 = .ok (.ireturn, 1) := by decide +kernel
theorem nd_S_perform_260 : decode nc_S_perform 260 = .ok (.aload_n 0, 1) := by decide +kernel
theorem nd_S_perform_261 : decode nc_S_perform 261 = .ok (.iload_n 1, 1) := by decide +kernel
theorem nd_S_perform_262 : decode nc_S_perform 262 = .ok (.invokevirtual 184, 3) := by decide +kernel
theorem nd_S_perform_265 : decode nc_S_perform 265 = .ok (.ireturn, 1) := by decide +kernel
theorem nd_S_perform_266 : decode nc_S_perform 266 = .ok (.aload_n 0, 1) := by decide +kernel
theorem nd_S_perform_267 : decode nc_S_perform 267 = .ok (.iload_n 1, 1) := by decide +kernel
theorem nd_S_perform_268 : decode nc_S_perform 268 = .ok (.invokevirtual 187, 3) := by decide +kernel
theorem nd_S_perform_271 : decode nc_S_perform 271 = .ok (.ireturn, 1) := by decide +kernel
theorem nd_S_perform_272 : decode nc_S_perform 272 = .ok (.aload_n 0, 1) := by decide +kernel
theorem nd_S_perform_273 : decode nc_S_perform 273 = .ok (.iload_n 1, 1) := by decide +kernel
theorem nd_S_perform_274 : decode nc_S_perform 274 = .ok (.invokevirtual 190, 3) := by decide +kernel
theorem nd_S_perform_277 : decode nc_S_perform 277 = .ok (.ireturn, 1) := by decide +kernel
theorem nd_S_perform_278 : decode nc_S_perform 278 = .ok (.aload_n 0, 1) := by decide +kernel
theorem nd_S_perform_279 : decode nc_S_perform 279 = .ok (.iload_n 1, 1) := by decide +kernel
theorem nd_S_perform_280 : decode nc_S_perform 280 = .ok (.invokevirtual 193, 3) := by decide +kernel
