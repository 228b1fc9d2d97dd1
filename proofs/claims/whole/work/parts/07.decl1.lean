theorem nd_L_put_0 : decode nc_L_put 0 = .ok (.aload_n 3, 1) := by decide +kernel
theorem nd_L_put_1 : decode nc_L_put 1 = .ok (.iconst 0, 1) := by decide +kernel
theorem nd_L_put_2 : decode nc_L_put 2 = .ok (.aload_n 0, 1) := by decide +kernel
theorem nd_L_put_3 : decode nc_L_put 3 = .ok (.iload_n 1, 1) := by decide +kernel
theorem nd_L_put_4 : decode nc_L_put 4 = .ok (.iload_n 2, 1) := by decide +kernel
theorem nd_L_put_5 : decode nc_L_put 5 = .ok (.invokevirtual 7, 3) := by decide +kernel
theorem nd_L_put_8 : decode nc_L_put 8 = .ok (.i2l, 1) := by decide +kernel
theorem nd_L_put_9 : decode nc_L_put 9 = .ok (.lastore, 1) := by decide +kernel
theorem nd_L_put_10 : decode nc_L_put 10 = .ok (.goto 7, 3) := by decide +kernel
theorem nd_L_put_13 : decode nc_L_put 13 = .ok (.astore 4, 2) := by decide +kernel
theorem nd_L_put_15 : decode nc_L_put 15 = .ok (.iconst 1, 1) := by decide +kernel
theorem nd_L_put_16 : decode nc_L_put 16 = .ok (.ireturn, 1) := by decide +kernel
theorem nd_L_put_17 : decode nc_L_put 17 = .ok (.iconst 0, 1) := by decide +kernel
theorem nd_L_put_18 : decode nc_L_put 18 = .ok (.ireturn, 1) := by decide +kernel
theorem nd_L_word_0 : decode nc_L_word 0 = .ok (.aload_n 2, 1) := by decide +kernel
theorem nd_L_word_1 : decode nc_L_word 1 = .ok (.iconst 0, 1) := by decide +kernel
theorem nd_L_word_2 : decode nc_L_word 2 = .ok (.aload_n 0, 1) := by decide +kernel
theorem nd_L_word_3 : decode nc_L_word 3 = .ok (.iload_n 1, 1) := by decide +kernel
theorem nd_L_word_4 : decode nc_L_word 4 = .ok (.invokevirtual 15, 3) := by decide +kernel
theorem nd_L_word_7 : decode nc_L_word 7 = .ok (.i2l, 1) := by decide +kernel
theorem nd_L_word_8 : decode nc_L_word 8 = .ok (.lastore, 1) := by decide +kernel
theorem nd_L_word_9 : decode nc_L_word 9 = .ok (.goto 6, 3) := by decide +kernel
theorem nd_L_word_12 : decode nc_L_word 12 = .ok (.astore_n 3, 1) := by decide +kernel
theorem nd_L_word_13 : decode nc_L_word 13 = .ok (.iconst 1, 1) := by decide +kernel
theorem nd_L_word_14 : decode nc_L_word 14 = .ok (.ireturn, 1) := by decide +kernel
theorem nd_L_word_15 : decode nc_L_word 15 = .ok (.iconst 0, 1) := by decide +kernel
theorem nd_L_word_16 : decode nc_L_word 16 = .ok (.ireturn, 1) := by decide +kernel
theorem nd_L_set_0 : decode nc_L_set 0 = .ok (.aload_n 3, 1) := by decide +kernel
theorem nd_L_set_1 : decode nc_L_set 1 = .ok (.iconst 0, 1) := by decide +kernel
theorem nd_L_set_2 : decode nc_L_set 2 = .ok (.aload_n 0, 1) := by decide +kernel
theorem nd_L_set_3 : decode nc_L_set 3 = .ok (.iload_n 1, 1) := by decide +kernel
theorem nd_L_set_4 : decode nc_L_set 4 = .ok (.iload_n 2, 1) := by decide +kernel
theorem nd_L_set_5 : decode nc_L_set 5 = .ok (.invokevirtual 19, 3) := by decide +kernel
theorem nd_L_set_8 : decode nc_L_set 8 = .ok (.i2l, 1) := by decide +kernel
theorem nd_L_set_9 : decode nc_L_set 9 = .ok (.lastore, 1) := by decide +kernel
theorem nd_L_set_10 : decode nc_L_set 10 = .ok (.goto 7, 3) := by decide +kernel
theorem nd_L_set_13 : decode nc_L_set 13 = .ok (.astore 4, 2) := by decide +kernel
theorem nd_L_set_15 : decode nc_L_set 15 = .ok (.iconst 1, 1) := by decide +kernel
theorem nd_L_set_16 : decode nc_L_set 16 = .ok (.ireturn, 1) := by decide +kernel
theorem nd_L_set_17 : decode nc_L_set 17 = .ok (.iconst 0, 1) := by decide +kernel
theorem nd_L_set_18 : decode nc_L_set 18 = .ok (.ireturn, 1) := by decide +kernel
theorem nd_L_register_0 : decode nc_L_register 0 = .ok (.aload_n 2, 1) := by decide +kernel
theorem nd_L_register_1 : decode nc_L_register 1 = .ok (.iconst 0, 1) := by decide +kernel
theorem nd_L_register_2 : decode nc_L_register 2 = .ok (.aload_n 0, 1) := by decide +kernel
theorem nd_L_register_3 : decode nc_L_register 3 = .ok (.iload_n 1, 1) := by decide +kernel
theorem nd_L_register_4 : decode nc_L_register 4 = .ok (.invokevirtual 22, 3) := by decide +kernel
theorem nd_L_register_7 : decode nc_L_register 7 = .ok (.i2l, 1) := by decide +kernel
theorem nd_L_register_8 : decode nc_L_register 8 = .ok (.lastore, 1) := by decide +kernel
theorem nd_L_register_9 : decode nc_L_register 9 = .ok (.goto 6, 3) := by decide +kernel
theorem nd_L_register_12 : decode nc_L_register 12 = .ok (.astore_n 3, 1) := by decide +kernel
theorem nd_L_register_13 : decode nc_L_register 13 = .ok (.iconst 1, 1) := by decide +kernel
theorem nd_L_register_14 : decode nc_L_register 14 = .ok (.ireturn, 1) := by decide +kernel
theorem nd_L_register_15 : decode nc_L_register 15 = .ok (.iconst 0, 1) := by decide +kernel
theorem nd_L_register_16 : decode nc_L_register 16 = .ok (.ireturn, 1) := by decide +kernel
theorem nd_L_lines_0 : decode nc_L_lines 0 = .ok (.aload_n 2, 1) := by decide +kernel
theorem nd_L_lines_1 : decode nc_L_lines 1 = .ok (.iconst 0, 1) := by decide +kernel
theorem nd_L_lines_2 : decode nc_L_lines 2 = .ok (.aload_n 0, 1) := by decide +kernel
theorem nd_L_lines_3 : decode nc_L_lines 3 = .ok (.iload_n 1, 1) := by decide +kernel
theorem nd_L_lines_4 : decode nc_L_lines 4 = .ok (.invokevirtual 25, 3) := by decide +kernel
theorem nd_L_lines_7 : decode nc_L_lines 7 = .ok (.i2l, 1) := by decide +kernel
theorem nd_L_lines_8 : decode nc_L_lines 8 = .ok (.lastore, 1) := by decide +kernel
theorem nd_L_lines_9 : decode nc_L_lines 9 = .ok (.goto 6, 3) := by decide +kernel
theorem nd_L_lines_12 : decode nc_L_lines 12 = .ok (.astore_n 3, 1) := by decide +kernel
theorem nd_L_lines_13 : decode nc_L_lines 13 = .ok (.iconst 1, 1) := by decide +kernel
theorem nd_L_lines_14 : decode nc_L_lines 14 = .ok (.ireturn, 1) := by decide +kernel
theorem nd_L_lines_15 : decode nc_L_lines 15 = .ok (.iconst 0, 1) := by decide +kernel
theorem nd_L_lines_16 : decode nc_L_lines 16 = .ok (.ireturn, 1) := by decide +kernel
theorem nd_L_run_0 : decode nc_L_run 0 = .ok (.aload_n 2, 1) := by decide +kernel
theorem nd_L_run_1 : decode nc_L_run 1 = .ok (.iconst 0, 1) := by decide +kernel
theorem nd_L_run_2 : decode nc_L_run 2 = .ok (.aload_n 0, 1) := by decide +kernel
theorem nd_L_run_3 : decode nc_L_run 3 = .ok (.iload_n 1, 1) := by decide +kernel
theorem nd_L_run_4 : decode nc_L_run 4 = .ok (.invokevirtual 30, 3) := by decide +kernel
theorem nd_L_run_7 : decode nc_L_run 7 = .ok (.i2l, 1) := by decide +kernel
theorem nd_L_run_8 : decode nc_L_run 8 = .ok (.lastore, 1) := by decide +kernel
theorem nd_L_run_9 : decode nc_L_run 9 = .ok (.goto 6, 3) := by decide +kernel
theorem nd_L_run_12 : decode nc_L_run 12 = .ok (.astore_n 3, 1) := by decide +kernel
theorem nd_L_run_13 : decode nc_L_run 13 = .ok (.iconst 1, 1) := by decide +kernel
theorem nd_L_run_14 : decode nc_L_run 14 = .ok (.ireturn, 1) := by decide +kernel
theorem nd_L_run_15 : decode nc_L_run 15 = .ok (.iconst 0, 1) := by decide +kernel
theorem nd_L_run_16 : decode nc_L_run 16 = .ok (.ireturn, 1) := by decide +kernel
theorem nd_L_look_0 : decode nc_L_look 0 = .ok (.aload_n 2, 1) := by decide +kernel
theorem nd_L_look_1 : decode nc_L_look 1 = .ok (.iconst 0, 1) := by decide +kernel
theorem nd_L_look_2 : decode nc_L_look 2 = .ok (.aload_n 0, 1) := by decide +kernel
theorem nd_L_look_3 : decode nc_L_look 3 = .ok (.iload_n 1, 1) := by decide +kernel
theorem nd_L_look_4 : decode nc_L_look 4 = .ok (.invokevirtual 33, 3) := by decide +kernel
theorem nd_L_look_7 : decode nc_L_look 7 = .ok (.i2l, 1) := by decide +kernel
theorem nd_L_look_8 : decode nc_L_look 8 = .ok (.lastore, 1) := by decide +kernel
theorem nd_L_look_9 : decode nc_L_look 9 = .ok (.goto 6, 3) := by decide +kernel
theorem nd_L_look_12 : decode nc_L_look 12 = .ok (.astore_n 3, 1) := by decide +kernel
theorem nd_L_look_13 : decode nc_L_look 13 = .ok (.iconst 1, 1) := by decide +kernel
theorem nd_L_look_14 : decode nc_L_look 14 = .ok (.ireturn, 1) := by decide +kernel
theorem nd_L_look_15 : decode nc_L_look 15 = .ok (.iconst 0, 1) := by decide +kernel
theorem nd_L_look_16 : decode nc_L_look 16 = .ok (.ireturn, 1) := by decide +kernel
