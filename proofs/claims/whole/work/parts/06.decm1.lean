theorem nd_D_init_0 : decode nc_D_init 0 = .ok (.aload_n 0, 1) := by decide +kernel
theorem nd_D_init_1 : decode nc_D_init 1 = .ok (.invokespecial 1, 3) := by decide +kernel
theorem nd_D_init_4 : decode nc_D_init 4 = .ok (.aload_n 0, 1) := by decide +kernel
theorem nd_D_init_5 : decode nc_D_init 5 = .ok (.sipush 4096, 3) := by decide +kernel
theorem nd_D_init_8 : decode nc_D_init 8 = .ok (.newarray .int, 2) := by decide +kernel
theorem nd_D_init_10 : decode nc_D_init 10 = .ok (.putfield 7, 3) := by decide +kernel
theorem nd_D_init_13 : decode nc_D_init 13 = .ok (.aload_n 0, 1) := by decide +kernel
theorem nd_D_init_14 : decode nc_D_init 14 = .ok (.bipush 34, 2) := by decide +kernel
theorem nd_D_init_16 : decode nc_D_init 16 = .ok (.newarray .int, 2) := by decide +kernel
theorem nd_D_init_18 : decode nc_D_init 18 = .ok (.putfield 13, 3) := by decide +kernel
theorem nd_D_init_21 : decode nc_D_init 21 = .ok (.aload_n 0, 1) := by decide +kernel
theorem nd_D_init_22 : decode nc_D_init 22 = .ok (.iconst 4, 1) := by decide +kernel
theorem nd_D_init_23 : decode nc_D_init 23 = .ok (.putfield 16, 3) := by decide +kernel
theorem nd_D_init_26 : decode nc_D_init 26 = .ok (.aload_n 0, 1) := by decide +kernel
theorem nd_D_init_27 : decode nc_D_init 27 = .ok (.iconst (-1), 1) := by decide +kernel
theorem nd_D_init_28 : decode nc_D_init 28 = .ok (.putfield 20, 3) := by decide +kernel
theorem nd_D_init_31 : decode nc_D_init 31 = .ok (.return_, 1) := by decide +kernel
theorem nd_D_thrown_0 : decode nc_D_thrown 0 = .ok (.aload_n 0, 1) := by decide +kernel
theorem nd_D_thrown_1 : decode nc_D_thrown 1 = .ok (.getfield 23, 3) := by decide +kernel
theorem nd_D_thrown_4 : decode nc_D_thrown 4 = .ok (.ireturn, 1) := by decide +kernel
theorem nd_D_goes_0 : decode nc_D_goes 0 = .ok (.aload_n 0, 1) := by decide +kernel
theorem nd_D_goes_1 : decode nc_D_goes 1 = .ok (.iload_n 1, 1) := by decide +kernel
theorem nd_D_goes_2 : decode nc_D_goes 2 = .ok (.ifCond .eq 7, 3) := by decide +kernel
theorem nd_D_goes_5 : decode nc_D_goes 5 = .ok (.iconst 0, 1) := by decide +kernel
theorem nd_D_goes_6 : decode nc_D_goes 6 = .ok (.goto 4, 3) := by decide +kernel
theorem nd_D_goes_9 : decode nc_D_goes 9 = .ok (.iconst 1, 1) := by decide +kernel
theorem nd_D_goes_10 : decode nc_D_goes 10 = .ok (.putfield 23, 3) := by decide +kernel
theorem nd_D_goes_13 : decode nc_D_goes 13 = .ok (.iload_n 1, 1) := by decide +kernel
theorem nd_D_goes_14 : decode nc_D_goes 14 = .ok (.ireturn, 1) := by decide +kernel
theorem nd_D_reset_0 : decode nc_D_reset 0 = .ok (.aload_n 0, 1) := by decide +kernel
theorem nd_D_reset_1 : decode nc_D_reset 1 = .ok (.iconst 0, 1) := by decide +kernel
theorem nd_D_reset_2 : decode nc_D_reset 2 = .ok (.putfield 23, 3) := by decide +kernel
theorem nd_D_reset_5 : decode nc_D_reset 5 = .ok (.iconst 0, 1) := by decide +kernel
theorem nd_D_reset_6 : decode nc_D_reset 6 = .ok (.istore_n 1, 1) := by decide +kernel
theorem nd_D_reset_7 : decode nc_D_reset 7 = .ok (.iload_n 1, 1) := by decide +kernel
theorem nd_D_reset_8 : decode nc_D_reset 8 = .ok (.bipush 34, 2) := by decide +kernel
theorem nd_D_reset_10 : decode nc_D_reset 10 = .ok (.if_icmp .ge 16, 3) := by decide +kernel
theorem nd_D_reset_13 : decode nc_D_reset 13 = .ok (.aload_n 0, 1) := by decide +kernel
theorem nd_D_reset_14 : decode nc_D_reset 14 = .ok (.getfield 13, 3) := by decide +kernel
theorem nd_D_reset_17 : decode nc_D_reset 17 = .ok (.iload_n 1, 1) := by decide +kernel
theorem nd_D_reset_18 : decode nc_D_reset 18 = .ok (.iconst 0, 1) := by decide +kernel
theorem nd_D_reset_19 : decode nc_D_reset 19 = .ok (.iastore, 1) := by decide +kernel
theorem nd_D_reset_20 : decode nc_D_reset 20 = .ok (.iinc 1 1, 3) := by decide +kernel
theorem nd_D_reset_23 : decode nc_D_reset 23 = .ok (.goto (-16), 3) := by decide +kernel
theorem nd_D_reset_26 : decode nc_D_reset 26 = .ok (.aload_n 0, 1) := by decide +kernel
theorem nd_D_reset_27 : decode nc_D_reset 27 = .ok (.iconst 0, 1) := by decide +kernel
theorem nd_D_reset_28 : decode nc_D_reset 28 = .ok (.putfield 26, 3) := by decide +kernel
theorem nd_D_reset_31 : decode nc_D_reset 31 = .ok (.aload_n 0, 1) := by decide +kernel
theorem nd_D_reset_32 : decode nc_D_reset 32 = .ok (.iconst 4, 1) := by decide +kernel
theorem nd_D_reset_33 : decode nc_D_reset 33 = .ok (.putfield 16, 3) := by decide +kernel
theorem nd_D_reset_36 : decode nc_D_reset 36 = .ok (.aload_n 0, 1) := by decide +kernel
theorem nd_D_reset_37 : decode nc_D_reset 37 = .ok (.iconst 0, 1) := by decide +kernel
theorem nd_D_reset_38 : decode nc_D_reset 38 = .ok (.putfield 29, 3) := by decide +kernel
theorem nd_D_reset_41 : decode nc_D_reset 41 = .ok (.aload_n 0, 1) := by decide +kernel
theorem nd_D_reset_42 : decode nc_D_reset 42 = .ok (.iconst 0, 1) := by decide +kernel
theorem nd_D_reset_43 : decode nc_D_reset 43 = .ok (.putfield 32, 3) := by decide +kernel
theorem nd_D_reset_46 : decode nc_D_reset 46 = .ok (.aload_n 0, 1) := by decide +kernel
theorem nd_D_reset_47 : decode nc_D_reset 47 = .ok (.iconst 0, 1) := by decide +kernel
theorem nd_D_reset_48 : decode nc_D_reset 48 = .ok (.putfield 35, 3) := by decide +kernel
theorem nd_D_reset_51 : decode nc_D_reset 51 = .ok (.aload_n 0, 1) := by decide +kernel
theorem nd_D_reset_52 : decode nc_D_reset 52 = .ok (.iconst 0, 1) := by decide +kernel
theorem nd_D_reset_53 : decode nc_D_reset 53 = .ok (.putfield 38, 3) := by decide +kernel
theorem nd_D_reset_56 : decode nc_D_reset 56 = .ok (.aload_n 0, 1) := by decide +kernel
theorem nd_D_reset_57 : decode nc_D_reset 57 = .ok (.iconst 0, 1) := by decide +kernel
theorem nd_D_reset_58 : decode nc_D_reset 58 = .ok (.putfield 41, 3) := by decide +kernel
theorem nd_D_reset_61 : decode nc_D_reset 61 = .ok (.aload_n 0, 1) := by decide +kernel
theorem nd_D_reset_62 : decode nc_D_reset 62 = .ok (.iconst 0, 1) := by decide +kernel
theorem nd_D_reset_63 : decode nc_D_reset 63 = .ok (.putfield 45, 3) := by decide +kernel
theorem nd_D_reset_66 : decode nc_D_reset 66 = .ok (.aload_n 0, 1) := by decide +kernel
theorem nd_D_reset_67 : decode nc_D_reset 67 = .ok (.iconst 0, 1) := by decide +kernel
theorem nd_D_reset_68 : decode nc_D_reset 68 = .ok (.putfield 48, 3) := by decide +kernel
theorem nd_D_reset_71 : decode nc_D_reset 71 = .ok (.aload_n 0, 1) := by decide +kernel
theorem nd_D_reset_72 : decode nc_D_reset 72 = .ok (.iconst 0, 1) := by decide +kernel
theorem nd_D_reset_73 : decode nc_D_reset 73 = .ok (.putfield 51, 3) := by decide +kernel
theorem nd_D_reset_76 : decode nc_D_reset 76 = .ok (.aload_n 0, 1) := by decide +kernel
theorem nd_D_reset_77 : decode nc_D_reset 77 = .ok (.iconst (-1), 1) := by decide +kernel
theorem nd_D_reset_78 : decode nc_D_reset 78 = .ok (.putfield 20, 3) := by decide +kernel
theorem nd_D_reset_81 : decode nc_D_reset 81 = .ok (.aload_n 0, 1) := by decide +kernel
theorem nd_D_reset_82 : decode nc_D_reset 82 = .ok (.iconst 0, 1) := by decide +kernel
theorem nd_D_reset_83 : decode nc_D_reset 83 = .ok (.putfield 54, 3) := by decide +kernel
theorem nd_D_reset_86 : decode nc_D_reset 86 = .ok (.aload_n 0, 1) := by decide +kernel
theorem nd_D_reset_87 : decode nc_D_reset 87 = .ok (.iconst 0, 1) := by decide +kernel
theorem nd_D_reset_88 : decode nc_D_reset 88 = .ok (.putfield 57, 3) := by decide +kernel
theorem nd_D_reset_91 : decode nc_D_reset 91 = .ok (.aload_n 0, 1) := by decide +kernel
theorem nd_D_reset_92 : decode nc_D_reset 92 = .ok (.iconst 0, 1) := by decide +kernel
theorem nd_D_reset_93 : decode nc_D_reset 93 = .ok (.putfield 60, 3) := by decide +kernel
theorem nd_D_reset_96 : decode nc_D_reset 96 = .ok (.return_, 1) := by decide +kernel
theorem nd_D_load_0 : decode nc_D_load 0 = .ok (.iconst 0, 1) := by decide +kernel
theorem nd_D_load_1 : decode nc_D_load 1 = .ok (.istore_n 3, 1) := by decide +kernel
theorem nd_D_load_2 : decode nc_D_load 2 = .ok (.iconst 0, 1) := by decide +kernel
theorem nd_D_load_3 : decode nc_D_load 3 = .ok (.istore 4, 2) := by decide +kernel
theorem nd_D_load_5 : decode nc_D_load 5 = .ok (.iload 4, 2) := by decide +kernel
theorem nd_D_load_7 : decode nc_D_load 7 = .ok (.iload_n 2, 1) := by decide +kernel
theorem nd_D_load_8 : decode nc_D_load 8 = .ok (.if_icmp .ge 24, 3) := by decide +kernel
theorem nd_D_load_11 : decode nc_D_load 11 = .ok (.iload_n 3, 1) := by decide +kernel
theorem nd_D_load_12 : decode nc_D_load 12 = .ok (.bipush 8, 2) := by decide +kernel
theorem nd_D_load_14 : decode nc_D_load 14 = .ok (.ishl, 1) := by decide +kernel
theorem nd_D_load_15 : decode nc_D_load 15 = .ok (.aload_n 0, 1) := by decide +kernel
theorem nd_D_load_16 : decode nc_D_load 16 = .ok (.getfield 7, 3) := by decide +kernel
theorem nd_D_load_19 : decode nc_D_load 19 = .ok (.iload_n 1, 1) := by decide +kernel
theorem nd_D_load_20 : decode nc_D_load 20 = .ok (.iload 4, 2) := by decide +kernel
theorem nd_D_load_22 : decode nc_D_load 22 = .ok (.iadd, 1) := by decide +kernel
theorem nd_D_load_23 : decode nc_D_load 23 = .ok (.iaload, 1) := by decide +kernel
theorem nd_D_load_24 : decode nc_D_load 24 = .ok (.ior, 1) := by decide +kernel
theorem nd_D_load_25 : decode nc_D_load 25 = .ok (.istore_n 3, 1) := by decide +kernel
theorem nd_D_load_26 : decode nc_D_load 26 = .ok (.iinc 4 1, 3) := by decide +kernel
theorem nd_D_load_29 : decode nc_D_load 29 = .ok (.goto (-24), 3) := by decide +kernel
theorem nd_D_load_32 : decode nc_D_load 32 = .ok (.iload_n 3, 1) := by decide +kernel
theorem nd_D_load_33 : decode nc_D_load 33 = .ok (.ireturn, 1) := by decide +kernel
theorem nd_D_store_0 : decode nc_D_store 0 = .ok (.iconst 0, 1) := by decide +kernel
theorem nd_D_store_1 : decode nc_D_store 1 = .ok (.istore 4, 2) := by decide +kernel
theorem nd_D_store_3 : decode nc_D_store 3 = .ok (.iload 4, 2) := by decide +kernel
theorem nd_D_store_5 : decode nc_D_store 5 = .ok (.iload_n 2, 1) := by decide +kernel
theorem nd_D_store_6 : decode nc_D_store 6 = .ok (.if_icmp .ge 33, 3) := by decide +kernel
theorem nd_D_store_9 : decode nc_D_store 9 = .ok (.aload_n 0, 1) := by decide +kernel
theorem nd_D_store_10 : decode nc_D_store 10 = .ok (.getfield 7, 3) := by decide +kernel
theorem nd_D_store_13 : decode nc_D_store 13 = .ok (.iload_n 1, 1) := by decide +kernel
theorem nd_D_store_14 : decode nc_D_store 14 = .ok (.iload 4, 2) := by decide +kernel
theorem nd_D_store_16 : decode nc_D_store 16 = .ok (.iadd, 1) := by decide +kernel
theorem nd_D_store_17 : decode nc_D_store 17 = .ok (.iload_n 3, 1) := by decide +kernel
theorem nd_D_store_18 : decode nc_D_store 18 = .ok (.bipush 8, 2) := by decide +kernel
theorem nd_D_store_20 : decode nc_D_store 20 = .ok (.iload_n 2, 1) := by decide +kernel
theorem nd_D_store_21 : decode nc_D_store 21 = .ok (.iconst 1, 1) := by decide +kernel
theorem nd_D_store_22 : decode nc_D_store 22 = .ok (.isub, 1) := by decide +kernel
theorem nd_D_store_23 : decode nc_D_store 23 = .ok (.iload 4, 2) := by decide +kernel
theorem nd_D_store_25 : decode nc_D_store 25 = .ok (.isub, 1) := by decide +kernel
theorem nd_D_store_26 : decode nc_D_store 26 = .ok (.imul, 1) := by decide +kernel
theorem nd_D_store_27 : decode nc_D_store 27 = .ok (.ishr, 1) := by decide +kernel
theorem nd_D_store_28 : decode nc_D_store 28 = .ok (.sipush 255, 3) := by decide +kernel
theorem nd_D_store_31 : decode nc_D_store 31 = .ok (.iand, 1) := by decide +kernel
theorem nd_D_store_32 : decode nc_D_store 32 = .ok (.iastore, 1) := by decide +kernel
theorem nd_D_store_33 : decode nc_D_store 33 = .ok (.iinc 4 1, 3) := by decide +kernel
theorem nd_D_store_36 : decode nc_D_store 36 = .ok (.goto (-33), 3) := by decide +kernel
theorem nd_D_store_39 : decode nc_D_store 39 = .ok (.return_, 1) := by decide +kernel
theorem nd_D_isWord_0 : decode nc_D_isWord 0 = .ok (.iload_n 0, 1) := by decide +kernel
theorem nd_D_isWord_1 : decode nc_D_isWord 1 = .ok (.ifCond .lt 20, 3) := by decide +kernel
theorem nd_D_isWord_4 : decode nc_D_isWord 4 = .ok (.iload_n 0, 1) := by decide +kernel
theorem nd_D_isWord_5 : decode nc_D_isWord 5 = .ok (.sipush 4092, 3) := by decide +kernel
theorem nd_D_isWord_8 : decode nc_D_isWord 8 = .ok (.if_icmp .gt 13, 3) := by decide +kernel
theorem nd_D_isWord_11 : decode nc_D_isWord 11 = .ok (.iload_n 0, 1) := by decide +kernel
theorem nd_D_isWord_12 : decode nc_D_isWord 12 = .ok (.iconst 4, 1) := by decide +kernel
theorem nd_D_isWord_13 : decode nc_D_isWord 13 = .ok (.irem, 1) := by decide +kernel
theorem nd_D_isWord_14 : decode nc_D_isWord 14 = .ok (.ifCond .ne 7, 3) := by decide +kernel
theorem nd_D_isWord_17 : decode nc_D_isWord 17 = .ok (.iconst 1, 1) := by decide +kernel
theorem nd_D_isWord_18 : decode nc_D_isWord 18 = .ok (.goto 4, 3) := by decide +kernel
theorem nd_D_isWord_21 : decode nc_D_isWord 21 = .ok (.iconst 0, 1) := by decide +kernel
theorem nd_D_isWord_22 : decode nc_D_isWord 22 = .ok (.ireturn, 1) := by decide +kernel
theorem nd_D_put_0 : decode nc_D_put 0 = .ok (.aload_n 0, 1) := by decide +kernel
theorem nd_D_put_1 : decode nc_D_put 1 = .ok (.iload_n 1, 1) := by decide +kernel
theorem nd_D_put_2 : decode nc_D_put 2 = .ok (.invokestatic 63, 3) := by decide +kernel
theorem nd_D_put_5 : decode nc_D_put 5 = .ok (.invokevirtual 67, 3) := by decide +kernel
theorem nd_D_put_8 : decode nc_D_put 8 = .ok (.ifCond .ne 5, 3) := by decide +kernel
theorem nd_D_put_11 : decode nc_D_put 11 = .ok (.iconst 0, 1) := by decide +kernel
theorem nd_D_put_12 : decode nc_D_put 12 = .ok (.ireturn, 1) := by decide +kernel
theorem nd_D_put_13 : decode nc_D_put 13 = .ok (.aload_n 0, 1) := by decide +kernel
theorem nd_D_put_14 : decode nc_D_put 14 = .ok (.iload_n 1, 1) := by decide +kernel
theorem nd_D_put_15 : decode nc_D_put 15 = .ok (.iconst 4, 1) := by decide +kernel
theorem nd_D_put_16 : decode nc_D_put 16 = .ok (.invokevirtual 71, 3) := by decide +kernel
theorem nd_D_put_19 : decode nc_D_put 19 = .ok (.istore_n 3, 1) := by decide +kernel
theorem nd_D_put_20 : decode nc_D_put 20 = .ok (.aload_n 0, 1) := by decide +kernel
theorem nd_D_put_21 : decode nc_D_put 21 = .ok (.iload_n 1, 1) := by decide +kernel
theorem nd_D_put_22 : decode nc_D_put 22 = .ok (.iconst 4, 1) := by decide +kernel
theorem nd_D_put_23 : decode nc_D_put 23 = .ok (.iload_n 2, 1) := by decide +kernel
theorem nd_D_put_24 : decode nc_D_put 24 = .ok (.invokevirtual 75, 3) := by decide +kernel
theorem nd_D_put_27 : decode nc_D_put 27 = .ok (.iload_n 3, 1) := by decide +kernel
theorem nd_D_put_28 : decode nc_D_put 28 = .ok (.ireturn, 1) := by decide +kernel
theorem nd_D_word_0 : decode nc_D_word 0 = .ok (.aload_n 0, 1) := by decide +kernel
theorem nd_D_word_1 : decode nc_D_word 1 = .ok (.iload_n 1, 1) := by decide +kernel
theorem nd_D_word_2 : decode nc_D_word 2 = .ok (.invokestatic 63, 3) := by decide +kernel
theorem nd_D_word_5 : decode nc_D_word 5 = .ok (.invokevirtual 67, 3) := by decide +kernel
theorem nd_D_word_8 : decode nc_D_word 8 = .ok (.ifCond .eq 12, 3) := by decide +kernel
theorem nd_D_word_11 : decode nc_D_word 11 = .ok (.aload_n 0, 1) := by decide +kernel
theorem nd_D_word_12 : decode nc_D_word 12 = .ok (.iload_n 1, 1) := by decide +kernel
theorem nd_D_word_13 : decode nc_D_word 13 = .ok (.iconst 4, 1) := by decide +kernel
theorem nd_D_word_14 : decode nc_D_word 14 = .ok (.invokevirtual 71, 3) := by decide +kernel
theorem nd_D_word_17 : decode nc_D_word 17 = .ok (.goto 4, 3) := by decide +kernel
theorem nd_D_word_20 : decode nc_D_word 20 = .ok (.iconst 0, 1) := by decide +kernel
theorem nd_D_word_21 : decode nc_D_word 21 = .ok (.ireturn, 1) := by decide +kernel
theorem nd_D_set_0 : decode nc_D_set 0 = .ok (.aload_n 0, 1) := by decide +kernel
theorem nd_D_set_1 : decode nc_D_set 1 = .ok (.iload_n 1, 1) := by decide +kernel
theorem nd_D_set_2 : decode nc_D_set 2 = .ok (.ifCond .lt 13, 3) := by decide +kernel
theorem nd_D_set_5 : decode nc_D_set 5 = .ok (.iload_n 1, 1) := by decide +kernel
theorem nd_D_set_6 : decode nc_D_set 6 = .ok (.bipush 34, 2) := by decide +kernel
theorem nd_D_set_8 : decode nc_D_set 8 = .ok (.if_icmp .ge 7, 3) := by decide +kernel
theorem nd_D_set_11 : decode nc_D_set 11 = .ok (.iconst 1, 1) := by decide +kernel
theorem nd_D_set_12 : decode nc_D_set 12 = .ok (.goto 4, 3) := by decide +kernel
theorem nd_D_set_15 : decode nc_D_set 15 = .ok (.iconst 0, 1) := by decide +kernel
theorem nd_D_set_16 : decode nc_D_set 16 = .ok (.invokevirtual 67, 3) := by decide +kernel
theorem nd_D_set_19 : decode nc_D_set 19 = .ok (.ifCond .ne 5, 3) := by decide +kernel
theorem nd_D_set_22 : decode nc_D_set 22 = .ok (.iconst 0, 1) := by decide +kernel
theorem nd_D_set_23 : decode nc_D_set 23 = .ok (.ireturn, 1) := by decide +kernel
theorem nd_D_set_24 : decode nc_D_set 24 = .ok (.aload_n 0, 1) := by decide +kernel
theorem nd_D_set_25 : decode nc_D_set 25 = .ok (.getfield 13, 3) := by decide +kernel
theorem nd_D_set_28 : decode nc_D_set 28 = .ok (.iload_n 1, 1) := by decide +kernel
theorem nd_D_set_29 : decode nc_D_set 29 = .ok (.iaload, 1) := by decide +kernel
theorem nd_D_set_30 : decode nc_D_set 30 = .ok (.istore_n 3, 1) := by decide +kernel
theorem nd_D_set_31 : decode nc_D_set 31 = .ok (.aload_n 0, 1) := by decide +kernel
theorem nd_D_set_32 : decode nc_D_set 32 = .ok (.getfield 13, 3) := by decide +kernel
theorem nd_D_set_35 : decode nc_D_set 35 = .ok (.iload_n 1, 1) := by decide +kernel
theorem nd_D_set_36 : decode nc_D_set 36 = .ok (.iload_n 1, 1) := by decide +kernel
theorem nd_D_set_37 : decode nc_D_set 37 = .ok (.ifCond .ne 7, 3) := by decide +kernel
theorem nd_D_set_40 : decode nc_D_set 40 = .ok (.iconst 0, 1) := by decide +kernel
theorem nd_D_set_41 : decode nc_D_set 41 = .ok (.goto 4, 3) := by decide +kernel
theorem nd_D_set_44 : decode nc_D_set 44 = .ok (.iload_n 2, 1) := by decide +kernel
theorem nd_D_set_45 : decode nc_D_set 45 = .ok (.iastore, 1) := by decide +kernel
theorem nd_D_set_46 : decode nc_D_set 46 = .ok (.iload_n 3, 1) := by decide +kernel
theorem nd_D_set_47 : decode nc_D_set 47 = .ok (.ireturn, 1) := by decide +kernel
theorem nd_D_register_0 : decode nc_D_register 0 = .ok (.aload_n 0, 1) := by decide +kernel
theorem nd_D_register_1 : decode nc_D_register 1 = .ok (.iload_n 1, 1) := by decide +kernel
theorem nd_D_register_2 : decode nc_D_register 2 = .ok (.ifCond .lt 13, 3) := by decide +kernel
theorem nd_D_register_5 : decode nc_D_register 5 = .ok (.iload_n 1, 1) := by decide +kernel
theorem nd_D_register_6 : decode nc_D_register 6 = .ok (.bipush 34, 2) := by decide +kernel
theorem nd_D_register_8 : decode nc_D_register 8 = .ok (.if_icmp .ge 7, 3) := by decide +kernel
theorem nd_D_register_11 : decode nc_D_register 11 = .ok (.iconst 1, 1) := by decide +kernel
theorem nd_D_register_12 : decode nc_D_register 12 = .ok (.goto 4, 3) := by decide +kernel
theorem nd_D_register_15 : decode nc_D_register 15 = .ok (.iconst 0, 1) := by decide +kernel
theorem nd_D_register_16 : decode nc_D_register 16 = .ok (.invokevirtual 67, 3) := by decide +kernel
theorem nd_D_register_19 : decode nc_D_register 19 = .ok (.ifCond .eq 12, 3) := by decide +kernel
theorem nd_D_register_22 : decode nc_D_register 22 = .ok (.aload_n 0, 1) := by decide +kernel
theorem nd_D_register_23 : decode nc_D_register 23 = .ok (.getfield 13, 3) := by decide +kernel
theorem nd_D_register_26 : decode nc_D_register 26 = .ok (.iload_n 1, 1) := by decide +kernel
theorem nd_D_register_27 : decode nc_D_register 27 = .ok (.iaload, 1) := by decide +kernel
theorem nd_D_register_28 : decode nc_D_register 28 = .ok (.goto 4, 3) := by decide +kernel
theorem nd_D_register_31 : decode nc_D_register 31 = .ok (.iconst 0, 1) := by decide +kernel
theorem nd_D_register_32 : decode nc_D_register 32 = .ok (.ireturn, 1) := by decide +kernel
theorem nd_D_go_0 : decode nc_D_go 0 = .ok (.aload_n 0, 1) := by decide +kernel
theorem nd_D_go_1 : decode nc_D_go 1 = .ok (.iconst 0, 1) := by decide +kernel
theorem nd_D_go_2 : decode nc_D_go 2 = .ok (.putfield 23, 3) := by decide +kernel
theorem nd_D_go_5 : decode nc_D_go 5 = .ok (.aload_n 0, 1) := by decide +kernel
theorem nd_D_go_6 : decode nc_D_go 6 = .ok (.getfield 26, 3) := by decide +kernel
theorem nd_D_go_9 : decode nc_D_go 9 = .ok (.istore_n 2, 1) := by decide +kernel
theorem nd_D_go_10 : decode nc_D_go 10 = .ok (.aload_n 0, 1) := by decide +kernel
theorem nd_D_go_11 : decode nc_D_go 11 = .ok (.iload_n 1, 1) := by decide +kernel
theorem nd_D_go_12 : decode nc_D_go 12 = .ok (.putfield 26, 3) := by decide +kernel
theorem nd_D_go_15 : decode nc_D_go 15 = .ok (.aload_n 0, 1) := by decide +kernel
theorem nd_D_go_16 : decode nc_D_go 16 = .ok (.iload_n 1, 1) := by decide +kernel
theorem nd_D_go_17 : decode nc_D_go 17 = .ok (.iconst 4, 1) := by decide +kernel
theorem nd_D_go_18 : decode nc_D_go 18 = .ok (.iadd, 1) := by decide +kernel
theorem nd_D_go_19 : decode nc_D_go 19 = .ok (.putfield 16, 3) := by decide +kernel
theorem nd_D_go_22 : decode nc_D_go 22 = .ok (.aload_n 0, 1) := by decide +kernel
theorem nd_D_go_23 : decode nc_D_go 23 = .ok (.iconst 0, 1) := by decide +kernel
theorem nd_D_go_24 : decode nc_D_go 24 = .ok (.putfield 51, 3) := by decide +kernel
theorem nd_D_go_27 : decode nc_D_go 27 = .ok (.aload_n 0, 1) := by decide +kernel
theorem nd_D_go_28 : decode nc_D_go 28 = .ok (.iconst (-1), 1) := by decide +kernel
theorem nd_D_go_29 : decode nc_D_go 29 = .ok (.putfield 20, 3) := by decide +kernel
theorem nd_D_go_32 : decode nc_D_go 32 = .ok (.aload_n 0, 1) := by decide +kernel
theorem nd_D_go_33 : decode nc_D_go 33 = .ok (.iconst 0, 1) := by decide +kernel
theorem nd_D_go_34 : decode nc_D_go 34 = .ok (.putfield 54, 3) := by decide +kernel
theorem nd_D_go_37 : decode nc_D_go 37 = .ok (.iload_n 2, 1) := by decide +kernel
theorem nd_D_go_38 : decode nc_D_go 38 = .ok (.ireturn, 1) := by decide +kernel
theorem nd_D_status_0 : decode nc_D_status 0 = .ok (.aload_n 0, 1) := by decide +kernel
theorem nd_D_status_1 : decode nc_D_status 1 = .ok (.iconst 0, 1) := by decide +kernel
theorem nd_D_status_2 : decode nc_D_status 2 = .ok (.putfield 23, 3) := by decide +kernel
theorem nd_D_status_5 : decode nc_D_status 5 = .ok (.aload_n 0, 1) := by decide +kernel
theorem nd_D_status_6 : decode nc_D_status 6 = .ok (.getfield 29, 3) := by decide +kernel
theorem nd_D_status_9 : decode nc_D_status 9 = .ok (.istore_n 2, 1) := by decide +kernel
theorem nd_D_status_10 : decode nc_D_status 10 = .ok (.aload_n 0, 1) := by decide +kernel
theorem nd_D_status_11 : decode nc_D_status 11 = .ok (.iload_n 1, 1) := by decide +kernel
theorem nd_D_status_12 : decode nc_D_status 12 = .ok (.ldc 79, 2) := by decide +kernel
theorem nd_D_status_14 : decode nc_D_status 14 = .ok (.iand, 1) := by decide +kernel
theorem nd_D_status_15 : decode nc_D_status 15 = .ok (.putfield 29, 3) := by decide +kernel
theorem nd_D_status_18 : decode nc_D_status 18 = .ok (.iload_n 2, 1) := by decide +kernel
theorem nd_D_status_19 : decode nc_D_status 19 = .ok (.ireturn, 1) := by decide +kernel
theorem nd_D_lines_0 : decode nc_D_lines 0 = .ok (.aload_n 0, 1) := by decide +kernel
theorem nd_D_lines_1 : decode nc_D_lines 1 = .ok (.iload_n 1, 1) := by decide +kernel
theorem nd_D_lines_2 : decode nc_D_lines 2 = .ok (.ifCond .lt 13, 3) := by decide +kernel
theorem nd_D_lines_5 : decode nc_D_lines 5 = .ok (.iload_n 1, 1) := by decide +kernel
theorem nd_D_lines_6 : decode nc_D_lines 6 = .ok (.bipush 63, 2) := by decide +kernel
theorem nd_D_lines_8 : decode nc_D_lines 8 = .ok (.if_icmp .gt 7, 3) := by decide +kernel
theorem nd_D_lines_11 : decode nc_D_lines 11 = .ok (.iconst 1, 1) := by decide +kernel
theorem nd_D_lines_12 : decode nc_D_lines 12 = .ok (.goto 4, 3) := by decide +kernel
theorem nd_D_lines_15 : decode nc_D_lines 15 = .ok (.iconst 0, 1) := by decide +kernel
theorem nd_D_lines_16 : decode nc_D_lines 16 = .ok (.invokevirtual 67, 3) := by decide +kernel
theorem nd_D_lines_19 : decode nc_D_lines 19 = .ok (.ifCond .ne 5, 3) := by decide +kernel
theorem nd_D_lines_22 : decode nc_D_lines 22 = .ok (.iconst 0, 1) := by decide +kernel
theorem nd_D_lines_23 : decode nc_D_lines 23 = .ok (.ireturn, 1) := by decide +kernel
theorem nd_D_lines_24 : decode nc_D_lines 24 = .ok (.aload_n 0, 1) := by decide +kernel
theorem nd_D_lines_25 : decode nc_D_lines 25 = .ok (.getfield 38, 3) := by decide +kernel
theorem nd_D_lines_28 : decode nc_D_lines 28 = .ok (.istore_n 2, 1) := by decide +kernel
theorem nd_D_lines_29 : decode nc_D_lines 29 = .ok (.aload_n 0, 1) := by decide +kernel
theorem nd_D_lines_30 : decode nc_D_lines 30 = .ok (.iload_n 1, 1) := by decide +kernel
theorem nd_D_lines_31 : decode nc_D_lines 31 = .ok (.putfield 38, 3) := by decide +kernel
theorem nd_D_lines_34 : decode nc_D_lines 34 = .ok (.iload_n 2, 1) := by decide +kernel
theorem nd_D_lines_35 : decode nc_D_lines 35 = .ok (.ireturn, 1) := by decide +kernel
theorem nd_D_cause_0 : decode nc_D_cause 0 = .ok (.aload_n 0, 1) := by decide +kernel
theorem nd_D_cause_1 : decode nc_D_cause 1 = .ok (.getfield 32, 3) := by decide +kernel
theorem nd_D_cause_4 : decode nc_D_cause 4 = .ok (.iconst 2, 1) := by decide +kernel
theorem nd_D_cause_5 : decode nc_D_cause 5 = .ok (.ishl, 1) := by decide +kernel
theorem nd_D_cause_6 : decode nc_D_cause 6 = .ok (.aload_n 0, 1) := by decide +kernel
theorem nd_D_cause_7 : decode nc_D_cause 7 = .ok (.getfield 35, 3) := by decide +kernel
theorem nd_D_cause_10 : decode nc_D_cause 10 = .ok (.bipush 8, 2) := by decide +kernel
theorem nd_D_cause_12 : decode nc_D_cause 12 = .ok (.ishl, 1) := by decide +kernel
theorem nd_D_cause_13 : decode nc_D_cause 13 = .ok (.ior, 1) := by decide +kernel
theorem nd_D_cause_14 : decode nc_D_cause 14 = .ok (.aload_n 0, 1) := by decide +kernel
theorem nd_D_cause_15 : decode nc_D_cause 15 = .ok (.getfield 38, 3) := by decide +kernel
theorem nd_D_cause_18 : decode nc_D_cause 18 = .ok (.bipush 10, 2) := by decide +kernel
theorem nd_D_cause_20 : decode nc_D_cause 20 = .ok (.ishl, 1) := by decide +kernel
theorem nd_D_cause_21 : decode nc_D_cause 21 = .ok (.ior, 1) := by decide +kernel
theorem nd_D_cause_22 : decode nc_D_cause 22 = .ok (.aload_n 0, 1) := by decide +kernel
theorem nd_D_cause_23 : decode nc_D_cause 23 = .ok (.getfield 41, 3) := by decide +kernel
theorem nd_D_cause_26 : decode nc_D_cause 26 = .ok (.ifCond .eq 8, 3) := by decide +kernel
theorem nd_D_cause_29 : decode nc_D_cause 29 = .ok (.ldc 80, 2) := by decide +kernel
theorem nd_D_cause_31 : decode nc_D_cause 31 = .ok (.goto 4, 3) := by decide +kernel
theorem nd_D_cause_34 : decode nc_D_cause 34 = .ok (.iconst 0, 1) := by decide +kernel
theorem nd_D_cause_35 : decode nc_D_cause 35 = .ok (.ior, 1) := by decide +kernel
theorem nd_D_cause_36 : decode nc_D_cause 36 = .ok (.ireturn, 1) := by decide +kernel
theorem nd_D_user_0 : decode nc_D_user 0 = .ok (.aload_n 0, 1) := by decide +kernel
theorem nd_D_user_1 : decode nc_D_user 1 = .ok (.getfield 29, 3) := by decide +kernel
theorem nd_D_user_4 : decode nc_D_user 4 = .ok (.iconst 1, 1) := by decide +kernel
theorem nd_D_user_5 : decode nc_D_user 5 = .ok (.ishr, 1) := by decide +kernel
theorem nd_D_user_6 : decode nc_D_user 6 = .ok (.iconst 1, 1) := by decide +kernel
theorem nd_D_user_7 : decode nc_D_user 7 = .ok (.iand, 1) := by decide +kernel
theorem nd_D_user_8 : decode nc_D_user 8 = .ok (.iconst 1, 1) := by decide +kernel
theorem nd_D_user_9 : decode nc_D_user 9 = .ok (.if_icmp .ne 7, 3) := by decide +kernel
theorem nd_D_user_12 : decode nc_D_user 12 = .ok (.iconst 1, 1) := by decide +kernel
theorem nd_D_user_13 : decode nc_D_user 13 = .ok (.goto 4, 3) := by decide +kernel
theorem nd_D_user_16 : decode nc_D_user 16 = .ok (.iconst 0, 1) := by decide +kernel
theorem nd_D_user_17 : decode nc_D_user 17 = .ok (.ireturn, 1) := by decide +kernel
theorem nd_D_isBranch_0 : decode nc_D_isBranch 0 = .ok (.aload_n 0, 1) := by decide +kernel
theorem nd_D_isBranch_1 : decode nc_D_isBranch 1 = .ok (.getfield 81, 3) := by decide +kernel
theorem nd_D_isBranch_4 : decode nc_D_isBranch 4 = .ok (.bipush 16, 2) := by decide +kernel
theorem nd_D_isBranch_6 : decode nc_D_isBranch 6 = .ok (.ishr, 1) := by decide +kernel
theorem nd_D_isBranch_7 : decode nc_D_isBranch 7 = .ok (.bipush 31, 2) := by decide +kernel
theorem nd_D_isBranch_9 : decode nc_D_isBranch 9 = .ok (.iand, 1) := by decide +kernel
theorem nd_D_isBranch_10 : decode nc_D_isBranch 10 = .ok (.istore_n 1, 1) := by decide +kernel
theorem nd_D_isBranch_11 : decode nc_D_isBranch 11 = .ok (.aload_n 0, 1) := by decide +kernel
theorem nd_D_isBranch_12 : decode nc_D_isBranch 12 = .ok (.getfield 84, 3) := by decide +kernel
theorem nd_D_isBranch_15 : decode nc_D_isBranch 15 = .ok (.ifCond .ne 21, 3) := by decide +kernel
theorem nd_D_isBranch_18 : decode nc_D_isBranch 18 = .ok (.aload_n 0, 1) := by decide +kernel
theorem nd_D_isBranch_19 : decode nc_D_isBranch 19 = .ok (.getfield 87, 3) := by decide +kernel
theorem nd_D_isBranch_22 : decode nc_D_isBranch 22 = .ok (.bipush 8, 2) := by decide +kernel
theorem nd_D_isBranch_24 : decode nc_D_isBranch 24 = .ok (.if_icmp .eq 54, 3) := by decide +kernel
theorem nd_D_isBranch_27 : decode nc_D_isBranch 27 = .ok (.aload_n 0, 1) := by decide +kernel
theorem nd_D_isBranch_28 : decode nc_D_isBranch 28 = .ok (.getfield 87, 3) := by decide +kernel
theorem nd_D_isBranch_31 : decode nc_D_isBranch 31 = .ok (.bipush 9, 2) := by decide +kernel
theorem nd_D_isBranch_33 : decode nc_D_isBranch 33 = .ok (.if_icmp .eq 45, 3) := by decide +kernel
theorem nd_D_isBranch_36 : decode nc_D_isBranch 36 = .ok (.aload_n 0, 1) := by decide +kernel
theorem nd_D_isBranch_37 : decode nc_D_isBranch 37 = .ok (.getfield 84, 3) := by decide +kernel
theorem nd_D_isBranch_40 : decode nc_D_isBranch 40 = .ok (.iconst 1, 1) := by decide +kernel
theorem nd_D_isBranch_41 : decode nc_D_isBranch 41 = .ok (.if_icmp .ne 20, 3) := by decide +kernel
theorem nd_D_isBranch_44 : decode nc_D_isBranch 44 = .ok (.iload_n 1, 1) := by decide +kernel
theorem nd_D_isBranch_45 : decode nc_D_isBranch 45 = .ok (.iconst 2, 1) := by decide +kernel
theorem nd_D_isBranch_46 : decode nc_D_isBranch 46 = .ok (.if_icmp .lt 32, 3) := by decide +kernel
theorem nd_D_isBranch_49 : decode nc_D_isBranch 49 = .ok (.iload_n 1, 1) := by decide +kernel
theorem nd_D_isBranch_50 : decode nc_D_isBranch 50 = .ok (.bipush 16, 2) := by decide +kernel
theorem nd_D_isBranch_52 : decode nc_D_isBranch 52 = .ok (.if_icmp .eq 26, 3) := by decide +kernel
theorem nd_D_isBranch_55 : decode nc_D_isBranch 55 = .ok (.iload_n 1, 1) := by decide +kernel
theorem nd_D_isBranch_56 : decode nc_D_isBranch 56 = .ok (.bipush 17, 2) := by decide +kernel
theorem nd_D_isBranch_58 : decode nc_D_isBranch 58 = .ok (.if_icmp .eq 20, 3) := by decide +kernel
theorem nd_D_isBranch_61 : decode nc_D_isBranch 61 = .ok (.aload_n 0, 1) := by decide +kernel
theorem nd_D_isBranch_62 : decode nc_D_isBranch 62 = .ok (.getfield 84, 3) := by decide +kernel
theorem nd_D_isBranch_65 : decode nc_D_isBranch 65 = .ok (.iconst 2, 1) := by decide +kernel
theorem nd_D_isBranch_66 : decode nc_D_isBranch 66 = .ok (.if_icmp .lt 16, 3) := by decide +kernel
theorem nd_D_isBranch_69 : decode nc_D_isBranch 69 = .ok (.aload_n 0, 1) := by decide +kernel
theorem nd_D_isBranch_70 : decode nc_D_isBranch 70 = .ok (.getfield 84, 3) := by decide +kernel
theorem nd_D_isBranch_73 : decode nc_D_isBranch 73 = .ok (.bipush 7, 2) := by decide +kernel
theorem nd_D_isBranch_75 : decode nc_D_isBranch 75 = .ok (.if_icmp .gt 7, 3) := by decide +kernel
theorem nd_D_isBranch_78 : decode nc_D_isBranch 78 = .ok (.iconst 1, 1) := by decide +kernel
theorem nd_D_isBranch_79 : decode nc_D_isBranch 79 = .ok (.goto 4, 3) := by decide +kernel
theorem nd_D_isBranch_82 : decode nc_D_isBranch 82 = .ok (.iconst 0, 1) := by decide +kernel
theorem nd_D_isBranch_83 : decode nc_D_isBranch 83 = .ok (.ireturn, 1) := by decide +kernel
theorem nd_D_isKnown_0 : decode nc_D_isKnown 0 = .ok (.aload_n 0, 1) := by decide +kernel
theorem nd_D_isKnown_1 : decode nc_D_isKnown 1 = .ok (.getfield 84, 3) := by decide +kernel
theorem nd_D_isKnown_4 : decode nc_D_isKnown 4 = .ok (.ifCond .ne 152, 3) := by decide +kernel
theorem nd_D_isKnown_7 : decode nc_D_isKnown 7 = .ok (.aload_n 0, 1) := by decide +kernel
theorem nd_D_isKnown_8 : decode nc_D_isKnown 8 = .ok (.getfield 87, 3) := by decide +kernel
theorem nd_D_isKnown_11 : decode nc_D_isKnown 11 = .ok (.bipush 7, 2) := by decide +kernel
theorem nd_D_isKnown_13 : decode nc_D_isKnown 13 = .ok (.if_icmp .gt 23, 3) := by decide +kernel
theorem nd_D_isKnown_16 : decode nc_D_isKnown 16 = .ok (.aload_n 0, 1) := by decide +kernel
theorem nd_D_isKnown_17 : decode nc_D_isKnown 17 = .ok (.getfield 87, 3) := by decide +kernel
theorem nd_D_isKnown_20 : decode nc_D_isKnown 20 = .ok (.iconst 1, 1) := by decide +kernel
theorem nd_D_isKnown_21 : decode nc_D_isKnown 21 = .ok (.if_icmp .eq 15, 3) := by decide +kernel
theorem nd_D_isKnown_24 : decode nc_D_isKnown 24 = .ok (.aload_n 0, 1) := by decide +kernel
theorem nd_D_isKnown_25 : decode nc_D_isKnown 25 = .ok (.getfield 87, 3) := by decide +kernel
theorem nd_D_isKnown_28 : decode nc_D_isKnown 28 = .ok (.iconst 5, 1) := by decide +kernel
theorem nd_D_isKnown_29 : decode nc_D_isKnown 29 = .ok (.if_icmp .eq 7, 3) := by decide +kernel
theorem nd_D_isKnown_32 : decode nc_D_isKnown 32 = .ok (.iconst 1, 1) := by decide +kernel
theorem nd_D_isKnown_33 : decode nc_D_isKnown 33 = .ok (.goto 4, 3) := by decide +kernel
theorem nd_D_isKnown_36 : decode nc_D_isKnown 36 = .ok (.iconst 0, 1) := by decide +kernel
theorem nd_D_isKnown_37 : decode nc_D_isKnown 37 = .ok (.istore_n 1, 1) := by decide +kernel
theorem nd_D_isKnown_38 : decode nc_D_isKnown 38 = .ok (.iload_n 1, 1) := by decide +kernel
theorem nd_D_isKnown_39 : decode nc_D_isKnown 39 = .ok (.ifCond .ne 111, 3) := by decide +kernel
theorem nd_D_isKnown_42 : decode nc_D_isKnown 42 = .ok (.aload_n 0, 1) := by decide +kernel
theorem nd_D_isKnown_43 : decode nc_D_isKnown 43 = .ok (.getfield 87, 3) := by decide +kernel
theorem nd_D_isKnown_46 : decode nc_D_isKnown 46 = .ok (.bipush 8, 2) := by decide +kernel
theorem nd_D_isKnown_48 : decode nc_D_isKnown 48 = .ok (.if_icmp .eq 102, 3) := by decide +kernel
theorem nd_D_isKnown_51 : decode nc_D_isKnown 51 = .ok (.aload_n 0, 1) := by decide +kernel
theorem nd_D_isKnown_52 : decode nc_D_isKnown 52 = .ok (.getfield 87, 3) := by decide +kernel
theorem nd_D_isKnown_55 : decode nc_D_isKnown 55 = .ok (.bipush 9, 2) := by decide +kernel
theorem nd_D_isKnown_57 : decode nc_D_isKnown 57 = .ok (.if_icmp .eq 93, 3) := by decide +kernel
theorem nd_D_isKnown_60 : decode nc_D_isKnown 60 = .ok (.aload_n 0, 1) := by decide +kernel
theorem nd_D_isKnown_61 : decode nc_D_isKnown 61 = .ok (.getfield 87, 3) := by decide +kernel
theorem nd_D_isKnown_64 : decode nc_D_isKnown 64 = .ok (.bipush 12, 2) := by decide +kernel
theorem nd_D_isKnown_66 : decode nc_D_isKnown 66 = .ok (.if_icmp .eq 84, 3) := by decide +kernel
theorem nd_D_isKnown_69 : decode nc_D_isKnown 69 = .ok (.aload_n 0, 1) := by decide +kernel
theorem nd_D_isKnown_70 : decode nc_D_isKnown 70 = .ok (.getfield 87, 3) := by decide +kernel
theorem nd_D_isKnown_73 : decode nc_D_isKnown 73 = .ok (.bipush 13, 2) := by decide +kernel
theorem nd_D_isKnown_75 : decode nc_D_isKnown 75 = .ok (.if_icmp .eq 75, 3) := by decide +kernel
theorem nd_D_isKnown_78 : decode nc_D_isKnown 78 = .ok (.aload_n 0, 1) := by decide +kernel
theorem nd_D_isKnown_79 : decode nc_D_isKnown 79 = .ok (.getfield 87, 3) := by decide +kernel
theorem nd_D_isKnown_82 : decode nc_D_isKnown 82 = .ok (.bipush 16, 2) := by decide +kernel
theorem nd_D_isKnown_84 : decode nc_D_isKnown 84 = .ok (.if_icmp .lt 12, 3) := by decide +kernel
theorem nd_D_isKnown_87 : decode nc_D_isKnown 87 = .ok (.aload_n 0, 1) := by decide +kernel
theorem nd_D_isKnown_88 : decode nc_D_isKnown 88 = .ok (.getfield 87, 3) := by decide +kernel
theorem nd_D_isKnown_91 : decode nc_D_isKnown 91 = .ok (.bipush 19, 2) := by decide +kernel
theorem nd_D_isKnown_93 : decode nc_D_isKnown 93 = .ok (.if_icmp .le 57, 3) := by decide +kernel
theorem nd_D_isKnown_96 : decode nc_D_isKnown 96 = .ok (.aload_n 0, 1) := by decide +kernel
theorem nd_D_isKnown_97 : decode nc_D_isKnown 97 = .ok (.getfield 87, 3) := by decide +kernel
theorem nd_D_isKnown_100 : decode nc_D_isKnown 100 = .ok (.bipush 24, 2) := by decide +kernel
theorem nd_D_isKnown_102 : decode nc_D_isKnown 102 = .ok (.if_icmp .lt 12, 3) := by decide +kernel
theorem nd_D_isKnown_105 : decode nc_D_isKnown 105 = .ok (.aload_n 0, 1) := by decide +kernel
theorem nd_D_isKnown_106 : decode nc_D_isKnown 106 = .ok (.getfield 87, 3) := by decide +kernel
theorem nd_D_isKnown_109 : decode nc_D_isKnown 109 = .ok (.bipush 27, 2) := by decide +kernel
theorem nd_D_isKnown_111 : decode nc_D_isKnown 111 = .ok (.if_icmp .le 39, 3) := by decide +kernel
theorem nd_D_isKnown_114 : decode nc_D_isKnown 114 = .ok (.aload_n 0, 1) := by decide +kernel
theorem nd_D_isKnown_115 : decode nc_D_isKnown 115 = .ok (.getfield 87, 3) := by decide +kernel
theorem nd_D_isKnown_118 : decode nc_D_isKnown 118 = .ok (.bipush 32, 2) := by decide +kernel
theorem nd_D_isKnown_120 : decode nc_D_isKnown 120 = .ok (.if_icmp .lt 12, 3) := by decide +kernel
theorem nd_D_isKnown_123 : decode nc_D_isKnown 123 = .ok (.aload_n 0, 1) := by decide +kernel
theorem nd_D_isKnown_124 : decode nc_D_isKnown 124 = .ok (.getfield 87, 3) := by decide +kernel
theorem nd_D_isKnown_127 : decode nc_D_isKnown 127 = .ok (.bipush 39, 2) := by decide +kernel
theorem nd_D_isKnown_129 : decode nc_D_isKnown 129 = .ok (.if_icmp .le 21, 3) := by decide +kernel
theorem nd_D_isKnown_132 : decode nc_D_isKnown 132 = .ok (.aload_n 0, 1) := by decide +kernel
theorem nd_D_isKnown_133 : decode nc_D_isKnown 133 = .ok (.getfield 87, 3) := by decide +kernel
theorem nd_D_isKnown_136 : decode nc_D_isKnown 136 = .ok (.bipush 42, 2) := by decide +kernel
theorem nd_D_isKnown_138 : decode nc_D_isKnown 138 = .ok (.if_icmp .eq 12, 3) := by decide +kernel
theorem nd_D_isKnown_141 : decode nc_D_isKnown 141 = .ok (.aload_n 0, 1) := by decide +kernel
theorem nd_D_isKnown_142 : decode nc_D_isKnown 142 = .ok (.getfield 87, 3) := by decide +kernel
theorem nd_D_isKnown_145 : decode nc_D_isKnown 145 = .ok (.bipush 43, 2) := by decide +kernel
theorem nd_D_isKnown_147 : decode nc_D_isKnown 147 = .ok (.if_icmp .ne 7, 3) := by decide +kernel
theorem nd_D_isKnown_150 : decode nc_D_isKnown 150 = .ok (.iconst 1, 1) := by decide +kernel
theorem nd_D_isKnown_151 : decode nc_D_isKnown 151 = .ok (.goto 4, 3) := by decide +kernel
theorem nd_D_isKnown_154 : decode nc_D_isKnown 154 = .ok (.iconst 0, 1) := by decide +kernel
theorem nd_D_isKnown_155 : decode nc_D_isKnown 155 = .ok (.ireturn, 1) := by decide +kernel
theorem nd_D_isKnown_156 : decode nc_D_isKnown 156 = .ok (.aload_n 0, 1) := by decide +kernel
theorem nd_D_isKnown_157 : decode nc_D_isKnown 157 = .ok (.getfield 81, 3) := by decide +kernel
theorem nd_D_isKnown_160 : decode nc_D_isKnown 160 = .ok (.bipush 21, 2) := by decide +kernel
theorem nd_D_isKnown_162 : decode nc_D_isKnown 162 = .ok (.ishr, 1) := by decide +kernel
theorem nd_D_isKnown_163 : decode nc_D_isKnown 163 = .ok (.bipush 31, 2) := by decide +kernel
theorem nd_D_isKnown_165 : decode nc_D_isKnown 165 = .ok (.iand, 1) := by decide +kernel
theorem nd_D_isKnown_166 : decode nc_D_isKnown 166 = .ok (.istore_n 1, 1) := by decide +kernel
theorem nd_D_isKnown_167 : decode nc_D_isKnown 167 = .ok (.aload_n 0, 1) := by decide +kernel
theorem nd_D_isKnown_168 : decode nc_D_isKnown 168 = .ok (.getfield 84, 3) := by decide +kernel
theorem nd_D_isKnown_171 : decode nc_D_isKnown 171 = .ok (.iconst 1, 1) := by decide +kernel
theorem nd_D_isKnown_172 : decode nc_D_isKnown 172 = .ok (.if_icmp .ne 10, 3) := by decide +kernel
theorem nd_D_isKnown_175 : decode nc_D_isKnown 175 = .ok (.aload_n 0, 1) := by decide +kernel
theorem nd_D_isKnown_176 : decode nc_D_isKnown 176 = .ok (.invokevirtual 90, 3) := by decide +kernel
theorem nd_D_isKnown_179 : decode nc_D_isKnown 179 = .ok (.ifCond .ne 98, 3) := by decide +kernel
theorem nd_D_isKnown_182 : decode nc_D_isKnown 182 = .ok (.aload_n 0, 1) := by decide +kernel
theorem nd_D_isKnown_183 : decode nc_D_isKnown 183 = .ok (.getfield 84, 3) := by decide +kernel
