theorem nd_S_performStore_2 : decode nc_S_performStore 2 = .ok (.invokevirtual 299, 3) := by decide +kernel
theorem nd_S_performStore_5 : decode nc_S_performStore 5 = .ok (.istore_n 2, 1) := by decide +kernel
theorem nd_S_performStore_6 : decode nc_S_performStore 6 = .ok (.aload_n 0, 1) := by decide +kernel
theorem nd_S_performStore_7 : decode nc_S_performStore 7 = .ok (.iload_n 2, 1) := by decide +kernel
theorem nd_S_performStore_8 : decode nc_S_performStore 8 = .ok (.iload_n 1, 1) := by decide +kernel
theorem nd_S_performStore_9 : decode nc_S_performStore 9 = .ok (.invokestatic 169, 3) := by decide +kernel
theorem nd_S_performStore_12 : decode nc_S_performStore 12 = .ok (.invokestatic 325, 3) := by decide +kernel
theorem nd_S_performStore_15 : decode nc_S_performStore 15 = .ok (.iconst 5, 1) := by decide +kernel
theorem nd_S_performStore_16 : decode nc_S_performStore 16 = .ok (.invokevirtual 305, 3) := by decide +kernel
theorem nd_S_performStore_19 : decode nc_S_performStore 19 = .ok (.istore_n 3, 1) := by decide +kernel
theorem nd_S_performStore_20 : decode nc_S_performStore 20 = .ok (.iload_n 3, 1) := by decide +kernel
theorem nd_S_performStore_21 : decode nc_S_performStore 21 = .ok (.iconst (-1), 1) := by decide +kernel
theorem nd_S_performStore_22 : decode nc_S_performStore 22 = .ok (.if_icmp .eq 5, 3) := by decide +kernel
theorem nd_S_performStore_25 : decode nc_S_performStore 25 = .ok (.iload_n 3, 1) := by decide +kernel
theorem nd_S_performStore_26 : decode nc_S_performStore 26 = .ok (.ireturn, 1) := by decide +kernel
theorem nd_S_performStore_27 : decode nc_S_performStore 27 = .ok (.iload_n 2, 1) := by decide +kernel
theorem nd_S_performStore_28 : decode nc_S_performStore 28 = .ok (.ldc 128, 2) := by decide +kernel
theorem nd_S_performStore_30 : decode nc_S_performStore 30 = .ok (.iand, 1) := by decide +kernel
theorem nd_S_performStore_31 : decode nc_S_performStore 31 = .ok (.istore 4, 2) := by decide +kernel
theorem nd_S_performStore_33 : decode nc_S_performStore 33 = .ok (.aload_n 0, 1) := by decide +kernel
theorem nd_S_performStore_34 : decode nc_S_performStore 34 = .ok (.getfield 12, 3) := by decide +kernel
theorem nd_S_performStore_37 : decode nc_S_performStore 37 = .ok (.iload 4, 2) := by decide +kernel
theorem nd_S_performStore_39 : decode nc_S_performStore 39 = .ok (.invokevirtual 62, 3) := by decide +kernel
theorem nd_S_performStore_42 : decode nc_S_performStore 42 = .ok (.istore 5, 2) := by decide +kernel
theorem nd_S_performStore_44 : decode nc_S_performStore 44 = .ok (.aload_n 0, 1) := by decide +kernel
theorem nd_S_performStore_45 : decode nc_S_performStore 45 = .ok (.getfield 12, 3) := by decide +kernel
theorem nd_S_performStore_48 : decode nc_S_performStore 48 = .ok (.iload 4, 2) := by decide +kernel
theorem nd_S_performStore_50 : decode nc_S_performStore 50 = .ok (.iload_n 1, 1) := by decide +kernel
theorem nd_S_performStore_51 : decode nc_S_performStore 51 = .ok (.invokestatic 169, 3) := by decide +kernel
theorem nd_S_performStore_54 : decode nc_S_performStore 54 = .ok (.iload 5, 2) := by decide +kernel
theorem nd_S_performStore_56 : decode nc_S_performStore 56 = .ok (.aload_n 0, 1) := by decide +kernel
theorem nd_S_performStore_57 : decode nc_S_performStore 57 = .ok (.iload_n 1, 1) := by decide +kernel
theorem nd_S_performStore_58 : decode nc_S_performStore 58 = .ok (.invokevirtual 227, 3) := by decide +kernel
theorem nd_S_performStore_61 : decode nc_S_performStore 61 = .ok (.iload_n 2, 1) := by decide +kernel
theorem nd_S_performStore_62 : decode nc_S_performStore 62 = .ok (.invokestatic 328, 3) := by decide +kernel
theorem nd_S_performStore_65 : decode nc_S_performStore 65 = .ok (.invokevirtual 66, 3) := by decide +kernel
theorem nd_S_performStore_68 : decode nc_S_performStore 68 = .ok (.iconst (-1), 1) := by decide +kernel
theorem nd_S_performStore_69 : decode nc_S_performStore 69 = .ok (.ireturn, 1) := by decide +kernel
theorem nd_S_joinStored_0 : decode nc_S_joinStored 0 = .ok (.iload_n 3, 1) := by decide +kernel
theorem nd_S_joinStored_1 : decode nc_S_joinStored 1 = .ok (.iconst 1, 1) := by decide +kernel
theorem nd_S_joinStored_2 : decode nc_S_joinStored 2 = .ok (.invokestatic 316, 3) := by decide +kernel
theorem nd_S_joinStored_5 : decode nc_S_joinStored 5 = .ok (.istore 4, 2) := by decide +kernel
theorem nd_S_joinStored_7 : decode nc_S_joinStored 7 = .ok (.iload_n 3, 1) := by decide +kernel
theorem nd_S_joinStored_8 : decode nc_S_joinStored 8 = .ok (.iconst 2, 1) := by decide +kernel
theorem nd_S_joinStored_9 : decode nc_S_joinStored 9 = .ok (.invokestatic 316, 3) := by decide +kernel
theorem nd_S_joinStored_12 : decode nc_S_joinStored 12 = .ok (.istore 5, 2) := by decide +kernel
theorem nd_S_joinStored_14 : decode nc_S_joinStored 14 = .ok (.iload_n 3, 1) := by decide +kernel
theorem nd_S_joinStored_15 : decode nc_S_joinStored 15 = .ok (.invokestatic 319, 3) := by decide +kernel
theorem nd_S_joinStored_18 : decode nc_S_joinStored 18 = .ok (.istore 6, 2) := by decide +kernel
theorem nd_S_joinStored_20 : decode nc_S_joinStored 20 = .ok (.iload_n 0, 1) := by decide +kernel
theorem nd_S_joinStored_21 : decode nc_S_joinStored 21 = .ok (.tableswitch 75 40 43 #[31, 46, 60, 73], 31) := by decide +kernel
theorem nd_S_joinStored_52 : decode nc_S_joinStored 52 = .ok (.iload_n 1, 1) := by decide +kernel
theorem nd_S_joinStored_53 : decode nc_S_joinStored 53 = .ok (.iload_n 2, 1) := by decide +kernel
theorem nd_S_joinStored_54 : decode nc_S_joinStored 54 = .ok (.iload 4, 2) := by decide +kernel
theorem nd_S_joinStored_56 : decode nc_S_joinStored 56 = .ok (.ishl, 1) := by decide +kernel
theorem nd_S_joinStored_57 : decode nc_S_joinStored 57 = .ok (.sipush 255, 3) := by decide +kernel
theorem nd_S_joinStored_60 : decode nc_S_joinStored 60 = .ok (.iload 4, 2) := by decide +kernel
theorem nd_S_joinStored_62 : decode nc_S_joinStored 62 = .ok (.ishl, 1) := by decide +kernel
theorem nd_S_joinStored_63 : decode nc_S_joinStored 63 = .ok (.invokestatic 322, 3) := by decide +kernel
theorem nd_S_joinStored_66 : decode nc_S_joinStored 66 = .ok (.ireturn, 1) := by decide +kernel
theorem nd_S_joinStored_67 : decode nc_S_joinStored 67 = .ok (.iload_n 1, 1) := by decide +kernel
theorem nd_S_joinStored_68 : decode nc_S_joinStored 68 = .ok (.iload_n 2, 1) := by decide +kernel
theorem nd_S_joinStored_69 : decode nc_S_joinStored 69 = .ok (.iload 5, 2) := by decide +kernel
theorem nd_S_joinStored_71 : decode nc_S_joinStored 71 = .ok (.ishl, 1) := by decide +kernel
theorem nd_S_joinStored_72 : decode nc_S_joinStored 72 = .ok (.ldc 196, 2) := by decide +kernel
theorem nd_S_joinStored_74 : decode nc_S_joinStored 74 = .ok (.iload 5, 2) := by decide +kernel
theorem nd_S_joinStored_76 : decode nc_S_joinStored 76 = .ok (.ishl, 1) := by decide +kernel
theorem nd_S_joinStored_77 : decode nc_S_joinStored 77 = .ok (.invokestatic 322, 3) := by decide +kernel
theorem nd_S_joinStored_80 : decode nc_S_joinStored 80 = .ok (.ireturn, 1) := by decide +kernel
theorem nd_S_joinStored_81 : decode nc_S_joinStored 81 = .ok (.iload_n 1, 1) := by decide +kernel
theorem nd_S_joinStored_82 : decode nc_S_joinStored 82 = .ok (.iload_n 2, 1) := by decide +kernel
theorem nd_S_joinStored_83 : decode nc_S_joinStored 83 = .ok (.iload 6, 2) := by decide +kernel
theorem nd_S_joinStored_85 : decode nc_S_joinStored 85 = .ok (.iushr, 1) := by decide +kernel
theorem nd_S_joinStored_86 : decode nc_S_joinStored 86 = .ok (.iconst (-1), 1) := by decide +kernel
theorem nd_S_joinStored_87 : decode nc_S_joinStored 87 = .ok (.iload 6, 2) := by decide +kernel
theorem nd_S_joinStored_89 : decode nc_S_joinStored 89 = .ok (.iushr, 1) := by decide +kernel
theorem nd_S_joinStored_90 : decode nc_S_joinStored 90 = .ok (.invokestatic 322, 3) := by decide +kernel
theorem nd_S_joinStored_93 : decode nc_S_joinStored 93 = .ok (.ireturn, 1) := by decide +kernel
theorem nd_S_joinStored_94 : decode nc_S_joinStored 94 = .ok (.iload_n 2, 1) := by decide +kernel
theorem nd_S_joinStored_95 : decode nc_S_joinStored 95 = .ok (.ireturn, 1) := by decide +kernel
theorem nd_S_joinStored_96 : decode nc_S_joinStored 96 = .ok (.iload_n 1, 1) := by decide +kernel
theorem nd_S_joinStored_97 : decode nc_S_joinStored 97 = .ok (.iload_n 2, 1) := by decide +kernel
theorem nd_S_joinStored_98 : decode nc_S_joinStored 98 = .ok (.iload 4, 2) := by decide +kernel
theorem nd_S_joinStored_100 : decode nc_S_joinStored 100 = .ok (.ishl, 1) := by decide +kernel
theorem nd_S_joinStored_101 : decode nc_S_joinStored 101 = .ok (.iconst (-1), 1) := by decide +kernel
theorem nd_S_joinStored_102 : decode nc_S_joinStored 102 = .ok (.iload 4, 2) := by decide +kernel
theorem nd_S_joinStored_104 : decode nc_S_joinStored 104 = .ok (.ishl, 1) := by decide +kernel
theorem nd_S_joinStored_105 : decode nc_S_joinStored 105 = .ok (.invokestatic 322, 3) := by decide +kernel
theorem nd_S_joinStored_108 : decode nc_S_joinStored 108 = .ok (.ireturn, 1) := by decide +kernel
theorem nd_S_addressOf_0 : decode nc_S_addressOf 0 = .ok (.aload_n 0, 1) := by decide +kernel
theorem nd_S_addressOf_1 : decode nc_S_addressOf 1 = .ok (.iload_n 1, 1) := by decide +kernel
theorem nd_S_addressOf_2 : decode nc_S_addressOf 2 = .ok (.invokevirtual 233, 3) := by decide +kernel
theorem nd_S_addressOf_5 : decode nc_S_addressOf 5 = .ok (.iload_n 1, 1) := by decide +kernel
theorem nd_S_addressOf_6 : decode nc_S_addressOf 6 = .ok (.invokestatic 281, 3) := by decide +kernel
theorem nd_S_addressOf_9 : decode nc_S_addressOf 9 = .ok (.iadd, 1) := by decide +kernel
theorem nd_S_addressOf_10 : decode nc_S_addressOf 10 = .ok (.ireturn, 1) := by decide +kernel
theorem nd_S_faultOfData_0 : decode nc_S_faultOfData 0 = .ok (.iload_n 1, 1) := by decide +kernel
theorem nd_S_faultOfData_1 : decode nc_S_faultOfData 1 = .ok (.iload_n 2, 1) := by decide +kernel
theorem nd_S_faultOfData_2 : decode nc_S_faultOfData 2 = .ok (.iconst 1, 1) := by decide +kernel
theorem nd_S_faultOfData_3 : decode nc_S_faultOfData 3 = .ok (.isub, 1) := by decide +kernel
theorem nd_S_faultOfData_4 : decode nc_S_faultOfData 4 = .ok (.iand, 1) := by decide +kernel
theorem nd_S_faultOfData_5 : decode nc_S_faultOfData 5 = .ok (.ifCond .ne 14, 3) := by decide +kernel
theorem nd_S_faultOfData_8 : decode nc_S_faultOfData 8 = .ok (.aload_n 0, 1) := by decide +kernel
theorem nd_S_faultOfData_9 : decode nc_S_faultOfData 9 = .ok (.getfield 26, 3) := by decide +kernel
theorem nd_S_faultOfData_12 : decode nc_S_faultOfData 12 = .ok (.iload_n 1, 1) := by decide +kernel
theorem nd_S_faultOfData_13 : decode nc_S_faultOfData 13 = .ok (.invokevirtual 161, 3) := by decide +kernel
theorem nd_S_faultOfData_16 : decode nc_S_faultOfData 16 = .ok (.ifCond .eq 13, 3) := by decide +kernel
theorem nd_S_faultOfData_19 : decode nc_S_faultOfData 19 = .ok (.aload_n 0, 1) := by decide +kernel
theorem nd_S_faultOfData_20 : decode nc_S_faultOfData 20 = .ok (.getfield 26, 3) := by decide +kernel
theorem nd_S_faultOfData_23 : decode nc_S_faultOfData 23 = .ok (.iload_n 1, 1) := by decide +kernel
theorem nd_S_faultOfData_24 : decode nc_S_faultOfData 24 = .ok (.putfield 102, 3) := by decide +kernel
theorem nd_S_faultOfData_27 : decode nc_S_faultOfData 27 = .ok (.iload_n 3, 1) := by decide +kernel
theorem nd_S_faultOfData_28 : decode nc_S_faultOfData 28 = .ok (.ireturn, 1) := by decide +kernel
theorem nd_S_faultOfData_29 : decode nc_S_faultOfData 29 = .ok (.iload_n 1, 1) := by decide +kernel
theorem nd_S_faultOfData_30 : decode nc_S_faultOfData 30 = .ok (.ldc 128, 2) := by decide +kernel
theorem nd_S_faultOfData_32 : decode nc_S_faultOfData 32 = .ok (.iand, 1) := by decide +kernel
theorem nd_S_faultOfData_33 : decode nc_S_faultOfData 33 = .ok (.invokestatic 115, 3) := by decide +kernel
theorem nd_S_faultOfData_36 : decode nc_S_faultOfData 36 = .ok (.ifCond .eq 7, 3) := by decide +kernel
theorem nd_S_faultOfData_39 : decode nc_S_faultOfData 39 = .ok (.iconst (-1), 1) := by decide +kernel
theorem nd_S_faultOfData_40 : decode nc_S_faultOfData 40 = .ok (.goto 5, 3) := by decide +kernel
theorem nd_S_faultOfData_43 : decode nc_S_faultOfData 43 = .ok (.bipush 7, 2) := by decide +kernel
theorem nd_S_faultOfData_45 : decode nc_S_faultOfData 45 = .ok (.ireturn, 1) := by decide +kernel
theorem nd_S_loadUnit_0 : decode nc_S_loadUnit 0 = .ok (.iload_n 0, 1) := by decide +kernel
theorem nd_S_loadUnit_1 : decode nc_S_loadUnit 1 = .ok (.bipush 35, 2) := by decide +kernel
theorem nd_S_loadUnit_3 : decode nc_S_loadUnit 3 = .ok (.if_icmp .ne 5, 3) := by decide +kernel
theorem nd_S_loadUnit_6 : decode nc_S_loadUnit 6 = .ok (.iconst 4, 1) := by decide +kernel
theorem nd_S_loadUnit_7 : decode nc_S_loadUnit 7 = .ok (.ireturn, 1) := by decide +kernel
theorem nd_S_loadUnit_8 : decode nc_S_loadUnit 8 = .ok (.iload_n 0, 1) := by decide +kernel
theorem nd_S_loadUnit_9 : decode nc_S_loadUnit 9 = .ok (.bipush 33, 2) := by decide +kernel
theorem nd_S_loadUnit_11 : decode nc_S_loadUnit 11 = .ok (.if_icmp .eq 9, 3) := by decide +kernel
theorem nd_S_loadUnit_14 : decode nc_S_loadUnit 14 = .ok (.iload_n 0, 1) := by decide +kernel
theorem nd_S_loadUnit_15 : decode nc_S_loadUnit 15 = .ok (.bipush 37, 2) := by decide +kernel
theorem nd_S_loadUnit_17 : decode nc_S_loadUnit 17 = .ok (.if_icmp .ne 7, 3) := by decide +kernel
theorem nd_S_loadUnit_20 : decode nc_S_loadUnit 20 = .ok (.iconst 2, 1) := by decide +kernel
theorem nd_S_loadUnit_21 : decode nc_S_loadUnit 21 = .ok (.goto 4, 3) := by decide +kernel
theorem nd_S_loadUnit_24 : decode nc_S_loadUnit 24 = .ok (.iconst 1, 1) := by decide +kernel
theorem nd_S_loadUnit_25 : decode nc_S_loadUnit 25 = .ok (.ireturn, 1) := by decide +kernel
theorem nd_S_storeUnit_0 : decode nc_S_storeUnit 0 = .ok (.iload_n 0, 1) := by decide +kernel
theorem nd_S_storeUnit_1 : decode nc_S_storeUnit 1 = .ok (.bipush 43, 2) := by decide +kernel
theorem nd_S_storeUnit_3 : decode nc_S_storeUnit 3 = .ok (.if_icmp .ne 5, 3) := by decide +kernel
theorem nd_S_storeUnit_6 : decode nc_S_storeUnit 6 = .ok (.iconst 4, 1) := by decide +kernel
theorem nd_S_storeUnit_7 : decode nc_S_storeUnit 7 = .ok (.ireturn, 1) := by decide +kernel
theorem nd_S_storeUnit_8 : decode nc_S_storeUnit 8 = .ok (.iload_n 0, 1) := by decide +kernel
theorem nd_S_storeUnit_9 : decode nc_S_storeUnit 9 = .ok (.bipush 41, 2) := by decide +kernel
theorem nd_S_storeUnit_11 : decode nc_S_storeUnit 11 = .ok (.if_icmp .ne 7, 3) := by decide +kernel
theorem nd_S_storeUnit_14 : decode nc_S_storeUnit 14 = .ok (.iconst 2, 1) := by decide +kernel
theorem nd_S_storeUnit_15 : decode nc_S_storeUnit 15 = .ok (.goto 4, 3) := by decide +kernel
theorem nd_S_storeUnit_18 : decode nc_S_storeUnit 18 = .ok (.iconst 1, 1) := by decide +kernel
theorem nd_S_storeUnit_19 : decode nc_S_storeUnit 19 = .ok (.ireturn, 1) := by decide +kernel
theorem nd_S_toLowest_0 : decode nc_S_toLowest 0 = .ok (.bipush 8, 2) := by decide +kernel
theorem nd_S_toLowest_2 : decode nc_S_toLowest 2 = .ok (.iconst 4, 1) := by decide +kernel
theorem nd_S_toLowest_3 : decode nc_S_toLowest 3 = .ok (.iload_n 1, 1) := by decide +kernel
theorem nd_S_toLowest_4 : decode nc_S_toLowest 4 = .ok (.isub, 1) := by decide +kernel
theorem nd_S_toLowest_5 : decode nc_S_toLowest 5 = .ok (.iload_n 0, 1) := by decide +kernel
theorem nd_S_toLowest_6 : decode nc_S_toLowest 6 = .ok (.iconst 3, 1) := by decide +kernel
theorem nd_S_toLowest_7 : decode nc_S_toLowest 7 = .ok (.iand, 1) := by decide +kernel
theorem nd_S_toLowest_8 : decode nc_S_toLowest 8 = .ok (.isub, 1) := by decide +kernel
theorem nd_S_toLowest_9 : decode nc_S_toLowest 9 = .ok (.imul, 1) := by decide +kernel
theorem nd_S_toLowest_10 : decode nc_S_toLowest 10 = .ok (.bipush 31, 2) := by decide +kernel
theorem nd_S_toLowest_12 : decode nc_S_toLowest 12 = .ok (.iand, 1) := by decide +kernel
theorem nd_S_toLowest_13 : decode nc_S_toLowest 13 = .ok (.ireturn, 1) := by decide +kernel
theorem nd_S_bitsAhead_0 : decode nc_S_bitsAhead 0 = .ok (.bipush 8, 2) := by decide +kernel
theorem nd_S_bitsAhead_2 : decode nc_S_bitsAhead 2 = .ok (.iload_n 0, 1) := by decide +kernel
theorem nd_S_bitsAhead_3 : decode nc_S_bitsAhead 3 = .ok (.iconst 3, 1) := by decide +kernel
theorem nd_S_bitsAhead_4 : decode nc_S_bitsAhead 4 = .ok (.iand, 1) := by decide +kernel
theorem nd_S_bitsAhead_5 : decode nc_S_bitsAhead 5 = .ok (.imul, 1) := by decide +kernel
theorem nd_S_bitsAhead_6 : decode nc_S_bitsAhead 6 = .ok (.ireturn, 1) := by decide +kernel
theorem nd_S_exchange_0 : decode nc_S_exchange 0 = .ok (.iload_n 0, 1) := by decide +kernel
theorem nd_S_exchange_1 : decode nc_S_exchange 1 = .ok (.iload_n 2, 1) := by decide +kernel
theorem nd_S_exchange_2 : decode nc_S_exchange 2 = .ok (.iconst (-1), 1) := by decide +kernel
theorem nd_S_exchange_3 : decode nc_S_exchange 3 = .ok (.ixor, 1) := by decide +kernel
theorem nd_S_exchange_4 : decode nc_S_exchange 4 = .ok (.iand, 1) := by decide +kernel
theorem nd_S_exchange_5 : decode nc_S_exchange 5 = .ok (.iload_n 1, 1) := by decide +kernel
theorem nd_S_exchange_6 : decode nc_S_exchange 6 = .ok (.iload_n 2, 1) := by decide +kernel
theorem nd_S_exchange_7 : decode nc_S_exchange 7 = .ok (.iand, 1) := by decide +kernel
theorem nd_S_exchange_8 : decode nc_S_exchange 8 = .ok (.ior, 1) := by decide +kernel
theorem nd_S_exchange_9 : decode nc_S_exchange 9 = .ok (.ireturn, 1) := by decide +kernel
theorem nd_C_init_0 : decode nc_C_init 0 = .ok (.aload_n 0, 1) := by decide +kernel
theorem nd_C_init_1 : decode nc_C_init 1 = .ok (.invokespecial 3, 3) := by decide +kernel
theorem nd_C_init_4 : decode nc_C_init 4 = .ok (.return_, 1) := by decide +kernel
theorem nd_C_wholeCause_0 : decode nc_C_wholeCause 0 = .ok (.aload_n 0, 1) := by decide +kernel
theorem nd_C_wholeCause_1 : decode nc_C_wholeCause 1 = .ok (.getfield 9, 3) := by decide +kernel
theorem nd_C_wholeCause_4 : decode nc_C_wholeCause 4 = .ok (.aload_n 0, 1) := by decide +kernel
theorem nd_C_wholeCause_5 : decode nc_C_wholeCause 5 = .ok (.getfield 15, 3) := by decide +kernel
theorem nd_C_wholeCause_8 : decode nc_C_wholeCause 8 = .ok (.bipush 10, 2) := by decide +kernel
theorem nd_C_wholeCause_10 : decode nc_C_wholeCause 10 = .ok (.ishl, 1) := by decide +kernel
theorem nd_C_wholeCause_11 : decode nc_C_wholeCause 11 = .ok (.ior, 1) := by decide +kernel
theorem nd_C_wholeCause_12 : decode nc_C_wholeCause 12 = .ok (.ireturn, 1) := by decide +kernel
theorem nd_C_isUser_0 : decode nc_C_isUser 0 = .ok (.aload_n 0, 1) := by decide +kernel
theorem nd_C_isUser_1 : decode nc_C_isUser 1 = .ok (.getfield 18, 3) := by decide +kernel
theorem nd_C_isUser_4 : decode nc_C_isUser 4 = .ok (.iconst 2, 1) := by decide +kernel
theorem nd_C_isUser_5 : decode nc_C_isUser 5 = .ok (.iand, 1) := by decide +kernel
theorem nd_C_isUser_6 : decode nc_C_isUser 6 = .ok (.ifCond .eq 7, 3) := by decide +kernel
theorem nd_C_isUser_9 : decode nc_C_isUser 9 = .ok (.iconst 1, 1) := by decide +kernel
theorem nd_C_isUser_10 : decode nc_C_isUser 10 = .ok (.goto 4, 3) := by decide +kernel
theorem nd_C_isUser_13 : decode nc_C_isUser 13 = .ok (.iconst 0, 1) := by decide +kernel
theorem nd_C_isUser_14 : decode nc_C_isUser 14 = .ok (.ireturn, 1) := by decide +kernel
theorem nd_C_forbids_0 : decode nc_C_forbids 0 = .ok (.aload_n 0, 1) := by decide +kernel
theorem nd_C_forbids_1 : decode nc_C_forbids 1 = .ok (.invokevirtual 21, 3) := by decide +kernel
theorem nd_C_forbids_4 : decode nc_C_forbids 4 = .ok (.ifCond .eq 11, 3) := by decide +kernel
theorem nd_C_forbids_7 : decode nc_C_forbids 7 = .ok (.iload_n 1, 1) := by decide +kernel
theorem nd_C_forbids_8 : decode nc_C_forbids 8 = .ok (.ifCond .ge 7, 3) := by decide +kernel
theorem nd_C_forbids_11 : decode nc_C_forbids 11 = .ok (.iconst 1, 1) := by decide +kernel
theorem nd_C_forbids_12 : decode nc_C_forbids 12 = .ok (.goto 4, 3) := by decide +kernel
theorem nd_C_forbids_15 : decode nc_C_forbids 15 = .ok (.iconst 0, 1) := by decide +kernel
theorem nd_C_forbids_16 : decode nc_C_forbids 16 = .ok (.ireturn, 1) := by decide +kernel
theorem nd_C_interruptIsDue_0 : decode nc_C_interruptIsDue 0 = .ok (.aload_n 0, 1) := by decide +kernel
theorem nd_C_interruptIsDue_1 : decode nc_C_interruptIsDue 1 = .ok (.getfield 18, 3) := by decide +kernel
theorem nd_C_interruptIsDue_4 : decode nc_C_interruptIsDue 4 = .ok (.iconst 1, 1) := by decide +kernel
theorem nd_C_interruptIsDue_5 : decode nc_C_interruptIsDue 5 = .ok (.iand, 1) := by decide +kernel
theorem nd_C_interruptIsDue_6 : decode nc_C_interruptIsDue 6 = .ok (.ifCond .eq 22, 3) := by decide +kernel
theorem nd_C_interruptIsDue_9 : decode nc_C_interruptIsDue 9 = .ok (.aload_n 0, 1) := by decide +kernel
theorem nd_C_interruptIsDue_10 : decode nc_C_interruptIsDue 10 = .ok (.invokevirtual 25, 3) := by decide +kernel
theorem nd_C_interruptIsDue_13 : decode nc_C_interruptIsDue 13 = .ok (.aload_n 0, 1) := by decide +kernel
theorem nd_C_interruptIsDue_14 : decode nc_C_interruptIsDue 14 = .ok (.getfield 18, 3) := by decide +kernel
theorem nd_C_interruptIsDue_17 : decode nc_C_interruptIsDue 17 = .ok (.iand, 1) := by decide +kernel
theorem nd_C_interruptIsDue_18 : decode nc_C_interruptIsDue 18 = .ok (.ldc 29, 2) := by decide +kernel
theorem nd_C_interruptIsDue_20 : decode nc_C_interruptIsDue 20 = .ok (.iand, 1) := by decide +kernel
theorem nd_C_interruptIsDue_21 : decode nc_C_interruptIsDue 21 = .ok (.ifCond .eq 7, 3) := by decide +kernel
theorem nd_C_interruptIsDue_24 : decode nc_C_interruptIsDue 24 = .ok (.iconst 1, 1) := by decide +kernel
theorem nd_C_interruptIsDue_25 : decode nc_C_interruptIsDue 25 = .ok (.goto 4, 3) := by decide +kernel
theorem nd_C_interruptIsDue_28 : decode nc_C_interruptIsDue 28 = .ok (.iconst 0, 1) := by decide +kernel
theorem nd_C_interruptIsDue_29 : decode nc_C_interruptIsDue 29 = .ok (.ireturn, 1) := by decide +kernel
theorem nd_C_valueOf_0 : decode nc_C_valueOf 0 = .ok (.iload_n 1, 1) := by decide +kernel
theorem nd_C_valueOf_1 : decode nc_C_valueOf 1 = .ok (.tableswitch 63 8 14 #[58, 63, 63, 63, 43, 48, 53], 43) := by decide +kernel
theorem nd_C_valueOf_44 : decode nc_C_valueOf 44 = .ok (.aload_n 0, 1) := by decide +kernel
theorem nd_C_valueOf_45 : decode nc_C_valueOf 45 = .ok (.getfield 18, 3) := by decide +kernel
theorem nd_C_valueOf_48 : decode nc_C_valueOf 48 = .ok (.ireturn, 1) := by decide +kernel
theorem nd_C_valueOf_49 : decode nc_C_valueOf 49 = .ok (.aload_n 0, 1) := by decide +kernel
theorem nd_C_valueOf_50 : decode nc_C_valueOf 50 = .ok (.invokevirtual 25, 3) := by decide +kernel
theorem nd_C_valueOf_53 : decode nc_C_valueOf 53 = .ok (.ireturn, 1) := by decide +kernel
theorem nd_C_valueOf_54 : decode nc_C_valueOf 54 = .ok (.aload_n 0, 1) := by decide +kernel
theorem nd_C_valueOf_55 : decode nc_C_valueOf 55 = .ok (.getfield 30, 3) := by decide +kernel
theorem nd_C_valueOf_58 : decode nc_C_valueOf 58 = .ok (.ireturn, 1) := by decide +kernel
theorem nd_C_valueOf_59 : decode nc_C_valueOf 59 = .ok (.aload_n 0, 1) := by decide +kernel
theorem nd_C_valueOf_60 : decode nc_C_valueOf 60 = .ok (.getfield 33, 3) := by decide +kernel
theorem nd_C_valueOf_63 : decode nc_C_valueOf 63 = .ok (.ireturn, 1) := by decide +kernel
theorem nd_C_valueOf_64 : decode nc_C_valueOf 64 = .ok (.iconst 0, 1) := by decide +kernel
theorem nd_C_valueOf_65 : decode nc_C_valueOf 65 = .ok (.ireturn, 1) := by decide +kernel
theorem nd_C_change_0 : decode nc_C_change 0 = .ok (.iload_n 1, 1) := by decide +kernel
theorem nd_C_change_1 : decode nc_C_change 1 = .ok (.tableswitch 64 12 14 #[27, 38, 56], 27) := by decide +kernel
theorem nd_C_change_28 : decode nc_C_change 28 = .ok (.aload_n 0, 1) := by decide +kernel
theorem nd_C_change_29 : decode nc_C_change 29 = .ok (.iload_n 2, 1) := by decide +kernel
theorem nd_C_change_30 : decode nc_C_change 30 = .ok (.ldc 36, 2) := by decide +kernel
theorem nd_C_change_32 : decode nc_C_change 32 = .ok (.iand, 1) := by decide +kernel
theorem nd_C_change_33 : decode nc_C_change 33 = .ok (.putfield 18, 3) := by decide +kernel
theorem nd_C_change_36 : decode nc_C_change 36 = .ok (.goto 29, 3) := by decide +kernel
theorem nd_C_change_39 : decode nc_C_change 39 = .ok (.aload_n 0, 1) := by decide +kernel
theorem nd_C_change_40 : decode nc_C_change 40 = .ok (.aload_n 0, 1) := by decide +kernel
theorem nd_C_change_41 : decode nc_C_change 41 = .ok (.getfield 9, 3) := by decide +kernel
theorem nd_C_change_44 : decode nc_C_change 44 = .ok (.iload_n 2, 1) := by decide +kernel
theorem nd_C_change_45 : decode nc_C_change 45 = .ok (.sipush 768, 3) := by decide +kernel
theorem nd_C_change_48 : decode nc_C_change 48 = .ok (.invokestatic 37, 3) := by decide +kernel
theorem nd_C_change_51 : decode nc_C_change 51 = .ok (.putfield 9, 3) := by decide +kernel
theorem nd_C_change_54 : decode nc_C_change 54 = .ok (.goto 11, 3) := by decide +kernel
theorem nd_C_change_57 : decode nc_C_change 57 = .ok (.aload_n 0, 1) := by decide +kernel
theorem nd_C_change_58 : decode nc_C_change 58 = .ok (.iload_n 2, 1) := by decide +kernel
theorem nd_C_change_59 : decode nc_C_change 59 = .ok (.putfield 30, 3) := by decide +kernel
theorem nd_C_change_62 : decode nc_C_change 62 = .ok (.goto 3, 3) := by decide +kernel
theorem nd_C_change_65 : decode nc_C_change 65 = .ok (.return_, 1) := by decide +kernel
theorem nd_C_enter_0 : decode nc_C_enter 0 = .ok (.aload_n 0, 1) := by decide +kernel
theorem nd_C_enter_1 : decode nc_C_enter 1 = .ok (.iload_n 2, 1) := by decide +kernel
theorem nd_C_enter_2 : decode nc_C_enter 2 = .ok (.putfield 30, 3) := by decide +kernel
theorem nd_C_enter_5 : decode nc_C_enter 5 = .ok (.aload_n 0, 1) := by decide +kernel
theorem nd_C_enter_6 : decode nc_C_enter 6 = .ok (.aload_n 0, 1) := by decide +kernel
theorem nd_C_enter_7 : decode nc_C_enter 7 = .ok (.getfield 9, 3) := by decide +kernel
theorem nd_C_enter_10 : decode nc_C_enter 10 = .ok (.sipush 768, 3) := by decide +kernel
theorem nd_C_enter_13 : decode nc_C_enter 13 = .ok (.iand, 1) := by decide +kernel
theorem nd_C_enter_14 : decode nc_C_enter 14 = .ok (.iload_n 1, 1) := by decide +kernel
theorem nd_C_enter_15 : decode nc_C_enter 15 = .ok (.iconst 2, 1) := by decide +kernel
theorem nd_C_enter_16 : decode nc_C_enter 16 = .ok (.ishl, 1) := by decide +kernel
theorem nd_C_enter_17 : decode nc_C_enter 17 = .ok (.ior, 1) := by decide +kernel
theorem nd_C_enter_18 : decode nc_C_enter 18 = .ok (.iload_n 3, 1) := by decide +kernel
theorem nd_C_enter_19 : decode nc_C_enter 19 = .ok (.ifCond .eq 8, 3) := by decide +kernel
theorem nd_C_enter_22 : decode nc_C_enter 22 = .ok (.ldc 41, 2) := by decide +kernel
theorem nd_C_enter_24 : decode nc_C_enter 24 = .ok (.goto 4, 3) := by decide +kernel
theorem nd_C_enter_27 : decode nc_C_enter 27 = .ok (.iconst 0, 1) := by decide +kernel
theorem nd_C_enter_28 : decode nc_C_enter 28 = .ok (.ior, 1) := by decide +kernel
theorem nd_C_enter_29 : decode nc_C_enter 29 = .ok (.putfield 9, 3) := by decide +kernel
theorem nd_C_enter_32 : decode nc_C_enter 32 = .ok (.aload_n 0, 1) := by decide +kernel
theorem nd_C_enter_33 : decode nc_C_enter 33 = .ok (.aload_n 0, 1) := by decide +kernel
theorem nd_C_enter_34 : decode nc_C_enter 34 = .ok (.getfield 18, 3) := by decide +kernel
theorem nd_C_enter_37 : decode nc_C_enter 37 = .ok (.aload_n 0, 1) := by decide +kernel
theorem nd_C_enter_38 : decode nc_C_enter 38 = .ok (.getfield 18, 3) := by decide +kernel
theorem nd_C_enter_41 : decode nc_C_enter 41 = .ok (.iconst 2, 1) := by decide +kernel
theorem nd_C_enter_42 : decode nc_C_enter 42 = .ok (.ishl, 1) := by decide +kernel
theorem nd_C_enter_43 : decode nc_C_enter 43 = .ok (.bipush 63, 2) := by decide +kernel
theorem nd_C_enter_45 : decode nc_C_enter 45 = .ok (.invokestatic 37, 3) := by decide +kernel
theorem nd_C_enter_48 : decode nc_C_enter 48 = .ok (.putfield 18, 3) := by decide +kernel
theorem nd_C_enter_51 : decode nc_C_enter 51 = .ok (.return_, 1) := by decide +kernel
theorem nd_C_leave_0 : decode nc_C_leave 0 = .ok (.aload_n 0, 1) := by decide +kernel
theorem nd_C_leave_1 : decode nc_C_leave 1 = .ok (.aload_n 0, 1) := by decide +kernel
theorem nd_C_leave_2 : decode nc_C_leave 2 = .ok (.getfield 18, 3) := by decide +kernel
theorem nd_C_leave_5 : decode nc_C_leave 5 = .ok (.aload_n 0, 1) := by decide +kernel
theorem nd_C_leave_6 : decode nc_C_leave 6 = .ok (.getfield 18, 3) := by decide +kernel
theorem nd_C_leave_9 : decode nc_C_leave 9 = .ok (.iconst 2, 1) := by decide +kernel
theorem nd_C_leave_10 : decode nc_C_leave 10 = .ok (.ishr, 1) := by decide +kernel
theorem nd_C_leave_11 : decode nc_C_leave 11 = .ok (.bipush 15, 2) := by decide +kernel
theorem nd_C_leave_13 : decode nc_C_leave 13 = .ok (.invokestatic 37, 3) := by decide +kernel
theorem nd_C_leave_16 : decode nc_C_leave 16 = .ok (.putfield 18, 3) := by decide +kernel
theorem nd_C_leave_19 : decode nc_C_leave 19 = .ok (.return_, 1) := by decide +kernel
theorem nd_C_clear_0 : decode nc_C_clear 0 = .ok (.aload_n 0, 1) := by decide +kernel
theorem nd_C_clear_1 : decode nc_C_clear 1 = .ok (.iconst 0, 1) := by decide +kernel
theorem nd_C_clear_2 : decode nc_C_clear 2 = .ok (.putfield 18, 3) := by decide +kernel
theorem nd_C_clear_5 : decode nc_C_clear 5 = .ok (.aload_n 0, 1) := by decide +kernel
theorem nd_C_clear_6 : decode nc_C_clear 6 = .ok (.iconst 0, 1) := by decide +kernel
theorem nd_C_clear_7 : decode nc_C_clear 7 = .ok (.putfield 9, 3) := by decide +kernel
theorem nd_C_clear_10 : decode nc_C_clear 10 = .ok (.aload_n 0, 1) := by decide +kernel
theorem nd_C_clear_11 : decode nc_C_clear 11 = .ok (.iconst 0, 1) := by decide +kernel
theorem nd_C_clear_12 : decode nc_C_clear 12 = .ok (.putfield 15, 3) := by decide +kernel
theorem nd_C_clear_15 : decode nc_C_clear 15 = .ok (.aload_n 0, 1) := by decide +kernel
theorem nd_C_clear_16 : decode nc_C_clear 16 = .ok (.iconst 0, 1) := by decide +kernel
theorem nd_C_clear_17 : decode nc_C_clear 17 = .ok (.putfield 30, 3) := by decide +kernel
theorem nd_C_clear_20 : decode nc_C_clear 20 = .ok (.aload_n 0, 1) := by decide +kernel
theorem nd_C_clear_21 : decode nc_C_clear 21 = .ok (.iconst 0, 1) := by decide +kernel
theorem nd_C_clear_22 : decode nc_C_clear 22 = .ok (.putfield 33, 3) := by decide +kernel
theorem nd_C_clear_25 : decode nc_C_clear 25 = .ok (.return_, 1) := by decide +kernel
theorem nd_M_init_0 : decode nc_M_init 0 = .ok (.aload_n 0, 1) := by decide +kernel
theorem nd_M_init_1 : decode nc_M_init 1 = .ok (.invokespecial 3, 3) := by decide +kernel
theorem nd_M_init_4 : decode nc_M_init 4 = .ok (.aload_n 0, 1) := by decide +kernel
theorem nd_M_init_5 : decode nc_M_init 5 = .ok (.sipush 1024, 3) := by decide +kernel
theorem nd_M_init_8 : decode nc_M_init 8 = .ok (.newarray .int, 2) := by decide +kernel
theorem nd_M_init_10 : decode nc_M_init 10 = .ok (.putfield 9, 3) := by decide +kernel
theorem nd_M_init_13 : decode nc_M_init 13 = .ok (.return_, 1) := by decide +kernel
theorem nd_M_wordAround_0 : decode nc_M_wordAround 0 = .ok (.aload_n 0, 1) := by decide +kernel
theorem nd_M_wordAround_1 : decode nc_M_wordAround 1 = .ok (.getfield 9, 3) := by decide +kernel
theorem nd_M_wordAround_4 : decode nc_M_wordAround 4 = .ok (.iload_n 1, 1) := by decide +kernel
theorem nd_M_wordAround_5 : decode nc_M_wordAround 5 = .ok (.invokestatic 15, 3) := by decide +kernel
theorem nd_M_wordAround_8 : decode nc_M_wordAround 8 = .ok (.iaload, 1) := by decide +kernel
theorem nd_M_wordAround_9 : decode nc_M_wordAround 9 = .ok (.ireturn, 1) := by decide +kernel
theorem nd_M_replaceWord_0 : decode nc_M_replaceWord 0 = .ok (.aload_n 0, 1) := by decide +kernel
theorem nd_M_replaceWord_1 : decode nc_M_replaceWord 1 = .ok (.getfield 9, 3) := by decide +kernel
theorem nd_M_replaceWord_4 : decode nc_M_replaceWord 4 = .ok (.iload_n 1, 1) := by decide +kernel
theorem nd_M_replaceWord_5 : decode nc_M_replaceWord 5 = .ok (.invokestatic 15, 3) := by decide +kernel
theorem nd_M_replaceWord_8 : decode nc_M_replaceWord 8 = .ok (.iload_n 2, 1) := by decide +kernel
theorem nd_M_replaceWord_9 : decode nc_M_replaceWord 9 = .ok (.iastore, 1) := by decide +kernel
theorem nd_M_replaceWord_10 : decode nc_M_replaceWord 10 = .ok (.return_, 1) := by decide +kernel
theorem nd_M_indexOf_0 : decode nc_M_indexOf 0 = .ok (.iload_n 0, 1) := by decide +kernel
theorem nd_M_indexOf_1 : decode nc_M_indexOf 1 = .ok (.iconst 2, 1) := by decide +kernel
theorem nd_M_indexOf_2 : decode nc_M_indexOf 2 = .ok (.ishr, 1) := by decide +kernel
theorem nd_M_indexOf_3 : decode nc_M_indexOf 3 = .ok (.sipush 1023, 3) := by decide +kernel
theorem nd_M_indexOf_6 : decode nc_M_indexOf 6 = .ok (.iand, 1) := by decide +kernel
theorem nd_M_indexOf_7 : decode nc_M_indexOf 7 = .ok (.ireturn, 1) := by decide +kernel
theorem nd_O_init_0 : decode nc_O_init 0 = .ok (.aload_n 0, 1) := by decide +kernel
theorem nd_O_init_1 : decode nc_O_init 1 = .ok (.invokespecial 3, 3) := by decide +kernel
theorem nd_O_init_4 : decode nc_O_init 4 = .ok (.return_, 1) := by decide +kernel
theorem nd_O_begin_0 : decode nc_O_begin 0 = .ok (.aload_n 0, 1) := by decide +kernel
theorem nd_O_begin_1 : decode nc_O_begin 1 = .ok (.iconst (-1), 1) := by decide +kernel
theorem nd_O_begin_2 : decode nc_O_begin 2 = .ok (.putfield 9, 3) := by decide +kernel
theorem nd_O_begin_5 : decode nc_O_begin 5 = .ok (.aload_n 0, 1) := by decide +kernel
theorem nd_O_begin_6 : decode nc_O_begin 6 = .ok (.iconst 0, 1) := by decide +kernel
theorem nd_O_begin_7 : decode nc_O_begin 7 = .ok (.putfield 15, 3) := by decide +kernel
theorem nd_O_begin_10 : decode nc_O_begin 10 = .ok (.aload_n 0, 1) := by decide +kernel
theorem nd_O_begin_11 : decode nc_O_begin 11 = .ok (.iconst 0, 1) := by decide +kernel
theorem nd_O_begin_12 : decode nc_O_begin 12 = .ok (.putfield 19, 3) := by decide +kernel
theorem nd_O_begin_15 : decode nc_O_begin 15 = .ok (.aload_n 0, 1) := by decide +kernel
theorem nd_O_begin_16 : decode nc_O_begin 16 = .ok (.iload_n 1, 1) := by decide +kernel
theorem nd_O_begin_17 : decode nc_O_begin 17 = .ok (.putfield 22, 3) := by decide +kernel
theorem nd_O_begin_20 : decode nc_O_begin 20 = .ok (.return_, 1) := by decide +kernel
theorem nd_R_init_0 : decode nc_R_init 0 = .ok (.aload_n 0, 1) := by decide +kernel
theorem nd_R_init_1 : decode nc_R_init 1 = .ok (.invokespecial 3, 3) := by decide +kernel
theorem nd_R_init_4 : decode nc_R_init 4 = .ok (.aload_n 0, 1) := by decide +kernel
theorem nd_R_init_5 : decode nc_R_init 5 = .ok (.bipush 34, 2) := by decide +kernel
theorem nd_R_init_7 : decode nc_R_init 7 = .ok (.newarray .int, 2) := by decide +kernel
theorem nd_R_init_9 : decode nc_R_init 9 = .ok (.putfield 9, 3) := by decide +kernel
theorem nd_R_init_12 : decode nc_R_init 12 = .ok (.aload_n 0, 1) := by decide +kernel
theorem nd_R_init_13 : decode nc_R_init 13 = .ok (.iconst (-1), 1) := by decide +kernel
theorem nd_R_init_14 : decode nc_R_init 14 = .ok (.putfield 15, 3) := by decide +kernel
theorem nd_R_init_17 : decode nc_R_init 17 = .ok (.return_, 1) := by decide +kernel
theorem nd_R_valueOf_0 : decode nc_R_valueOf 0 = .ok (.iload_n 1, 1) := by decide +kernel
theorem nd_R_valueOf_1 : decode nc_R_valueOf 1 = .ok (.ifCond .lt 18, 3) := by decide +kernel
theorem nd_R_valueOf_4 : decode nc_R_valueOf 4 = .ok (.iload_n 1, 1) := by decide +kernel
theorem nd_R_valueOf_5 : decode nc_R_valueOf 5 = .ok (.bipush 34, 2) := by decide +kernel
theorem nd_R_valueOf_7 : decode nc_R_valueOf 7 = .ok (.if_icmp .ge 12, 3) := by decide +kernel
theorem nd_R_valueOf_10 : decode nc_R_valueOf 10 = .ok (.aload_n 0, 1) := by decide +kernel
theorem nd_R_valueOf_11 : decode nc_R_valueOf 11 = .ok (.getfield 9, 3) := by decide +kernel
theorem nd_R_valueOf_14 : decode nc_R_valueOf 14 = .ok (.iload_n 1, 1) := by decide +kernel
theorem nd_R_valueOf_15 : decode nc_R_valueOf 15 = .ok (.iaload, 1) := by decide +kernel
theorem nd_R_valueOf_16 : decode nc_R_valueOf 16 = .ok (.goto 4, 3) := by decide +kernel
theorem nd_R_valueOf_19 : decode nc_R_valueOf 19 = .ok (.iconst 0, 1) := by decide +kernel
theorem nd_R_valueOf_20 : decode nc_R_valueOf 20 = .ok (.ireturn, 1) := by decide +kernel
theorem nd_R_change_0 : decode nc_R_change 0 = .ok (.iload_n 1, 1) := by decide +kernel
theorem nd_R_change_1 : decode nc_R_change 1 = .ok (.ifCond .le 16, 3) := by decide +kernel
theorem nd_R_change_4 : decode nc_R_change 4 = .ok (.iload_n 1, 1) := by decide +kernel
theorem nd_R_change_5 : decode nc_R_change 5 = .ok (.bipush 34, 2) := by decide +kernel
theorem nd_R_change_7 : decode nc_R_change 7 = .ok (.if_icmp .ge 10, 3) := by decide +kernel
theorem nd_R_change_10 : decode nc_R_change 10 = .ok (.aload_n 0, 1) := by decide +kernel
theorem nd_R_change_11 : decode nc_R_change 11 = .ok (.getfield 9, 3) := by decide +kernel
theorem nd_R_change_14 : decode nc_R_change 14 = .ok (.iload_n 1, 1) := by decide +kernel
theorem nd_R_change_15 : decode nc_R_change 15 = .ok (.iload_n 2, 1) := by decide +kernel
theorem nd_R_change_16 : decode nc_R_change 16 = .ok (.iastore, 1) := by decide +kernel
theorem nd_R_change_17 : decode nc_R_change 17 = .ok (.return_, 1) := by decide +kernel
theorem nd_R_latestOf_0 : decode nc_R_latestOf 0 = .ok (.aload_n 0, 1) := by decide +kernel
theorem nd_R_latestOf_1 : decode nc_R_latestOf 1 = .ok (.getfield 15, 3) := by decide +kernel
theorem nd_R_latestOf_4 : decode nc_R_latestOf 4 = .ok (.iload_n 1, 1) := by decide +kernel
theorem nd_R_latestOf_5 : decode nc_R_latestOf 5 = .ok (.if_icmp .ne 10, 3) := by decide +kernel
theorem nd_R_latestOf_8 : decode nc_R_latestOf 8 = .ok (.aload_n 0, 1) := by decide +kernel
theorem nd_R_latestOf_9 : decode nc_R_latestOf 9 = .ok (.getfield 19, 3) := by decide +kernel
theorem nd_R_latestOf_12 : decode nc_R_latestOf 12 = .ok (.goto 8, 3) := by decide +kernel
theorem nd_R_latestOf_15 : decode nc_R_latestOf 15 = .ok (.aload_n 0, 1) := by decide +kernel
theorem nd_R_latestOf_16 : decode nc_R_latestOf 16 = .ok (.iload_n 1, 1) := by decide +kernel
theorem nd_R_latestOf_17 : decode nc_R_latestOf 17 = .ok (.invokevirtual 22, 3) := by decide +kernel
theorem nd_R_latestOf_20 : decode nc_R_latestOf 20 = .ok (.ireturn, 1) := by decide +kernel
theorem nd_R_holdLoad_0 : decode nc_R_holdLoad 0 = .ok (.aload_n 0, 1) := by decide +kernel
theorem nd_R_holdLoad_1 : decode nc_R_holdLoad 1 = .ok (.iload_n 1, 1) := by decide +kernel
theorem nd_R_holdLoad_2 : decode nc_R_holdLoad 2 = .ok (.putfield 15, 3) := by decide +kernel
theorem nd_R_holdLoad_5 : decode nc_R_holdLoad 5 = .ok (.aload_n 0, 1) := by decide +kernel
theorem nd_R_holdLoad_6 : decode nc_R_holdLoad 6 = .ok (.iload_n 2, 1) := by decide +kernel
theorem nd_R_holdLoad_7 : decode nc_R_holdLoad 7 = .ok (.putfield 19, 3) := by decide +kernel
theorem nd_R_holdLoad_10 : decode nc_R_holdLoad 10 = .ok (.return_, 1) := by decide +kernel
theorem nd_R_landLoad_0 : decode nc_R_landLoad 0 = .ok (.aload_n 0, 1) := by decide +kernel
theorem nd_R_landLoad_1 : decode nc_R_landLoad 1 = .ok (.aload_n 0, 1) := by decide +kernel
theorem nd_R_landLoad_2 : decode nc_R_landLoad 2 = .ok (.getfield 15, 3) := by decide +kernel
theorem nd_R_landLoad_5 : decode nc_R_landLoad 5 = .ok (.aload_n 0, 1) := by decide +kernel
theorem nd_R_landLoad_6 : decode nc_R_landLoad 6 = .ok (.getfield 19, 3) := by decide +kernel
theorem nd_R_landLoad_9 : decode nc_R_landLoad 9 = .ok (.invokevirtual 26, 3) := by decide +kernel
theorem nd_R_landLoad_12 : decode nc_R_landLoad 12 = .ok (.aload_n 0, 1) := by decide +kernel
theorem nd_R_landLoad_13 : decode nc_R_landLoad 13 = .ok (.invokevirtual 30, 3) := by decide +kernel
theorem nd_R_landLoad_16 : decode nc_R_landLoad 16 = .ok (.return_, 1) := by decide +kernel
theorem nd_R_dropLoad_0 : decode nc_R_dropLoad 0 = .ok (.aload_n 0, 1) := by decide +kernel
theorem nd_R_dropLoad_1 : decode nc_R_dropLoad 1 = .ok (.iconst (-1), 1) := by decide +kernel
theorem nd_R_dropLoad_2 : decode nc_R_dropLoad 2 = .ok (.iconst 0, 1) := by decide +kernel
theorem nd_R_dropLoad_3 : decode nc_R_dropLoad 3 = .ok (.invokevirtual 33, 3) := by decide +kernel
theorem nd_R_dropLoad_6 : decode nc_R_dropLoad 6 = .ok (.return_, 1) := by decide +kernel
theorem nd_R_clear_0 : decode nc_R_clear 0 = .ok (.iconst 0, 1) := by decide +kernel
theorem nd_R_clear_1 : decode nc_R_clear 1 = .ok (.istore_n 1, 1) := by decide +kernel
theorem nd_R_clear_2 : decode nc_R_clear 2 = .ok (.iload_n 1, 1) := by decide +kernel
theorem nd_R_clear_3 : decode nc_R_clear 3 = .ok (.bipush 34, 2) := by decide +kernel
theorem nd_R_clear_5 : decode nc_R_clear 5 = .ok (.if_icmp .ge 16, 3) := by decide +kernel
theorem nd_R_clear_8 : decode nc_R_clear 8 = .ok (.aload_n 0, 1) := by decide +kernel
theorem nd_R_clear_9 : decode nc_R_clear 9 = .ok (.getfield 9, 3) := by decide +kernel
theorem nd_R_clear_12 : decode nc_R_clear 12 = .ok (.iload_n 1, 1) := by decide +kernel
theorem nd_R_clear_13 : decode nc_R_clear 13 = .ok (.iconst 0, 1) := by decide +kernel
theorem nd_R_clear_14 : decode nc_R_clear 14 = .ok (.iastore, 1) := by decide +kernel
theorem nd_R_clear_15 : decode nc_R_clear 15 = .ok (.iinc 1 1, 3) := by decide +kernel
theorem nd_R_clear_18 : decode nc_R_clear 18 = .ok (.goto (-16), 3) := by decide +kernel
theorem nd_R_clear_21 : decode nc_R_clear 21 = .ok (.aload_n 0, 1) := by decide +kernel
theorem nd_R_clear_22 : decode nc_R_clear 22 = .ok (.invokevirtual 30, 3) := by decide +kernel
theorem nd_R_clear_25 : decode nc_R_clear 25 = .ok (.return_, 1) := by decide +kernel
