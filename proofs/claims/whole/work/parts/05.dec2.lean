theorem nd_S_perform_283 : decode nc_S_perform 283 = .ok (.ireturn, 1) := by decide +kernel
theorem nd_S_perform_284 : decode nc_S_perform 284 = .ok (.bipush 10, 2) := by decide +kernel
theorem nd_S_perform_286 : decode nc_S_perform 286 = .ok (.ireturn, 1) := by decide +kernel
theorem nd_S_orderOf_0 : decode nc_S_orderOf 0 = .ok (.iload_n 0, 1) := by decide +kernel
theorem nd_S_orderOf_1 : decode nc_S_orderOf 1 = .ok (.bipush 26, 2) := by decide +kernel
theorem nd_S_orderOf_3 : decode nc_S_orderOf 3 = .ok (.iushr, 1) := by decide +kernel
theorem nd_S_orderOf_4 : decode nc_S_orderOf 4 = .ok (.ireturn, 1) := by decide +kernel
theorem nd_S_numberS_0 : decode nc_S_numberS 0 = .ok (.iload_n 0, 1) := by decide +kernel
theorem nd_S_numberS_1 : decode nc_S_numberS 1 = .ok (.bipush 21, 2) := by decide +kernel
theorem nd_S_numberS_3 : decode nc_S_numberS 3 = .ok (.iushr, 1) := by decide +kernel
theorem nd_S_numberS_4 : decode nc_S_numberS 4 = .ok (.bipush 31, 2) := by decide +kernel
theorem nd_S_numberS_6 : decode nc_S_numberS 6 = .ok (.iand, 1) := by decide +kernel
theorem nd_S_numberS_7 : decode nc_S_numberS 7 = .ok (.ireturn, 1) := by decide +kernel
theorem nd_S_numberT_0 : decode nc_S_numberT 0 = .ok (.iload_n 0, 1) := by decide +kernel
theorem nd_S_numberT_1 : decode nc_S_numberT 1 = .ok (.bipush 16, 2) := by decide +kernel
theorem nd_S_numberT_3 : decode nc_S_numberT 3 = .ok (.iushr, 1) := by decide +kernel
theorem nd_S_numberT_4 : decode nc_S_numberT 4 = .ok (.bipush 31, 2) := by decide +kernel
theorem nd_S_numberT_6 : decode nc_S_numberT 6 = .ok (.iand, 1) := by decide +kernel
theorem nd_S_numberT_7 : decode nc_S_numberT 7 = .ok (.ireturn, 1) := by decide +kernel
theorem nd_S_numberD_0 : decode nc_S_numberD 0 = .ok (.iload_n 0, 1) := by decide +kernel
theorem nd_S_numberD_1 : decode nc_S_numberD 1 = .ok (.bipush 11, 2) := by decide +kernel
theorem nd_S_numberD_3 : decode nc_S_numberD 3 = .ok (.iushr, 1) := by decide +kernel
theorem nd_S_numberD_4 : decode nc_S_numberD 4 = .ok (.bipush 31, 2) := by decide +kernel
theorem nd_S_numberD_6 : decode nc_S_numberD 6 = .ok (.iand, 1) := by decide +kernel
theorem nd_S_numberD_7 : decode nc_S_numberD 7 = .ok (.ireturn, 1) := by decide +kernel
theorem nd_S_numberA_0 : decode nc_S_numberA 0 = .ok (.iload_n 0, 1) := by decide +kernel
theorem nd_S_numberA_1 : decode nc_S_numberA 1 = .ok (.bipush 6, 2) := by decide +kernel
theorem nd_S_numberA_3 : decode nc_S_numberA 3 = .ok (.iushr, 1) := by decide +kernel
theorem nd_S_numberA_4 : decode nc_S_numberA 4 = .ok (.bipush 31, 2) := by decide +kernel
theorem nd_S_numberA_6 : decode nc_S_numberA 6 = .ok (.iand, 1) := by decide +kernel
theorem nd_S_numberA_7 : decode nc_S_numberA 7 = .ok (.ireturn, 1) := by decide +kernel
theorem nd_S_numberK_0 : decode nc_S_numberK 0 = .ok (.iload_n 0, 1) := by decide +kernel
theorem nd_S_numberK_1 : decode nc_S_numberK 1 = .ok (.bipush 63, 2) := by decide +kernel
theorem nd_S_numberK_3 : decode nc_S_numberK 3 = .ok (.iand, 1) := by decide +kernel
theorem nd_S_numberK_4 : decode nc_S_numberK 4 = .ok (.ireturn, 1) := by decide +kernel
theorem nd_S_numberI_0 : decode nc_S_numberI 0 = .ok (.iload_n 0, 1) := by decide +kernel
theorem nd_S_numberI_1 : decode nc_S_numberI 1 = .ok (.i2s, 1) := by decide +kernel
theorem nd_S_numberI_2 : decode nc_S_numberI 2 = .ok (.ireturn, 1) := by decide +kernel
theorem nd_S_numberU_0 : decode nc_S_numberU 0 = .ok (.iload_n 0, 1) := by decide +kernel
theorem nd_S_numberU_1 : decode nc_S_numberU 1 = .ok (.ldc 196, 2) := by decide +kernel
theorem nd_S_numberU_3 : decode nc_S_numberU 3 = .ok (.iand, 1) := by decide +kernel
theorem nd_S_numberU_4 : decode nc_S_numberU 4 = .ok (.ireturn, 1) := by decide +kernel
theorem nd_S_valueOfS_0 : decode nc_S_valueOfS 0 = .ok (.aload_n 0, 1) := by decide +kernel
theorem nd_S_valueOfS_1 : decode nc_S_valueOfS 1 = .ok (.getfield 19, 3) := by decide +kernel
theorem nd_S_valueOfS_4 : decode nc_S_valueOfS 4 = .ok (.iload_n 1, 1) := by decide +kernel
theorem nd_S_valueOfS_5 : decode nc_S_valueOfS 5 = .ok (.invokestatic 197, 3) := by decide +kernel
theorem nd_S_valueOfS_8 : decode nc_S_valueOfS 8 = .ok (.invokevirtual 70, 3) := by decide +kernel
theorem nd_S_valueOfS_11 : decode nc_S_valueOfS 11 = .ok (.ireturn, 1) := by decide +kernel
theorem nd_S_valueOfT_0 : decode nc_S_valueOfT 0 = .ok (.aload_n 0, 1) := by decide +kernel
theorem nd_S_valueOfT_1 : decode nc_S_valueOfT 1 = .ok (.getfield 19, 3) := by decide +kernel
theorem nd_S_valueOfT_4 : decode nc_S_valueOfT 4 = .ok (.iload_n 1, 1) := by decide +kernel
theorem nd_S_valueOfT_5 : decode nc_S_valueOfT 5 = .ok (.invokestatic 200, 3) := by decide +kernel
theorem nd_S_valueOfT_8 : decode nc_S_valueOfT 8 = .ok (.invokevirtual 70, 3) := by decide +kernel
theorem nd_S_valueOfT_11 : decode nc_S_valueOfT 11 = .ok (.ireturn, 1) := by decide +kernel
theorem nd_S_withoutSign_0 : decode nc_S_withoutSign 0 = .ok (.iload_n 0, 1) := by decide +kernel
theorem nd_S_withoutSign_1 : decode nc_S_withoutSign 1 = .ok (.i2l, 1) := by decide +kernel
theorem nd_S_withoutSign_2 : decode nc_S_withoutSign 2 = .ok (.ldc2_w 203, 3) := by decide +kernel
theorem nd_S_withoutSign_5 : decode nc_S_withoutSign 5 = .ok (.land, 1) := by decide +kernel
theorem nd_S_withoutSign_6 : decode nc_S_withoutSign 6 = .ok (.lreturn, 1) := by decide +kernel
theorem nd_S_give_0 : decode nc_S_give 0 = .ok (.aload_n 0, 1) := by decide +kernel
theorem nd_S_give_1 : decode nc_S_give 1 = .ok (.getfield 33, 3) := by decide +kernel
theorem nd_S_give_4 : decode nc_S_give 4 = .ok (.iload_n 1, 1) := by decide +kernel
theorem nd_S_give_5 : decode nc_S_give 5 = .ok (.putfield 146, 3) := by decide +kernel
theorem nd_S_give_8 : decode nc_S_give 8 = .ok (.aload_n 0, 1) := by decide +kernel
theorem nd_S_give_9 : decode nc_S_give 9 = .ok (.getfield 33, 3) := by decide +kernel
theorem nd_S_give_12 : decode nc_S_give 12 = .ok (.iload_n 2, 1) := by decide +kernel
theorem nd_S_give_13 : decode nc_S_give 13 = .ok (.putfield 149, 3) := by decide +kernel
theorem nd_S_give_16 : decode nc_S_give 16 = .ok (.iconst (-1), 1) := by decide +kernel
theorem nd_S_give_17 : decode nc_S_give 17 = .ok (.ireturn, 1) := by decide +kernel
theorem nd_S_giveIfExact_0 : decode nc_S_giveIfExact 0 = .ok (.lload_n 2, 1) := by decide +kernel
theorem nd_S_giveIfExact_1 : decode nc_S_giveIfExact 1 = .ok (.lload_n 2, 1) := by decide +kernel
theorem nd_S_giveIfExact_2 : decode nc_S_giveIfExact 2 = .ok (.l2i, 1) := by decide +kernel
theorem nd_S_giveIfExact_3 : decode nc_S_giveIfExact 3 = .ok (.i2l, 1) := by decide +kernel
theorem nd_S_giveIfExact_4 : decode nc_S_giveIfExact 4 = .ok (.lcmp, 1) := by decide +kernel
theorem nd_S_giveIfExact_5 : decode nc_S_giveIfExact 5 = .ok (.ifCond .eq 6, 3) := by decide +kernel
theorem nd_S_giveIfExact_8 : decode nc_S_giveIfExact 8 = .ok (.bipush 12, 2) := by decide +kernel
theorem nd_S_giveIfExact_10 : decode nc_S_giveIfExact 10 = .ok (.ireturn, 1) := by decide +kernel
theorem nd_S_giveIfExact_11 : decode nc_S_giveIfExact 11 = .ok (.aload_n 0, 1) := by decide +kernel
theorem nd_S_giveIfExact_12 : decode nc_S_giveIfExact 12 = .ok (.iload_n 1, 1) := by decide +kernel
theorem nd_S_giveIfExact_13 : decode nc_S_giveIfExact 13 = .ok (.lload_n 2, 1) := by decide +kernel
theorem nd_S_giveIfExact_14 : decode nc_S_giveIfExact 14 = .ok (.l2i, 1) := by decide +kernel
theorem nd_S_giveIfExact_15 : decode nc_S_giveIfExact 15 = .ok (.invokevirtual 205, 3) := by decide +kernel
theorem nd_S_giveIfExact_18 : decode nc_S_giveIfExact 18 = .ok (.ireturn, 1) := by decide +kernel
theorem nd_S_giveTruth_0 : decode nc_S_giveTruth 0 = .ok (.aload_n 0, 1) := by decide +kernel
theorem nd_S_giveTruth_1 : decode nc_S_giveTruth 1 = .ok (.iload_n 1, 1) := by decide +kernel
theorem nd_S_giveTruth_2 : decode nc_S_giveTruth 2 = .ok (.iload_n 2, 1) := by decide +kernel
theorem nd_S_giveTruth_3 : decode nc_S_giveTruth 3 = .ok (.ifCond .eq 7, 3) := by decide +kernel
theorem nd_S_giveTruth_6 : decode nc_S_giveTruth 6 = .ok (.iconst 1, 1) := by decide +kernel
theorem nd_S_giveTruth_7 : decode nc_S_giveTruth 7 = .ok (.goto 4, 3) := by decide +kernel
theorem nd_S_giveTruth_10 : decode nc_S_giveTruth 10 = .ok (.iconst 0, 1) := by decide +kernel
theorem nd_S_giveTruth_11 : decode nc_S_giveTruth 11 = .ok (.invokevirtual 205, 3) := by decide +kernel
theorem nd_S_giveTruth_14 : decode nc_S_giveTruth 14 = .ok (.ireturn, 1) := by decide +kernel
theorem nd_S_giveLate_0 : decode nc_S_giveLate 0 = .ok (.aload_n 0, 1) := by decide +kernel
theorem nd_S_giveLate_1 : decode nc_S_giveLate 1 = .ok (.getfield 33, 3) := by decide +kernel
theorem nd_S_giveLate_4 : decode nc_S_giveLate 4 = .ok (.iconst 1, 1) := by decide +kernel
theorem nd_S_giveLate_5 : decode nc_S_giveLate 5 = .ok (.putfield 143, 3) := by decide +kernel
theorem nd_S_giveLate_8 : decode nc_S_giveLate 8 = .ok (.aload_n 0, 1) := by decide +kernel
theorem nd_S_giveLate_9 : decode nc_S_giveLate 9 = .ok (.iload_n 1, 1) := by decide +kernel
theorem nd_S_giveLate_10 : decode nc_S_giveLate 10 = .ok (.iload_n 2, 1) := by decide +kernel
theorem nd_S_giveLate_11 : decode nc_S_giveLate 11 = .ok (.invokevirtual 205, 3) := by decide +kernel
theorem nd_S_giveLate_14 : decode nc_S_giveLate 14 = .ok (.ireturn, 1) := by decide +kernel
theorem nd_S_branchIf_0 : decode nc_S_branchIf 0 = .ok (.aload_n 0, 1) := by decide +kernel
theorem nd_S_branchIf_1 : decode nc_S_branchIf 1 = .ok (.getfield 33, 3) := by decide +kernel
theorem nd_S_branchIf_4 : decode nc_S_branchIf 4 = .ok (.iconst 1, 1) := by decide +kernel
theorem nd_S_branchIf_5 : decode nc_S_branchIf 5 = .ok (.putfield 158, 3) := by decide +kernel
theorem nd_S_branchIf_8 : decode nc_S_branchIf 8 = .ok (.iload_n 1, 1) := by decide +kernel
theorem nd_S_branchIf_9 : decode nc_S_branchIf 9 = .ok (.ifCond .eq 11, 3) := by decide +kernel
theorem nd_S_branchIf_12 : decode nc_S_branchIf 12 = .ok (.aload_n 0, 1) := by decide +kernel
theorem nd_S_branchIf_13 : decode nc_S_branchIf 13 = .ok (.getfield 33, 3) := by decide +kernel
theorem nd_S_branchIf_16 : decode nc_S_branchIf 16 = .ok (.iload_n 2, 1) := by decide +kernel
theorem nd_S_branchIf_17 : decode nc_S_branchIf 17 = .ok (.putfield 155, 3) := by decide +kernel
theorem nd_S_branchIf_20 : decode nc_S_branchIf 20 = .ok (.iconst (-1), 1) := by decide +kernel
theorem nd_S_branchIf_21 : decode nc_S_branchIf 21 = .ok (.ireturn, 1) := by decide +kernel
theorem nd_S_keepHighAndLow_0 : decode nc_S_keepHighAndLow 0 = .ok (.aload_n 0, 1) := by decide +kernel
theorem nd_S_keepHighAndLow_1 : decode nc_S_keepHighAndLow 1 = .ok (.getfield 19, 3) := by decide +kernel
theorem nd_S_keepHighAndLow_4 : decode nc_S_keepHighAndLow 4 = .ok (.bipush 32, 2) := by decide +kernel
theorem nd_S_keepHighAndLow_6 : decode nc_S_keepHighAndLow 6 = .ok (.lload_n 1, 1) := by decide +kernel
theorem nd_S_keepHighAndLow_7 : decode nc_S_keepHighAndLow 7 = .ok (.bipush 32, 2) := by decide +kernel
theorem nd_S_keepHighAndLow_9 : decode nc_S_keepHighAndLow 9 = .ok (.lshr, 1) := by decide +kernel
theorem nd_S_keepHighAndLow_10 : decode nc_S_keepHighAndLow 10 = .ok (.l2i, 1) := by decide +kernel
theorem nd_S_keepHighAndLow_11 : decode nc_S_keepHighAndLow 11 = .ok (.invokevirtual 73, 3) := by decide +kernel
theorem nd_S_keepHighAndLow_14 : decode nc_S_keepHighAndLow 14 = .ok (.aload_n 0, 1) := by decide +kernel
theorem nd_S_keepHighAndLow_15 : decode nc_S_keepHighAndLow 15 = .ok (.getfield 19, 3) := by decide +kernel
theorem nd_S_keepHighAndLow_18 : decode nc_S_keepHighAndLow 18 = .ok (.bipush 33, 2) := by decide +kernel
theorem nd_S_keepHighAndLow_20 : decode nc_S_keepHighAndLow 20 = .ok (.lload_n 1, 1) := by decide +kernel
theorem nd_S_keepHighAndLow_21 : decode nc_S_keepHighAndLow 21 = .ok (.l2i, 1) := by decide +kernel
theorem nd_S_keepHighAndLow_22 : decode nc_S_keepHighAndLow 22 = .ok (.invokevirtual 73, 3) := by decide +kernel
theorem nd_S_keepHighAndLow_25 : decode nc_S_keepHighAndLow 25 = .ok (.iconst (-1), 1) := by decide +kernel
theorem nd_S_keepHighAndLow_26 : decode nc_S_keepHighAndLow 26 = .ok (.ireturn, 1) := by decide +kernel
theorem nd_S_performByK_0 : decode nc_S_performByK 0 = .ok (.iload_n 1, 1) := by decide +kernel
theorem nd_S_performByK_1 : decode nc_S_performByK 1 = .ok (.invokestatic 209, 3) := by decide +kernel
theorem nd_S_performByK_4 : decode nc_S_performByK 4 = .ok (.tableswitch 158 0 27 #[128, 158, 128, 128, 128, 158, 128, 128, 134, 134, 158, 158, 140, 143, 158, 158, 146, 146, 146, 146, 158, 158, 158, 158, 152, 152, 152, 152], 128) := by decide +kernel
theorem nd_S_performByK_132 : decode nc_S_performByK 132 = .ok (.aload_n 0, 1) := by decide +kernel
theorem nd_S_performByK_133 : decode nc_S_performByK 133 = .ok (.iload_n 1, 1) := by decide +kernel
theorem nd_S_performByK_134 : decode nc_S_performByK 134 = .ok (.invokevirtual 212, 3) := by decide +kernel
theorem nd_S_performByK_137 : decode nc_S_performByK 137 = .ok (.ireturn, 1) := by decide +kernel
theorem nd_S_performByK_138 : decode nc_S_performByK 138 = .ok (.aload_n 0, 1) := by decide +kernel
theorem nd_S_performByK_139 : decode nc_S_performByK 139 = .ok (.iload_n 1, 1) := by decide +kernel
theorem nd_S_performByK_140 : decode nc_S_performByK 140 = .ok (.invokevirtual 215, 3) := by decide +kernel
theorem nd_S_performByK_143 : decode nc_S_performByK 143 = .ok (.ireturn, 1) := by decide +kernel
theorem nd_S_performByK_144 : decode nc_S_performByK 144 = .ok (.bipush 8, 2) := by decide +kernel
theorem nd_S_performByK_146 : decode nc_S_performByK 146 = .ok (.ireturn, 1) := by decide +kernel
theorem nd_S_performByK_147 : decode nc_S_performByK 147 = .ok (.bipush 9, 2) := by decide +kernel
theorem nd_S_performByK_149 : decode nc_S_performByK 149 = .ok (.ireturn, 1) := by decide +kernel
theorem nd_S_performByK_150 : decode nc_S_performByK 150 = .ok (.aload_n 0, 1) := by decide +kernel
theorem nd_S_performByK_151 : decode nc_S_performByK 151 = .ok (.iload_n 1, 1) := by decide +kernel
theorem nd_S_performByK_152 : decode nc_S_performByK 152 = .ok (.invokevirtual 218, 3) := by decide +kernel
theorem nd_S_performByK_155 : decode nc_S_performByK 155 = .ok (.ireturn, 1) := by decide +kernel
theorem nd_S_performByK_156 : decode nc_S_performByK 156 = .ok (.aload_n 0, 1) := by decide +kernel
theorem nd_S_performByK_157 : decode nc_S_performByK 157 = .ok (.iload_n 1, 1) := by decide +kernel
theorem nd_S_performByK_158 : decode nc_S_performByK 158 = .ok (.invokevirtual 221, 3) := by decide +kernel
theorem nd_S_performByK_161 : decode nc_S_performByK 161 = .ok (.ireturn, 1) := by decide +kernel
theorem nd_S_performByK_162 : decode nc_S_performByK 162 = .ok (.aload_n 0, 1) := by decide +kernel
theorem nd_S_performByK_163 : decode nc_S_performByK 163 = .ok (.iload_n 1, 1) := by decide +kernel
theorem nd_S_performByK_164 : decode nc_S_performByK 164 = .ok (.invokevirtual 224, 3) := by decide +kernel
theorem nd_S_performByK_167 : decode nc_S_performByK 167 = .ok (.ireturn, 1) := by decide +kernel
theorem nd_S_performShift_0 : decode nc_S_performShift 0 = .ok (.aload_n 0, 1) := by decide +kernel
theorem nd_S_performShift_1 : decode nc_S_performShift 1 = .ok (.iload_n 1, 1) := by decide +kernel
theorem nd_S_performShift_2 : decode nc_S_performShift 2 = .ok (.invokevirtual 227, 3) := by decide +kernel
theorem nd_S_performShift_5 : decode nc_S_performShift 5 = .ok (.istore_n 2, 1) := by decide +kernel
theorem nd_S_performShift_6 : decode nc_S_performShift 6 = .ok (.iload_n 1, 1) := by decide +kernel
theorem nd_S_performShift_7 : decode nc_S_performShift 7 = .ok (.invokestatic 230, 3) := by decide +kernel
theorem nd_S_performShift_10 : decode nc_S_performShift 10 = .ok (.istore_n 3, 1) := by decide +kernel
theorem nd_S_performShift_11 : decode nc_S_performShift 11 = .ok (.aload_n 0, 1) := by decide +kernel
theorem nd_S_performShift_12 : decode nc_S_performShift 12 = .ok (.iload_n 1, 1) := by decide +kernel
theorem nd_S_performShift_13 : decode nc_S_performShift 13 = .ok (.invokevirtual 233, 3) := by decide +kernel
theorem nd_S_performShift_16 : decode nc_S_performShift 16 = .ok (.bipush 31, 2) := by decide +kernel
theorem nd_S_performShift_18 : decode nc_S_performShift 18 = .ok (.iand, 1) := by decide +kernel
theorem nd_S_performShift_19 : decode nc_S_performShift 19 = .ok (.istore 4, 2) := by decide +kernel
theorem nd_S_performShift_21 : decode nc_S_performShift 21 = .ok (.iload_n 1, 1) := by decide +kernel
theorem nd_S_performShift_22 : decode nc_S_performShift 22 = .ok (.invokestatic 209, 3) := by decide +kernel
theorem nd_S_performShift_25 : decode nc_S_performShift 25 = .ok (.tableswitch 99 0 6 #[43, 99, 55, 67, 79, 99, 89], 43) := by decide +kernel
theorem nd_S_performShift_68 : decode nc_S_performShift 68 = .ok (.aload_n 0, 1) := by decide +kernel
theorem nd_S_performShift_69 : decode nc_S_performShift 69 = .ok (.iload_n 3, 1) := by decide +kernel
theorem nd_S_performShift_70 : decode nc_S_performShift 70 = .ok (.iload_n 2, 1) := by decide +kernel
theorem nd_S_performShift_71 : decode nc_S_performShift 71 = .ok (.iload_n 1, 1) := by decide +kernel
theorem nd_S_performShift_72 : decode nc_S_performShift 72 = .ok (.invokestatic 236, 3) := by decide +kernel
theorem nd_S_performShift_75 : decode nc_S_performShift 75 = .ok (.ishl, 1) := by decide +kernel
theorem nd_S_performShift_76 : decode nc_S_performShift 76 = .ok (.invokevirtual 205, 3) := by decide +kernel
theorem nd_S_performShift_79 : decode nc_S_performShift 79 = .ok (.ireturn, 1) := by decide +kernel
theorem nd_S_performShift_80 : decode nc_S_performShift 80 = .ok (.aload_n 0, 1) := by decide +kernel
theorem nd_S_performShift_81 : decode nc_S_performShift 81 = .ok (.iload_n 3, 1) := by decide +kernel
theorem nd_S_performShift_82 : decode nc_S_performShift 82 = .ok (.iload_n 2, 1) := by decide +kernel
theorem nd_S_performShift_83 : decode nc_S_performShift 83 = .ok (.iload_n 1, 1) := by decide +kernel
theorem nd_S_performShift_84 : decode nc_S_performShift 84 = .ok (.invokestatic 236, 3) := by decide +kernel
theorem nd_S_performShift_87 : decode nc_S_performShift 87 = .ok (.iushr, 1) := by decide +kernel
theorem nd_S_performShift_88 : decode nc_S_performShift 88 = .ok (.invokevirtual 205, 3) := by decide +kernel
theorem nd_S_performShift_91 : decode nc_S_performShift 91 = .ok (.ireturn, 1) := by decide +kernel
theorem nd_S_performShift_92 : decode nc_S_performShift 92 = .ok (.aload_n 0, 1) := by decide +kernel
theorem nd_S_performShift_93 : decode nc_S_performShift 93 = .ok (.iload_n 3, 1) := by decide +kernel
theorem nd_S_performShift_94 : decode nc_S_performShift 94 = .ok (.iload_n 2, 1) := by decide +kernel
theorem nd_S_performShift_95 : decode nc_S_performShift 95 = .ok (.iload_n 1, 1) := by decide +kernel
theorem nd_S_performShift_96 : decode nc_S_performShift 96 = .ok (.invokestatic 236, 3) := by decide +kernel
theorem nd_S_performShift_99 : decode nc_S_performShift 99 = .ok (.ishr, 1) := by decide +kernel
theorem nd_S_performShift_100 : decode nc_S_performShift 100 = .ok (.invokevirtual 205, 3) := by decide +kernel
theorem nd_S_performShift_103 : decode nc_S_performShift 103 = .ok (.ireturn, 1) := by decide +kernel
theorem nd_S_performShift_104 : decode nc_S_performShift 104 = .ok (.aload_n 0, 1) := by decide +kernel
theorem nd_S_performShift_105 : decode nc_S_performShift 105 = .ok (.iload_n 3, 1) := by decide +kernel
theorem nd_S_performShift_106 : decode nc_S_performShift 106 = .ok (.iload_n 2, 1) := by decide +kernel
theorem nd_S_performShift_107 : decode nc_S_performShift 107 = .ok (.iload 4, 2) := by decide +kernel
theorem nd_S_performShift_109 : decode nc_S_performShift 109 = .ok (.ishl, 1) := by decide +kernel
theorem nd_S_performShift_110 : decode nc_S_performShift 110 = .ok (.invokevirtual 205, 3) := by decide +kernel
theorem nd_S_performShift_113 : decode nc_S_performShift 113 = .ok (.ireturn, 1) := by decide +kernel
theorem nd_S_performShift_114 : decode nc_S_performShift 114 = .ok (.aload_n 0, 1) := by decide +kernel
theorem nd_S_performShift_115 : decode nc_S_performShift 115 = .ok (.iload_n 3, 1) := by decide +kernel
theorem nd_S_performShift_116 : decode nc_S_performShift 116 = .ok (.iload_n 2, 1) := by decide +kernel
theorem nd_S_performShift_117 : decode nc_S_performShift 117 = .ok (.iload 4, 2) := by decide +kernel
theorem nd_S_performShift_119 : decode nc_S_performShift 119 = .ok (.iushr, 1) := by decide +kernel
theorem nd_S_performShift_120 : decode nc_S_performShift 120 = .ok (.invokevirtual 205, 3) := by decide +kernel
theorem nd_S_performShift_123 : decode nc_S_performShift 123 = .ok (.ireturn, 1) := by decide +kernel
theorem nd_S_performShift_124 : decode nc_S_performShift 124 = .ok (.aload_n 0, 1) := by decide +kernel
theorem nd_S_performShift_125 : decode nc_S_performShift 125 = .ok (.iload_n 3, 1) := by decide +kernel
theorem nd_S_performShift_126 : decode nc_S_performShift 126 = .ok (.iload_n 2, 1) := by decide +kernel
theorem nd_S_performShift_127 : decode nc_S_performShift 127 = .ok (.iload 4, 2) := by decide +kernel
theorem nd_S_performShift_129 : decode nc_S_performShift 129 = .ok (.ishr, 1) := by decide +kernel
theorem nd_S_performShift_130 : decode nc_S_performShift 130 = .ok (.invokevirtual 205, 3) := by decide +kernel
theorem nd_S_performShift_133 : decode nc_S_performShift 133 = .ok (.ireturn, 1) := by decide +kernel
theorem nd_S_performJumpToS_0 : decode nc_S_performJumpToS 0 = .ok (.iload_n 1, 1) := by decide +kernel
theorem nd_S_performJumpToS_1 : decode nc_S_performJumpToS 1 = .ok (.invokestatic 209, 3) := by decide +kernel
theorem nd_S_performJumpToS_4 : decode nc_S_performJumpToS 4 = .ok (.bipush 9, 2) := by decide +kernel
theorem nd_S_performJumpToS_6 : decode nc_S_performJumpToS 6 = .ok (.if_icmp .ne 19, 3) := by decide +kernel
theorem nd_S_performJumpToS_9 : decode nc_S_performJumpToS 9 = .ok (.aload_n 0, 1) := by decide +kernel
theorem nd_S_performJumpToS_10 : decode nc_S_performJumpToS 10 = .ok (.iload_n 1, 1) := by decide +kernel
theorem nd_S_performJumpToS_11 : decode nc_S_performJumpToS 11 = .ok (.invokestatic 230, 3) := by decide +kernel
theorem nd_S_performJumpToS_14 : decode nc_S_performJumpToS 14 = .ok (.aload_n 0, 1) := by decide +kernel
theorem nd_S_performJumpToS_15 : decode nc_S_performJumpToS 15 = .ok (.getfield 76, 3) := by decide +kernel
theorem nd_S_performJumpToS_18 : decode nc_S_performJumpToS 18 = .ok (.bipush 8, 2) := by decide +kernel
theorem nd_S_performJumpToS_20 : decode nc_S_performJumpToS 20 = .ok (.iadd, 1) := by decide +kernel
theorem nd_S_performJumpToS_21 : decode nc_S_performJumpToS 21 = .ok (.invokevirtual 205, 3) := by decide +kernel
theorem nd_S_performJumpToS_24 : decode nc_S_performJumpToS 24 = .ok (.pop, 1) := by decide +kernel
theorem nd_S_performJumpToS_25 : decode nc_S_performJumpToS 25 = .ok (.aload_n 0, 1) := by decide +kernel
theorem nd_S_performJumpToS_26 : decode nc_S_performJumpToS 26 = .ok (.iconst 1, 1) := by decide +kernel
theorem nd_S_performJumpToS_27 : decode nc_S_performJumpToS 27 = .ok (.aload_n 0, 1) := by decide +kernel
theorem nd_S_performJumpToS_28 : decode nc_S_performJumpToS 28 = .ok (.iload_n 1, 1) := by decide +kernel
theorem nd_S_performJumpToS_29 : decode nc_S_performJumpToS 29 = .ok (.invokevirtual 233, 3) := by decide +kernel
theorem nd_S_performJumpToS_32 : decode nc_S_performJumpToS 32 = .ok (.invokevirtual 239, 3) := by decide +kernel
theorem nd_S_performJumpToS_35 : decode nc_S_performJumpToS 35 = .ok (.ireturn, 1) := by decide +kernel
theorem nd_S_performOnTwo_0 : decode nc_S_performOnTwo 0 = .ok (.aload_n 0, 1) := by decide +kernel
theorem nd_S_performOnTwo_1 : decode nc_S_performOnTwo 1 = .ok (.iload_n 1, 1) := by decide +kernel
theorem nd_S_performOnTwo_2 : decode nc_S_performOnTwo 2 = .ok (.invokevirtual 233, 3) := by decide +kernel
theorem nd_S_performOnTwo_5 : decode nc_S_performOnTwo 5 = .ok (.istore_n 2, 1) := by decide +kernel
theorem nd_S_performOnTwo_6 : decode nc_S_performOnTwo 6 = .ok (.aload_n 0, 1) := by decide +kernel
theorem nd_S_performOnTwo_7 : decode nc_S_performOnTwo 7 = .ok (.iload_n 1, 1) := by decide +kernel
theorem nd_S_performOnTwo_8 : decode nc_S_performOnTwo 8 = .ok (.invokevirtual 227, 3) := by decide +kernel
theorem nd_S_performOnTwo_11 : decode nc_S_performOnTwo 11 = .ok (.istore_n 3, 1) := by decide +kernel
theorem nd_S_performOnTwo_12 : decode nc_S_performOnTwo 12 = .ok (.iload_n 1, 1) := by decide +kernel
theorem nd_S_performOnTwo_13 : decode nc_S_performOnTwo 13 = .ok (.invokestatic 230, 3) := by decide +kernel
theorem nd_S_performOnTwo_16 : decode nc_S_performOnTwo 16 = .ok (.istore 4, 2) := by decide +kernel
theorem nd_S_performOnTwo_18 : decode nc_S_performOnTwo 18 = .ok (.iload_n 1, 1) := by decide +kernel
theorem nd_S_performOnTwo_19 : decode nc_S_performOnTwo 19 = .ok (.invokestatic 209, 3) := by decide +kernel
theorem nd_S_performOnTwo_22 : decode nc_S_performOnTwo 22 = .ok (.tableswitch 189 32 43 #[62, 74, 84, 96, 106, 116, 126, 136, 189, 189, 148, 165], 62) := by decide +kernel
theorem nd_S_performOnTwo_84 : decode nc_S_performOnTwo 84 = .ok (.aload_n 0, 1) := by decide +kernel
theorem nd_S_performOnTwo_85 : decode nc_S_performOnTwo 85 = .ok (.iload 4, 2) := by decide +kernel
theorem nd_S_performOnTwo_87 : decode nc_S_performOnTwo 87 = .ok (.iload_n 2, 1) := by decide +kernel
theorem nd_S_performOnTwo_88 : decode nc_S_performOnTwo 88 = .ok (.i2l, 1) := by decide +kernel
theorem nd_S_performOnTwo_89 : decode nc_S_performOnTwo 89 = .ok (.iload_n 3, 1) := by decide +kernel
theorem nd_S_performOnTwo_90 : decode nc_S_performOnTwo 90 = .ok (.i2l, 1) := by decide +kernel
theorem nd_S_performOnTwo_91 : decode nc_S_performOnTwo 91 = .ok (.ladd, 1) := by decide +kernel
theorem nd_S_performOnTwo_92 : decode nc_S_performOnTwo 92 = .ok (.invokevirtual 243, 3) := by decide +kernel
theorem nd_S_performOnTwo_95 : decode nc_S_performOnTwo 95 = .ok (.ireturn, 1) := by decide +kernel
theorem nd_S_performOnTwo_96 : decode nc_S_performOnTwo 96 = .ok (.aload_n 0, 1) := by decide +kernel
theorem nd_S_performOnTwo_97 : decode nc_S_performOnTwo 97 = .ok (.iload 4, 2) := by decide +kernel
theorem nd_S_performOnTwo_99 : decode nc_S_performOnTwo 99 = .ok (.iload_n 2, 1) := by decide +kernel
theorem nd_S_performOnTwo_100 : decode nc_S_performOnTwo 100 = .ok (.iload_n 3, 1) := by decide +kernel
theorem nd_S_performOnTwo_101 : decode nc_S_performOnTwo 101 = .ok (.iadd, 1) := by decide +kernel
theorem nd_S_performOnTwo_102 : decode nc_S_performOnTwo 102 = .ok (.invokevirtual 205, 3) := by decide +kernel
theorem nd_S_performOnTwo_105 : decode nc_S_performOnTwo 105 = .ok (.ireturn, 1) := by decide +kernel
theorem nd_S_performOnTwo_106 : decode nc_S_performOnTwo 106 = .ok (.aload_n 0, 1) := by decide +kernel
theorem nd_S_performOnTwo_107 : decode nc_S_performOnTwo 107 = .ok (.iload 4, 2) := by decide +kernel
theorem nd_S_performOnTwo_109 : decode nc_S_performOnTwo 109 = .ok (.iload_n 2, 1) := by decide +kernel
theorem nd_S_performOnTwo_110 : decode nc_S_performOnTwo 110 = .ok (.i2l, 1) := by decide +kernel
theorem nd_S_performOnTwo_111 : decode nc_S_performOnTwo 111 = .ok (.iload_n 3, 1) := by decide +kernel
theorem nd_S_performOnTwo_112 : decode nc_S_performOnTwo 112 = .ok (.i2l, 1) := by decide +kernel
theorem nd_S_performOnTwo_113 : decode nc_S_performOnTwo 113 = .ok (.lsub, 1) := by decide +kernel
theorem nd_S_performOnTwo_114 : decode nc_S_performOnTwo 114 = .ok (.invokevirtual 243, 3) := by decide +kernel
theorem nd_S_performOnTwo_117 : decode nc_S_performOnTwo 117 = .ok (.ireturn, 1) := by decide +kernel
theorem nd_S_performOnTwo_118 : decode nc_S_performOnTwo 118 = .ok (.aload_n 0, 1) := by decide +kernel
theorem nd_S_performOnTwo_119 : decode nc_S_performOnTwo 119 = .ok (.iload 4, 2) := by decide +kernel
theorem nd_S_performOnTwo_121 : decode nc_S_performOnTwo 121 = .ok (.iload_n 2, 1) := by decide +kernel
theorem nd_S_performOnTwo_122 : decode nc_S_performOnTwo 122 = .ok (.iload_n 3, 1) := by decide +kernel
theorem nd_S_performOnTwo_123 : decode nc_S_performOnTwo 123 = .ok (.isub, 1) := by decide +kernel
theorem nd_S_performOnTwo_124 : decode nc_S_performOnTwo 124 = .ok (.invokevirtual 205, 3) := by decide +kernel
theorem nd_S_performOnTwo_127 : decode nc_S_performOnTwo 127 = .ok (.ireturn, 1) := by decide +kernel
theorem nd_S_performOnTwo_128 : decode nc_S_performOnTwo 128 = .ok (.aload_n 0, 1) := by decide +kernel
theorem nd_S_performOnTwo_129 : decode nc_S_performOnTwo 129 = .ok (.iload 4, 2) := by decide +kernel
theorem nd_S_performOnTwo_131 : decode nc_S_performOnTwo 131 = .ok (.iload_n 2, 1) := by decide +kernel
theorem nd_S_performOnTwo_132 : decode nc_S_performOnTwo 132 = .ok (.iload_n 3, 1) := by decide +kernel
theorem nd_S_performOnTwo_133 : decode nc_S_performOnTwo 133 = .ok (.iand, 1) := by decide +kernel
theorem nd_S_performOnTwo_134 : decode nc_S_performOnTwo 134 = .ok (.invokevirtual 205, 3) := by decide +kernel
theorem nd_S_performOnTwo_137 : decode nc_S_performOnTwo 137 = .ok (.ireturn, 1) := by decide +kernel
theorem nd_S_performOnTwo_138 : decode nc_S_performOnTwo 138 = .ok (.aload_n 0, 1) := by decide +kernel
theorem nd_S_performOnTwo_139 : decode nc_S_performOnTwo 139 = .ok (.iload 4, 2) := by decide +kernel
theorem nd_S_performOnTwo_141 : decode nc_S_performOnTwo 141 = .ok (.iload_n 2, 1) := by decide +kernel
theorem nd_S_performOnTwo_142 : decode nc_S_performOnTwo 142 = .ok (.iload_n 3, 1) := by decide +kernel
theorem nd_S_performOnTwo_143 : decode nc_S_performOnTwo 143 = .ok (.ior, 1) := by decide +kernel
theorem nd_S_performOnTwo_144 : decode nc_S_performOnTwo 144 = .ok (.invokevirtual 205, 3) := by decide +kernel
theorem nd_S_performOnTwo_147 : decode nc_S_performOnTwo 147 = .ok (.ireturn, 1) := by decide +kernel
theorem nd_S_performOnTwo_148 : decode nc_S_performOnTwo 148 = .ok (.aload_n 0, 1) := by decide +kernel
theorem nd_S_performOnTwo_149 : decode nc_S_performOnTwo 149 = .ok (.iload 4, 2) := by decide +kernel
theorem nd_S_performOnTwo_151 : decode nc_S_performOnTwo 151 = .ok (.iload_n 2, 1) := by decide +kernel
theorem nd_S_performOnTwo_152 : decode nc_S_performOnTwo 152 = .ok (.iload_n 3, 1) := by decide +kernel
theorem nd_S_performOnTwo_153 : decode nc_S_performOnTwo 153 = .ok (.ixor, 1) := by decide +kernel
theorem nd_S_performOnTwo_154 : decode nc_S_performOnTwo 154 = .ok (.invokevirtual 205, 3) := by decide +kernel
theorem nd_S_performOnTwo_157 : decode nc_S_performOnTwo 157 = .ok (.ireturn, 1) := by decide +kernel
theorem nd_S_performOnTwo_158 : decode nc_S_performOnTwo 158 = .ok (.aload_n 0, 1) := by decide +kernel
theorem nd_S_performOnTwo_159 : decode nc_S_performOnTwo 159 = .ok (.iload 4, 2) := by decide +kernel
theorem nd_S_performOnTwo_161 : decode nc_S_performOnTwo 161 = .ok (.iload_n 2, 1) := by decide +kernel
theorem nd_S_performOnTwo_162 : decode nc_S_performOnTwo 162 = .ok (.iload_n 3, 1) := by decide +kernel
theorem nd_S_performOnTwo_163 : decode nc_S_performOnTwo 163 = .ok (.ior, 1) := by decide +kernel
theorem nd_S_performOnTwo_164 : decode nc_S_performOnTwo 164 = .ok (.iconst (-1), 1) := by decide +kernel
theorem nd_S_performOnTwo_165 : decode nc_S_performOnTwo 165 = .ok (.ixor, 1) := by decide +kernel
theorem nd_S_performOnTwo_166 : decode nc_S_performOnTwo 166 = .ok (.invokevirtual 205, 3) := by decide +kernel
theorem nd_S_performOnTwo_169 : decode nc_S_performOnTwo 169 = .ok (.ireturn, 1) := by decide +kernel
theorem nd_S_performOnTwo_170 : decode nc_S_performOnTwo 170 = .ok (.aload_n 0, 1) := by decide +kernel
theorem nd_S_performOnTwo_171 : decode nc_S_performOnTwo 171 = .ok (.iload 4, 2) := by decide +kernel
theorem nd_S_performOnTwo_173 : decode nc_S_performOnTwo 173 = .ok (.iload_n 2, 1) := by decide +kernel
theorem nd_S_performOnTwo_174 : decode nc_S_performOnTwo 174 = .ok (.iload_n 3, 1) := by decide +kernel
theorem nd_S_performOnTwo_175 : decode nc_S_performOnTwo 175 = .ok (.if_icmp .ge 7, 3) := by decide +kernel
theorem nd_S_performOnTwo_178 : decode nc_S_performOnTwo 178 = .ok (.iconst 1, 1) := by decide +kernel
theorem nd_S_performOnTwo_179 : decode nc_S_performOnTwo 179 = .ok (.goto 4, 3) := by decide +kernel
theorem nd_S_performOnTwo_182 : decode nc_S_performOnTwo 182 = .ok (.iconst 0, 1) := by decide +kernel
theorem nd_S_performOnTwo_183 : decode nc_S_performOnTwo 183 = .ok (.invokevirtual 247, 3) := by decide +kernel
theorem nd_S_performOnTwo_186 : decode nc_S_performOnTwo 186 = .ok (.ireturn, 1) := by decide +kernel
theorem nd_S_performOnTwo_187 : decode nc_S_performOnTwo 187 = .ok (.aload_n 0, 1) := by decide +kernel
theorem nd_S_performOnTwo_188 : decode nc_S_performOnTwo 188 = .ok (.iload 4, 2) := by decide +kernel
theorem nd_S_performOnTwo_190 : decode nc_S_performOnTwo 190 = .ok (.iload_n 2, 1) := by decide +kernel
theorem nd_S_performOnTwo_191 : decode nc_S_performOnTwo 191 = .ok (.invokestatic 251, 3) := by decide +kernel
theorem nd_S_performOnTwo_194 : decode nc_S_performOnTwo 194 = .ok (.iload_n 3, 1) := by decide +kernel
theorem nd_S_performOnTwo_195 : decode nc_S_performOnTwo 195 = .ok (.invokestatic 251, 3) := by decide +kernel
theorem nd_S_performOnTwo_198 : decode nc_S_performOnTwo 198 = .ok (.lcmp, 1) := by decide +kernel
theorem nd_S_performOnTwo_199 : decode nc_S_performOnTwo 199 = .ok (.ifCond .ge 7, 3) := by decide +kernel
theorem nd_S_performOnTwo_202 : decode nc_S_performOnTwo 202 = .ok (.iconst 1, 1) := by decide +kernel
theorem nd_S_performOnTwo_203 : decode nc_S_performOnTwo 203 = .ok (.goto 4, 3) := by decide +kernel
theorem nd_S_performOnTwo_206 : decode nc_S_performOnTwo 206 = .ok (.iconst 0, 1) := by decide +kernel
theorem nd_S_performOnTwo_207 : decode nc_S_performOnTwo 207 = .ok (.invokevirtual 247, 3) := by decide +kernel
theorem nd_S_performOnTwo_210 : decode nc_S_performOnTwo 210 = .ok (.ireturn, 1) := by decide +kernel
theorem nd_S_performOnTwo_211 : decode nc_S_performOnTwo 211 = .ok (.bipush 10, 2) := by decide +kernel
theorem nd_S_performOnTwo_213 : decode nc_S_performOnTwo 213 = .ok (.ireturn, 1) := by decide +kernel
theorem nd_S_performMove_0 : decode nc_S_performMove 0 = .ok (.iload_n 1, 1) := by decide +kernel
theorem nd_S_performMove_1 : decode nc_S_performMove 1 = .ok (.invokestatic 209, 3) := by decide +kernel
theorem nd_S_performMove_4 : decode nc_S_performMove 4 = .ok (.tableswitch 76 16 18 #[28, 46, 58], 28) := by decide +kernel
theorem nd_S_performMove_32 : decode nc_S_performMove 32 = .ok (.aload_n 0, 1) := by decide +kernel
theorem nd_S_performMove_33 : decode nc_S_performMove 33 = .ok (.iload_n 1, 1) := by decide +kernel
theorem nd_S_performMove_34 : decode nc_S_performMove 34 = .ok (.invokestatic 230, 3) := by decide +kernel
theorem nd_S_performMove_37 : decode nc_S_performMove 37 = .ok (.aload_n 0, 1) := by decide +kernel
theorem nd_S_performMove_38 : decode nc_S_performMove 38 = .ok (.getfield 19, 3) := by decide +kernel
theorem nd_S_performMove_41 : decode nc_S_performMove 41 = .ok (.bipush 32, 2) := by decide +kernel
theorem nd_S_performMove_43 : decode nc_S_performMove 43 = .ok (.invokevirtual 70, 3) := by decide +kernel
theorem nd_S_performMove_46 : decode nc_S_performMove 46 = .ok (.invokevirtual 205, 3) := by decide +kernel
theorem nd_S_performMove_49 : decode nc_S_performMove 49 = .ok (.ireturn, 1) := by decide +kernel
theorem nd_S_performMove_50 : decode nc_S_performMove 50 = .ok (.aload_n 0, 1) := by decide +kernel
theorem nd_S_performMove_51 : decode nc_S_performMove 51 = .ok (.bipush 32, 2) := by decide +kernel
theorem nd_S_performMove_53 : decode nc_S_performMove 53 = .ok (.aload_n 0, 1) := by decide +kernel
theorem nd_S_performMove_54 : decode nc_S_performMove 54 = .ok (.iload_n 1, 1) := by decide +kernel
theorem nd_S_performMove_55 : decode nc_S_performMove 55 = .ok (.invokevirtual 233, 3) := by decide +kernel
theorem nd_S_performMove_58 : decode nc_S_performMove 58 = .ok (.invokevirtual 205, 3) := by decide +kernel
theorem nd_S_performMove_61 : decode nc_S_performMove 61 = .ok (.ireturn, 1) := by decide +kernel
theorem nd_S_performMove_62 : decode nc_S_performMove 62 = .ok (.aload_n 0, 1) := by decide +kernel
theorem nd_S_performMove_63 : decode nc_S_performMove 63 = .ok (.iload_n 1, 1) := by decide +kernel
theorem nd_S_performMove_64 : decode nc_S_performMove 64 = .ok (.invokestatic 230, 3) := by decide +kernel
theorem nd_S_performMove_67 : decode nc_S_performMove 67 = .ok (.aload_n 0, 1) := by decide +kernel
theorem nd_S_performMove_68 : decode nc_S_performMove 68 = .ok (.getfield 19, 3) := by decide +kernel
theorem nd_S_performMove_71 : decode nc_S_performMove 71 = .ok (.bipush 33, 2) := by decide +kernel
theorem nd_S_performMove_73 : decode nc_S_performMove 73 = .ok (.invokevirtual 70, 3) := by decide +kernel
theorem nd_S_performMove_76 : decode nc_S_performMove 76 = .ok (.invokevirtual 205, 3) := by decide +kernel
theorem nd_S_performMove_79 : decode nc_S_performMove 79 = .ok (.ireturn, 1) := by decide +kernel
theorem nd_S_performMove_80 : decode nc_S_performMove 80 = .ok (.aload_n 0, 1) := by decide +kernel
theorem nd_S_performMove_81 : decode nc_S_performMove 81 = .ok (.bipush 33, 2) := by decide +kernel
theorem nd_S_performMove_83 : decode nc_S_performMove 83 = .ok (.aload_n 0, 1) := by decide +kernel
theorem nd_S_performMove_84 : decode nc_S_performMove 84 = .ok (.iload_n 1, 1) := by decide +kernel
theorem nd_S_performMove_85 : decode nc_S_performMove 85 = .ok (.invokevirtual 233, 3) := by decide +kernel
theorem nd_S_performMove_88 : decode nc_S_performMove 88 = .ok (.invokevirtual 205, 3) := by decide +kernel
theorem nd_S_performMove_91 : decode nc_S_performMove 91 = .ok (.ireturn, 1) := by decide +kernel
theorem nd_S_performProduct_0 : decode nc_S_performProduct 0 = .ok (.aload_n 0, 1) := by decide +kernel
theorem nd_S_performProduct_1 : decode nc_S_performProduct 1 = .ok (.iload_n 1, 1) := by decide +kernel
theorem nd_S_performProduct_2 : decode nc_S_performProduct 2 = .ok (.invokevirtual 233, 3) := by decide +kernel
theorem nd_S_performProduct_5 : decode nc_S_performProduct 5 = .ok (.istore_n 2, 1) := by decide +kernel
theorem nd_S_performProduct_6 : decode nc_S_performProduct 6 = .ok (.aload_n 0, 1) := by decide +kernel
theorem nd_S_performProduct_7 : decode nc_S_performProduct 7 = .ok (.iload_n 1, 1) := by decide +kernel
theorem nd_S_performProduct_8 : decode nc_S_performProduct 8 = .ok (.invokevirtual 227, 3) := by decide +kernel
theorem nd_S_performProduct_11 : decode nc_S_performProduct 11 = .ok (.istore_n 3, 1) := by decide +kernel
theorem nd_S_performProduct_12 : decode nc_S_performProduct 12 = .ok (.iload_n 1, 1) := by decide +kernel
theorem nd_S_performProduct_13 : decode nc_S_performProduct 13 = .ok (.invokestatic 209, 3) := by decide +kernel
theorem nd_S_performProduct_16 : decode nc_S_performProduct 16 = .ok (.tableswitch 62 24 26 #[28, 38, 52], 28) := by decide +kernel
theorem nd_S_performProduct_44 : decode nc_S_performProduct 44 = .ok (.aload_n 0, 1) := by decide +kernel
theorem nd_S_performProduct_45 : decode nc_S_performProduct 45 = .ok (.iload_n 2, 1) := by decide +kernel
theorem nd_S_performProduct_46 : decode nc_S_performProduct 46 = .ok (.i2l, 1) := by decide +kernel
theorem nd_S_performProduct_47 : decode nc_S_performProduct 47 = .ok (.iload_n 3, 1) := by decide +kernel
theorem nd_S_performProduct_48 : decode nc_S_performProduct 48 = .ok (.i2l, 1) := by decide +kernel
theorem nd_S_performProduct_49 : decode nc_S_performProduct 49 = .ok (.lmul, 1) := by decide +kernel
theorem nd_S_performProduct_50 : decode nc_S_performProduct 50 = .ok (.invokevirtual 255, 3) := by decide +kernel
theorem nd_S_performProduct_53 : decode nc_S_performProduct 53 = .ok (.ireturn, 1) := by decide +kernel
theorem nd_S_performProduct_54 : decode nc_S_performProduct 54 = .ok (.aload_n 0, 1) := by decide +kernel
theorem nd_S_performProduct_55 : decode nc_S_performProduct 55 = .ok (.iload_n 2, 1) := by decide +kernel
theorem nd_S_performProduct_56 : decode nc_S_performProduct 56 = .ok (.invokestatic 251, 3) := by decide +kernel
theorem nd_S_performProduct_59 : decode nc_S_performProduct 59 = .ok (.iload_n 3, 1) := by decide +kernel
theorem nd_S_performProduct_60 : decode nc_S_performProduct 60 = .ok (.invokestatic 251, 3) := by decide +kernel
theorem nd_S_performProduct_63 : decode nc_S_performProduct 63 = .ok (.lmul, 1) := by decide +kernel
theorem nd_S_performProduct_64 : decode nc_S_performProduct 64 = .ok (.invokevirtual 255, 3) := by decide +kernel
theorem nd_S_performProduct_67 : decode nc_S_performProduct 67 = .ok (.ireturn, 1) := by decide +kernel
theorem nd_S_performProduct_68 : decode nc_S_performProduct 68 = .ok (.aload_n 0, 1) := by decide +kernel
theorem nd_S_performProduct_69 : decode nc_S_performProduct 69 = .ok (.iload_n 2, 1) := by decide +kernel
theorem nd_S_performProduct_70 : decode nc_S_performProduct 70 = .ok (.iload_n 3, 1) := by decide +kernel
theorem nd_S_performProduct_71 : decode nc_S_performProduct 71 = .ok (.invokestatic 259, 3) := by decide +kernel
theorem nd_S_performProduct_74 : decode nc_S_performProduct 74 = .ok (.invokevirtual 255, 3) := by decide +kernel
theorem nd_S_performProduct_77 : decode nc_S_performProduct 77 = .ok (.ireturn, 1) := by decide +kernel
theorem nd_S_performProduct_78 : decode nc_S_performProduct 78 = .ok (.aload_n 0, 1) := by decide +kernel
theorem nd_S_performProduct_79 : decode nc_S_performProduct 79 = .ok (.iload_n 2, 1) := by decide +kernel
theorem nd_S_performProduct_80 : decode nc_S_performProduct 80 = .ok (.iload_n 3, 1) := by decide +kernel
theorem nd_S_performProduct_81 : decode nc_S_performProduct 81 = .ok (.invokestatic 263, 3) := by decide +kernel
theorem nd_S_performProduct_84 : decode nc_S_performProduct 84 = .ok (.invokevirtual 255, 3) := by decide +kernel
theorem nd_S_performProduct_87 : decode nc_S_performProduct 87 = .ok (.ireturn, 1) := by decide +kernel
theorem nd_S_divide_0 : decode nc_S_divide 0 = .ok (.iload_n 1, 1) := by decide +kernel
theorem nd_S_divide_1 : decode nc_S_divide 1 = .ok (.ifCond .ne 20, 3) := by decide +kernel
theorem nd_S_divide_4 : decode nc_S_divide 4 = .ok (.iload_n 0, 1) := by decide +kernel
theorem nd_S_divide_5 : decode nc_S_divide 5 = .ok (.i2l, 1) := by decide +kernel
theorem nd_S_divide_6 : decode nc_S_divide 6 = .ok (.iload_n 0, 1) := by decide +kernel
theorem nd_S_divide_7 : decode nc_S_divide 7 = .ok (.ifCond .ge 7, 3) := by decide +kernel
theorem nd_S_divide_10 : decode nc_S_divide 10 = .ok (.lconst 1, 1) := by decide +kernel
theorem nd_S_divide_11 : decode nc_S_divide 11 = .ok (.goto 6, 3) := by decide +kernel
theorem nd_S_divide_14 : decode nc_S_divide 14 = .ok (.ldc2_w 266, 3) := by decide +kernel
theorem nd_S_divide_17 : decode nc_S_divide 17 = .ok (.invokestatic 268, 3) := by decide +kernel
theorem nd_S_divide_20 : decode nc_S_divide 20 = .ok (.lreturn, 1) := by decide +kernel
theorem nd_S_divide_21 : decode nc_S_divide 21 = .ok (.iload_n 0, 1) := by decide +kernel
theorem nd_S_divide_22 : decode nc_S_divide 22 = .ok (.i2l, 1) := by decide +kernel
theorem nd_S_divide_23 : decode nc_S_divide 23 = .ok (.lstore_n 2, 1) := by decide +kernel
theorem nd_S_divide_24 : decode nc_S_divide 24 = .ok (.lload_n 2, 1) := by decide +kernel
theorem nd_S_divide_25 : decode nc_S_divide 25 = .ok (.iload_n 1, 1) := by decide +kernel
theorem nd_S_divide_26 : decode nc_S_divide 26 = .ok (.i2l, 1) := by decide +kernel
theorem nd_S_divide_27 : decode nc_S_divide 27 = .ok (.lrem, 1) := by decide +kernel
theorem nd_S_divide_28 : decode nc_S_divide 28 = .ok (.lload_n 2, 1) := by decide +kernel
theorem nd_S_divide_29 : decode nc_S_divide 29 = .ok (.iload_n 1, 1) := by decide +kernel
theorem nd_S_divide_30 : decode nc_S_divide 30 = .ok (.i2l, 1) := by decide +kernel
theorem nd_S_divide_31 : decode nc_S_divide 31 = .ok (.ldiv, 1) := by decide +kernel
theorem nd_S_divide_32 : decode nc_S_divide 32 = .ok (.invokestatic 268, 3) := by decide +kernel
theorem nd_S_divide_35 : decode nc_S_divide 35 = .ok (.lreturn, 1) := by decide +kernel
theorem nd_S_divideWithoutSign_0 : decode nc_S_divideWithoutSign 0 = .ok (.iload_n 1, 1) := by decide +kernel
theorem nd_S_divideWithoutSign_1 : decode nc_S_divideWithoutSign 1 = .ok (.ifCond .ne 12, 3) := by decide +kernel
theorem nd_S_divideWithoutSign_4 : decode nc_S_divideWithoutSign 4 = .ok (.iload_n 0, 1) := by decide +kernel
theorem nd_S_divideWithoutSign_5 : decode nc_S_divideWithoutSign 5 = .ok (.i2l, 1) := by decide +kernel
theorem nd_S_divideWithoutSign_6 : decode nc_S_divideWithoutSign 6 = .ok (.ldc2_w 266, 3) := by decide +kernel
theorem nd_S_divideWithoutSign_9 : decode nc_S_divideWithoutSign 9 = .ok (.invokestatic 268, 3) := by decide +kernel
theorem nd_S_divideWithoutSign_12 : decode nc_S_divideWithoutSign 12 = .ok (.lreturn, 1) := by decide +kernel
theorem nd_S_divideWithoutSign_13 : decode nc_S_divideWithoutSign 13 = .ok (.iload_n 0, 1) := by decide +kernel
theorem nd_S_divideWithoutSign_14 : decode nc_S_divideWithoutSign 14 = .ok (.invokestatic 251, 3) := by decide +kernel
theorem nd_S_divideWithoutSign_17 : decode nc_S_divideWithoutSign 17 = .ok (.lstore_n 2, 1) := by decide +kernel
theorem nd_S_divideWithoutSign_18 : decode nc_S_divideWithoutSign 18 = .ok (.iload_n 1, 1) := by decide +kernel
theorem nd_S_divideWithoutSign_19 : decode nc_S_divideWithoutSign 19 = .ok (.invokestatic 251, 3) := by decide +kernel
theorem nd_S_divideWithoutSign_22 : decode nc_S_divideWithoutSign 22 = .ok (.lstore 4, 2) := by decide +kernel
theorem nd_S_divideWithoutSign_24 : decode nc_S_divideWithoutSign 24 = .ok (.lload_n 2, 1) := by decide +kernel
