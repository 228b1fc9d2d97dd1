theorem nd_S_divideWithoutSign_25 : decode nc_S_divideWithoutSign 25 = .ok (.lload 4, 2) := by decide +kernel
theorem nd_S_divideWithoutSign_27 : decode nc_S_divideWithoutSign 27 = .ok (.lrem, 1) := by decide +kernel
theorem nd_S_divideWithoutSign_28 : decode nc_S_divideWithoutSign 28 = .ok (.lload_n 2, 1) := by decide +kernel
theorem nd_S_divideWithoutSign_29 : decode nc_S_divideWithoutSign 29 = .ok (.lload 4, 2) := by decide +kernel
theorem nd_S_divideWithoutSign_31 : decode nc_S_divideWithoutSign 31 = .ok (.ldiv, 1) := by decide +kernel
theorem nd_S_divideWithoutSign_32 : decode nc_S_divideWithoutSign 32 = .ok (.invokestatic 268, 3) := by decide +kernel
theorem nd_S_divideWithoutSign_35 : decode nc_S_divideWithoutSign 35 = .ok (.lreturn, 1) := by decide +kernel
theorem nd_S_restAndQuotient_0 : decode nc_S_restAndQuotient 0 = .ok (.lload_n 0, 1) := by decide +kernel
theorem nd_S_restAndQuotient_1 : decode nc_S_restAndQuotient 1 = .ok (.bipush 32, 2) := by decide +kernel
theorem nd_S_restAndQuotient_3 : decode nc_S_restAndQuotient 3 = .ok (.lshl, 1) := by decide +kernel
theorem nd_S_restAndQuotient_4 : decode nc_S_restAndQuotient 4 = .ok (.lload_n 2, 1) := by decide +kernel
theorem nd_S_restAndQuotient_5 : decode nc_S_restAndQuotient 5 = .ok (.ldc2_w 203, 3) := by decide +kernel
theorem nd_S_restAndQuotient_8 : decode nc_S_restAndQuotient 8 = .ok (.land, 1) := by decide +kernel
theorem nd_S_restAndQuotient_9 : decode nc_S_restAndQuotient 9 = .ok (.lor, 1) := by decide +kernel
theorem nd_S_restAndQuotient_10 : decode nc_S_restAndQuotient 10 = .ok (.lreturn, 1) := by decide +kernel
theorem nd_S_isBranch_0 : decode nc_S_isBranch 0 = .ok (.iload_n 0, 1) := by decide +kernel
theorem nd_S_isBranch_1 : decode nc_S_isBranch 1 = .ok (.invokestatic 169, 3) := by decide +kernel
theorem nd_S_isBranch_4 : decode nc_S_isBranch 4 = .ok (.istore_n 1, 1) := by decide +kernel
theorem nd_S_isBranch_5 : decode nc_S_isBranch 5 = .ok (.iload_n 1, 1) := by decide +kernel
theorem nd_S_isBranch_6 : decode nc_S_isBranch 6 = .ok (.ifCond .ne 27, 3) := by decide +kernel
theorem nd_S_isBranch_9 : decode nc_S_isBranch 9 = .ok (.iload_n 0, 1) := by decide +kernel
theorem nd_S_isBranch_10 : decode nc_S_isBranch 10 = .ok (.invokestatic 209, 3) := by decide +kernel
theorem nd_S_isBranch_13 : decode nc_S_isBranch 13 = .ok (.bipush 8, 2) := by decide +kernel
theorem nd_S_isBranch_15 : decode nc_S_isBranch 15 = .ok (.if_icmp .eq 12, 3) := by decide +kernel
theorem nd_S_isBranch_18 : decode nc_S_isBranch 18 = .ok (.iload_n 0, 1) := by decide +kernel
theorem nd_S_isBranch_19 : decode nc_S_isBranch 19 = .ok (.invokestatic 209, 3) := by decide +kernel
theorem nd_S_isBranch_22 : decode nc_S_isBranch 22 = .ok (.bipush 9, 2) := by decide +kernel
theorem nd_S_isBranch_24 : decode nc_S_isBranch 24 = .ok (.if_icmp .ne 7, 3) := by decide +kernel
theorem nd_S_isBranch_27 : decode nc_S_isBranch 27 = .ok (.iconst 1, 1) := by decide +kernel
theorem nd_S_isBranch_28 : decode nc_S_isBranch 28 = .ok (.goto 4, 3) := by decide +kernel
theorem nd_S_isBranch_31 : decode nc_S_isBranch 31 = .ok (.iconst 0, 1) := by decide +kernel
theorem nd_S_isBranch_32 : decode nc_S_isBranch 32 = .ok (.ireturn, 1) := by decide +kernel
theorem nd_S_isBranch_33 : decode nc_S_isBranch 33 = .ok (.iload_n 1, 1) := by decide +kernel
theorem nd_S_isBranch_34 : decode nc_S_isBranch 34 = .ok (.iconst 1, 1) := by decide +kernel
theorem nd_S_isBranch_35 : decode nc_S_isBranch 35 = .ok (.if_icmp .ne 8, 3) := by decide +kernel
theorem nd_S_isBranch_38 : decode nc_S_isBranch 38 = .ok (.iload_n 0, 1) := by decide +kernel
theorem nd_S_isBranch_39 : decode nc_S_isBranch 39 = .ok (.invokestatic 272, 3) := by decide +kernel
theorem nd_S_isBranch_42 : decode nc_S_isBranch 42 = .ok (.ireturn, 1) := by decide +kernel
theorem nd_S_isBranch_43 : decode nc_S_isBranch 43 = .ok (.iload_n 1, 1) := by decide +kernel
theorem nd_S_isBranch_44 : decode nc_S_isBranch 44 = .ok (.bipush 8, 2) := by decide +kernel
theorem nd_S_isBranch_46 : decode nc_S_isBranch 46 = .ok (.if_icmp .ge 7, 3) := by decide +kernel
theorem nd_S_isBranch_49 : decode nc_S_isBranch 49 = .ok (.iconst 1, 1) := by decide +kernel
theorem nd_S_isBranch_50 : decode nc_S_isBranch 50 = .ok (.goto 4, 3) := by decide +kernel
theorem nd_S_isBranch_53 : decode nc_S_isBranch 53 = .ok (.iconst 0, 1) := by decide +kernel
theorem nd_S_isBranch_54 : decode nc_S_isBranch 54 = .ok (.ireturn, 1) := by decide +kernel
theorem nd_S_isBranchBySign_0 : decode nc_S_isBranchBySign 0 = .ok (.iload_n 0, 1) := by decide +kernel
theorem nd_S_isBranchBySign_1 : decode nc_S_isBranchBySign 1 = .ok (.invokestatic 200, 3) := by decide +kernel
theorem nd_S_isBranchBySign_4 : decode nc_S_isBranchBySign 4 = .ok (.istore_n 1, 1) := by decide +kernel
theorem nd_S_isBranchBySign_5 : decode nc_S_isBranchBySign 5 = .ok (.iload_n 1, 1) := by decide +kernel
theorem nd_S_isBranchBySign_6 : decode nc_S_isBranchBySign 6 = .ok (.ifCond .eq 20, 3) := by decide +kernel
theorem nd_S_isBranchBySign_9 : decode nc_S_isBranchBySign 9 = .ok (.iload_n 1, 1) := by decide +kernel
theorem nd_S_isBranchBySign_10 : decode nc_S_isBranchBySign 10 = .ok (.iconst 1, 1) := by decide +kernel
theorem nd_S_isBranchBySign_11 : decode nc_S_isBranchBySign 11 = .ok (.if_icmp .eq 15, 3) := by decide +kernel
theorem nd_S_isBranchBySign_14 : decode nc_S_isBranchBySign 14 = .ok (.iload_n 1, 1) := by decide +kernel
theorem nd_S_isBranchBySign_15 : decode nc_S_isBranchBySign 15 = .ok (.bipush 16, 2) := by decide +kernel
theorem nd_S_isBranchBySign_17 : decode nc_S_isBranchBySign 17 = .ok (.if_icmp .eq 9, 3) := by decide +kernel
theorem nd_S_isBranchBySign_20 : decode nc_S_isBranchBySign 20 = .ok (.iload_n 1, 1) := by decide +kernel
theorem nd_S_isBranchBySign_21 : decode nc_S_isBranchBySign 21 = .ok (.bipush 17, 2) := by decide +kernel
theorem nd_S_isBranchBySign_23 : decode nc_S_isBranchBySign 23 = .ok (.if_icmp .ne 7, 3) := by decide +kernel
theorem nd_S_isBranchBySign_26 : decode nc_S_isBranchBySign 26 = .ok (.iconst 1, 1) := by decide +kernel
theorem nd_S_isBranchBySign_27 : decode nc_S_isBranchBySign 27 = .ok (.goto 4, 3) := by decide +kernel
theorem nd_S_isBranchBySign_30 : decode nc_S_isBranchBySign 30 = .ok (.iconst 0, 1) := by decide +kernel
theorem nd_S_isBranchBySign_31 : decode nc_S_isBranchBySign 31 = .ok (.ireturn, 1) := by decide +kernel
theorem nd_S_performBranchBySign_0 : decode nc_S_performBranchBySign 0 = .ok (.iload_n 1, 1) := by decide +kernel
theorem nd_S_performBranchBySign_1 : decode nc_S_performBranchBySign 1 = .ok (.invokestatic 272, 3) := by decide +kernel
theorem nd_S_performBranchBySign_4 : decode nc_S_performBranchBySign 4 = .ok (.ifCond .ne 6, 3) := by decide +kernel
theorem nd_S_performBranchBySign_7 : decode nc_S_performBranchBySign 7 = .ok (.bipush 10, 2) := by decide +kernel
theorem nd_S_performBranchBySign_9 : decode nc_S_performBranchBySign 9 = .ok (.ireturn, 1) := by decide +kernel
theorem nd_S_performBranchBySign_10 : decode nc_S_performBranchBySign 10 = .ok (.aload_n 0, 1) := by decide +kernel
theorem nd_S_performBranchBySign_11 : decode nc_S_performBranchBySign 11 = .ok (.iload_n 1, 1) := by decide +kernel
theorem nd_S_performBranchBySign_12 : decode nc_S_performBranchBySign 12 = .ok (.invokevirtual 233, 3) := by decide +kernel
theorem nd_S_performBranchBySign_15 : decode nc_S_performBranchBySign 15 = .ok (.istore_n 2, 1) := by decide +kernel
theorem nd_S_performBranchBySign_16 : decode nc_S_performBranchBySign 16 = .ok (.iload_n 1, 1) := by decide +kernel
theorem nd_S_performBranchBySign_17 : decode nc_S_performBranchBySign 17 = .ok (.invokestatic 200, 3) := by decide +kernel
theorem nd_S_performBranchBySign_20 : decode nc_S_performBranchBySign 20 = .ok (.istore_n 3, 1) := by decide +kernel
theorem nd_S_performBranchBySign_21 : decode nc_S_performBranchBySign 21 = .ok (.iload_n 3, 1) := by decide +kernel
theorem nd_S_performBranchBySign_22 : decode nc_S_performBranchBySign 22 = .ok (.bipush 16, 2) := by decide +kernel
theorem nd_S_performBranchBySign_24 : decode nc_S_performBranchBySign 24 = .ok (.if_icmp .eq 9, 3) := by decide +kernel
theorem nd_S_performBranchBySign_27 : decode nc_S_performBranchBySign 27 = .ok (.iload_n 3, 1) := by decide +kernel
theorem nd_S_performBranchBySign_28 : decode nc_S_performBranchBySign 28 = .ok (.bipush 17, 2) := by decide +kernel
theorem nd_S_performBranchBySign_30 : decode nc_S_performBranchBySign 30 = .ok (.if_icmp .ne 17, 3) := by decide +kernel
theorem nd_S_performBranchBySign_33 : decode nc_S_performBranchBySign 33 = .ok (.aload_n 0, 1) := by decide +kernel
theorem nd_S_performBranchBySign_34 : decode nc_S_performBranchBySign 34 = .ok (.bipush 31, 2) := by decide +kernel
theorem nd_S_performBranchBySign_36 : decode nc_S_performBranchBySign 36 = .ok (.aload_n 0, 1) := by decide +kernel
theorem nd_S_performBranchBySign_37 : decode nc_S_performBranchBySign 37 = .ok (.getfield 76, 3) := by decide +kernel
theorem nd_S_performBranchBySign_40 : decode nc_S_performBranchBySign 40 = .ok (.bipush 8, 2) := by decide +kernel
theorem nd_S_performBranchBySign_42 : decode nc_S_performBranchBySign 42 = .ok (.iadd, 1) := by decide +kernel
theorem nd_S_performBranchBySign_43 : decode nc_S_performBranchBySign 43 = .ok (.invokevirtual 205, 3) := by decide +kernel
theorem nd_S_performBranchBySign_46 : decode nc_S_performBranchBySign 46 = .ok (.pop, 1) := by decide +kernel
theorem nd_S_performBranchBySign_47 : decode nc_S_performBranchBySign 47 = .ok (.iload_n 3, 1) := by decide +kernel
theorem nd_S_performBranchBySign_48 : decode nc_S_performBranchBySign 48 = .ok (.ifCond .eq 9, 3) := by decide +kernel
theorem nd_S_performBranchBySign_51 : decode nc_S_performBranchBySign 51 = .ok (.iload_n 3, 1) := by decide +kernel
theorem nd_S_performBranchBySign_52 : decode nc_S_performBranchBySign 52 = .ok (.bipush 16, 2) := by decide +kernel
theorem nd_S_performBranchBySign_54 : decode nc_S_performBranchBySign 54 = .ok (.if_icmp .ne 7, 3) := by decide +kernel
theorem nd_S_performBranchBySign_57 : decode nc_S_performBranchBySign 57 = .ok (.iconst 1, 1) := by decide +kernel
theorem nd_S_performBranchBySign_58 : decode nc_S_performBranchBySign 58 = .ok (.goto 4, 3) := by decide +kernel
theorem nd_S_performBranchBySign_61 : decode nc_S_performBranchBySign 61 = .ok (.iconst 0, 1) := by decide +kernel
theorem nd_S_performBranchBySign_62 : decode nc_S_performBranchBySign 62 = .ok (.istore 4, 2) := by decide +kernel
theorem nd_S_performBranchBySign_64 : decode nc_S_performBranchBySign 64 = .ok (.aload_n 0, 1) := by decide +kernel
theorem nd_S_performBranchBySign_65 : decode nc_S_performBranchBySign 65 = .ok (.iload 4, 2) := by decide +kernel
theorem nd_S_performBranchBySign_67 : decode nc_S_performBranchBySign 67 = .ok (.iload_n 2, 1) := by decide +kernel
theorem nd_S_performBranchBySign_68 : decode nc_S_performBranchBySign 68 = .ok (.ifCond .ge 7, 3) := by decide +kernel
theorem nd_S_performBranchBySign_71 : decode nc_S_performBranchBySign 71 = .ok (.iconst 1, 1) := by decide +kernel
theorem nd_S_performBranchBySign_72 : decode nc_S_performBranchBySign 72 = .ok (.goto 4, 3) := by decide +kernel
theorem nd_S_performBranchBySign_75 : decode nc_S_performBranchBySign 75 = .ok (.iconst 0, 1) := by decide +kernel
theorem nd_S_performBranchBySign_76 : decode nc_S_performBranchBySign 76 = .ok (.if_icmp .ne 7, 3) := by decide +kernel
theorem nd_S_performBranchBySign_79 : decode nc_S_performBranchBySign 79 = .ok (.iconst 1, 1) := by decide +kernel
theorem nd_S_performBranchBySign_80 : decode nc_S_performBranchBySign 80 = .ok (.goto 4, 3) := by decide +kernel
theorem nd_S_performBranchBySign_83 : decode nc_S_performBranchBySign 83 = .ok (.iconst 0, 1) := by decide +kernel
theorem nd_S_performBranchBySign_84 : decode nc_S_performBranchBySign 84 = .ok (.aload_n 0, 1) := by decide +kernel
theorem nd_S_performBranchBySign_85 : decode nc_S_performBranchBySign 85 = .ok (.iload_n 1, 1) := by decide +kernel
theorem nd_S_performBranchBySign_86 : decode nc_S_performBranchBySign 86 = .ok (.invokevirtual 275, 3) := by decide +kernel
theorem nd_S_performBranchBySign_89 : decode nc_S_performBranchBySign 89 = .ok (.invokevirtual 239, 3) := by decide +kernel
theorem nd_S_performBranchBySign_92 : decode nc_S_performBranchBySign 92 = .ok (.ireturn, 1) := by decide +kernel
theorem nd_S_performJump_0 : decode nc_S_performJump 0 = .ok (.iload_n 1, 1) := by decide +kernel
theorem nd_S_performJump_1 : decode nc_S_performJump 1 = .ok (.invokestatic 169, 3) := by decide +kernel
theorem nd_S_performJump_4 : decode nc_S_performJump 4 = .ok (.iconst 3, 1) := by decide +kernel
theorem nd_S_performJump_5 : decode nc_S_performJump 5 = .ok (.if_icmp .ne 17, 3) := by decide +kernel
theorem nd_S_performJump_8 : decode nc_S_performJump 8 = .ok (.aload_n 0, 1) := by decide +kernel
theorem nd_S_performJump_9 : decode nc_S_performJump 9 = .ok (.bipush 31, 2) := by decide +kernel
theorem nd_S_performJump_11 : decode nc_S_performJump 11 = .ok (.aload_n 0, 1) := by decide +kernel
theorem nd_S_performJump_12 : decode nc_S_performJump 12 = .ok (.getfield 76, 3) := by decide +kernel
theorem nd_S_performJump_15 : decode nc_S_performJump 15 = .ok (.bipush 8, 2) := by decide +kernel
theorem nd_S_performJump_17 : decode nc_S_performJump 17 = .ok (.iadd, 1) := by decide +kernel
theorem nd_S_performJump_18 : decode nc_S_performJump 18 = .ok (.invokevirtual 205, 3) := by decide +kernel
theorem nd_S_performJump_21 : decode nc_S_performJump 21 = .ok (.pop, 1) := by decide +kernel
theorem nd_S_performJump_22 : decode nc_S_performJump 22 = .ok (.aload_n 0, 1) := by decide +kernel
theorem nd_S_performJump_23 : decode nc_S_performJump 23 = .ok (.iconst 1, 1) := by decide +kernel
theorem nd_S_performJump_24 : decode nc_S_performJump 24 = .ok (.aload_n 0, 1) := by decide +kernel
theorem nd_S_performJump_25 : decode nc_S_performJump 25 = .ok (.iload_n 1, 1) := by decide +kernel
theorem nd_S_performJump_26 : decode nc_S_performJump 26 = .ok (.invokevirtual 278, 3) := by decide +kernel
theorem nd_S_performJump_29 : decode nc_S_performJump 29 = .ok (.invokevirtual 239, 3) := by decide +kernel
theorem nd_S_performJump_32 : decode nc_S_performJump 32 = .ok (.ireturn, 1) := by decide +kernel
theorem nd_S_performBranch_0 : decode nc_S_performBranch 0 = .ok (.aload_n 0, 1) := by decide +kernel
theorem nd_S_performBranch_1 : decode nc_S_performBranch 1 = .ok (.iload_n 1, 1) := by decide +kernel
theorem nd_S_performBranch_2 : decode nc_S_performBranch 2 = .ok (.invokevirtual 233, 3) := by decide +kernel
theorem nd_S_performBranch_5 : decode nc_S_performBranch 5 = .ok (.istore_n 2, 1) := by decide +kernel
theorem nd_S_performBranch_6 : decode nc_S_performBranch 6 = .ok (.aload_n 0, 1) := by decide +kernel
theorem nd_S_performBranch_7 : decode nc_S_performBranch 7 = .ok (.iload_n 1, 1) := by decide +kernel
theorem nd_S_performBranch_8 : decode nc_S_performBranch 8 = .ok (.invokevirtual 227, 3) := by decide +kernel
theorem nd_S_performBranch_11 : decode nc_S_performBranch 11 = .ok (.istore_n 3, 1) := by decide +kernel
theorem nd_S_performBranch_12 : decode nc_S_performBranch 12 = .ok (.iload_n 1, 1) := by decide +kernel
theorem nd_S_performBranch_13 : decode nc_S_performBranch 13 = .ok (.invokestatic 169, 3) := by decide +kernel
theorem nd_S_performBranch_16 : decode nc_S_performBranch 16 = .ok (.tableswitch 87 4 6 #[28, 48, 68], 28) := by decide +kernel
theorem nd_S_performBranch_44 : decode nc_S_performBranch 44 = .ok (.aload_n 0, 1) := by decide +kernel
theorem nd_S_performBranch_45 : decode nc_S_performBranch 45 = .ok (.iload_n 2, 1) := by decide +kernel
theorem nd_S_performBranch_46 : decode nc_S_performBranch 46 = .ok (.iload_n 3, 1) := by decide +kernel
theorem nd_S_performBranch_47 : decode nc_S_performBranch 47 = .ok (.if_icmp .ne 7, 3) := by decide +kernel
theorem nd_S_performBranch_50 : decode nc_S_performBranch 50 = .ok (.iconst 1, 1) := by decide +kernel
theorem nd_S_performBranch_51 : decode nc_S_performBranch 51 = .ok (.goto 4, 3) := by decide +kernel
theorem nd_S_performBranch_54 : decode nc_S_performBranch 54 = .ok (.iconst 0, 1) := by decide +kernel
theorem nd_S_performBranch_55 : decode nc_S_performBranch 55 = .ok (.aload_n 0, 1) := by decide +kernel
theorem nd_S_performBranch_56 : decode nc_S_performBranch 56 = .ok (.iload_n 1, 1) := by decide +kernel
theorem nd_S_performBranch_57 : decode nc_S_performBranch 57 = .ok (.invokevirtual 275, 3) := by decide +kernel
theorem nd_S_performBranch_60 : decode nc_S_performBranch 60 = .ok (.invokevirtual 239, 3) := by decide +kernel
theorem nd_S_performBranch_63 : decode nc_S_performBranch 63 = .ok (.ireturn, 1) := by decide +kernel
theorem nd_S_performBranch_64 : decode nc_S_performBranch 64 = .ok (.aload_n 0, 1) := by decide +kernel
theorem nd_S_performBranch_65 : decode nc_S_performBranch 65 = .ok (.iload_n 2, 1) := by decide +kernel
theorem nd_S_performBranch_66 : decode nc_S_performBranch 66 = .ok (.iload_n 3, 1) := by decide +kernel
theorem nd_S_performBranch_67 : decode nc_S_performBranch 67 = .ok (.if_icmp .eq 7, 3) := by decide +kernel
theorem nd_S_performBranch_70 : decode nc_S_performBranch 70 = .ok (.iconst 1, 1) := by decide +kernel
theorem nd_S_performBranch_71 : decode nc_S_performBranch 71 = .ok (.goto 4, 3) := by decide +kernel
theorem nd_S_performBranch_74 : decode nc_S_performBranch 74 = .ok (.iconst 0, 1) := by decide +kernel
theorem nd_S_performBranch_75 : decode nc_S_performBranch 75 = .ok (.aload_n 0, 1) := by decide +kernel
theorem nd_S_performBranch_76 : decode nc_S_performBranch 76 = .ok (.iload_n 1, 1) := by decide +kernel
theorem nd_S_performBranch_77 : decode nc_S_performBranch 77 = .ok (.invokevirtual 275, 3) := by decide +kernel
theorem nd_S_performBranch_80 : decode nc_S_performBranch 80 = .ok (.invokevirtual 239, 3) := by decide +kernel
theorem nd_S_performBranch_83 : decode nc_S_performBranch 83 = .ok (.ireturn, 1) := by decide +kernel
theorem nd_S_performBranch_84 : decode nc_S_performBranch 84 = .ok (.aload_n 0, 1) := by decide +kernel
theorem nd_S_performBranch_85 : decode nc_S_performBranch 85 = .ok (.iload_n 2, 1) := by decide +kernel
theorem nd_S_performBranch_86 : decode nc_S_performBranch 86 = .ok (.ifCond .gt 7, 3) := by decide +kernel
theorem nd_S_performBranch_89 : decode nc_S_performBranch 89 = .ok (.iconst 1, 1) := by decide +kernel
theorem nd_S_performBranch_90 : decode nc_S_performBranch 90 = .ok (.goto 4, 3) := by decide +kernel
theorem nd_S_performBranch_93 : decode nc_S_performBranch 93 = .ok (.iconst 0, 1) := by decide +kernel
theorem nd_S_performBranch_94 : decode nc_S_performBranch 94 = .ok (.aload_n 0, 1) := by decide +kernel
theorem nd_S_performBranch_95 : decode nc_S_performBranch 95 = .ok (.iload_n 1, 1) := by decide +kernel
theorem nd_S_performBranch_96 : decode nc_S_performBranch 96 = .ok (.invokevirtual 275, 3) := by decide +kernel
theorem nd_S_performBranch_99 : decode nc_S_performBranch 99 = .ok (.invokevirtual 239, 3) := by decide +kernel
theorem nd_S_performBranch_102 : decode nc_S_performBranch 102 = .ok (.ireturn, 1) := by decide +kernel
theorem nd_S_performBranch_103 : decode nc_S_performBranch 103 = .ok (.aload_n 0, 1) := by decide +kernel
theorem nd_S_performBranch_104 : decode nc_S_performBranch 104 = .ok (.iload_n 2, 1) := by decide +kernel
theorem nd_S_performBranch_105 : decode nc_S_performBranch 105 = .ok (.ifCond .le 7, 3) := by decide +kernel
theorem nd_S_performBranch_108 : decode nc_S_performBranch 108 = .ok (.iconst 1, 1) := by decide +kernel
theorem nd_S_performBranch_109 : decode nc_S_performBranch 109 = .ok (.goto 4, 3) := by decide +kernel
theorem nd_S_performBranch_112 : decode nc_S_performBranch 112 = .ok (.iconst 0, 1) := by decide +kernel
theorem nd_S_performBranch_113 : decode nc_S_performBranch 113 = .ok (.aload_n 0, 1) := by decide +kernel
theorem nd_S_performBranch_114 : decode nc_S_performBranch 114 = .ok (.iload_n 1, 1) := by decide +kernel
theorem nd_S_performBranch_115 : decode nc_S_performBranch 115 = .ok (.invokevirtual 275, 3) := by decide +kernel
theorem nd_S_performBranch_118 : decode nc_S_performBranch 118 = .ok (.invokevirtual 239, 3) := by decide +kernel
theorem nd_S_performBranch_121 : decode nc_S_performBranch 121 = .ok (.ireturn, 1) := by decide +kernel
theorem nd_S_nearTarget_0 : decode nc_S_nearTarget 0 = .ok (.aload_n 0, 1) := by decide +kernel
theorem nd_S_nearTarget_1 : decode nc_S_nearTarget 1 = .ok (.getfield 76, 3) := by decide +kernel
theorem nd_S_nearTarget_4 : decode nc_S_nearTarget 4 = .ok (.iconst 4, 1) := by decide +kernel
theorem nd_S_nearTarget_5 : decode nc_S_nearTarget 5 = .ok (.iadd, 1) := by decide +kernel
theorem nd_S_nearTarget_6 : decode nc_S_nearTarget 6 = .ok (.iconst 4, 1) := by decide +kernel
theorem nd_S_nearTarget_7 : decode nc_S_nearTarget 7 = .ok (.iload_n 1, 1) := by decide +kernel
theorem nd_S_nearTarget_8 : decode nc_S_nearTarget 8 = .ok (.invokestatic 281, 3) := by decide +kernel
theorem nd_S_nearTarget_11 : decode nc_S_nearTarget 11 = .ok (.imul, 1) := by decide +kernel
theorem nd_S_nearTarget_12 : decode nc_S_nearTarget 12 = .ok (.iadd, 1) := by decide +kernel
theorem nd_S_nearTarget_13 : decode nc_S_nearTarget 13 = .ok (.ireturn, 1) := by decide +kernel
theorem nd_S_farTarget_0 : decode nc_S_farTarget 0 = .ok (.aload_n 0, 1) := by decide +kernel
theorem nd_S_farTarget_1 : decode nc_S_farTarget 1 = .ok (.getfield 76, 3) := by decide +kernel
theorem nd_S_farTarget_4 : decode nc_S_farTarget 4 = .ok (.iconst 4, 1) := by decide +kernel
theorem nd_S_farTarget_5 : decode nc_S_farTarget 5 = .ok (.iadd, 1) := by decide +kernel
theorem nd_S_farTarget_6 : decode nc_S_farTarget 6 = .ok (.ldc_w 284, 3) := by decide +kernel
theorem nd_S_farTarget_9 : decode nc_S_farTarget 9 = .ok (.iand, 1) := by decide +kernel
theorem nd_S_farTarget_10 : decode nc_S_farTarget 10 = .ok (.iload_n 1, 1) := by decide +kernel
theorem nd_S_farTarget_11 : decode nc_S_farTarget 11 = .ok (.iconst 2, 1) := by decide +kernel
theorem nd_S_farTarget_12 : decode nc_S_farTarget 12 = .ok (.ishl, 1) := by decide +kernel
theorem nd_S_farTarget_13 : decode nc_S_farTarget 13 = .ok (.ldc_w 285, 3) := by decide +kernel
theorem nd_S_farTarget_16 : decode nc_S_farTarget 16 = .ok (.iand, 1) := by decide +kernel
theorem nd_S_farTarget_17 : decode nc_S_farTarget 17 = .ok (.ior, 1) := by decide +kernel
theorem nd_S_farTarget_18 : decode nc_S_farTarget 18 = .ok (.ireturn, 1) := by decide +kernel
theorem nd_S_performWithNumber_0 : decode nc_S_performWithNumber 0 = .ok (.aload_n 0, 1) := by decide +kernel
theorem nd_S_performWithNumber_1 : decode nc_S_performWithNumber 1 = .ok (.iload_n 1, 1) := by decide +kernel
theorem nd_S_performWithNumber_2 : decode nc_S_performWithNumber 2 = .ok (.invokevirtual 233, 3) := by decide +kernel
theorem nd_S_performWithNumber_5 : decode nc_S_performWithNumber 5 = .ok (.istore_n 2, 1) := by decide +kernel
theorem nd_S_performWithNumber_6 : decode nc_S_performWithNumber 6 = .ok (.iload_n 1, 1) := by decide +kernel
theorem nd_S_performWithNumber_7 : decode nc_S_performWithNumber 7 = .ok (.invokestatic 200, 3) := by decide +kernel
theorem nd_S_performWithNumber_10 : decode nc_S_performWithNumber 10 = .ok (.istore_n 3, 1) := by decide +kernel
theorem nd_S_performWithNumber_11 : decode nc_S_performWithNumber 11 = .ok (.iload_n 1, 1) := by decide +kernel
theorem nd_S_performWithNumber_12 : decode nc_S_performWithNumber 12 = .ok (.invokestatic 281, 3) := by decide +kernel
theorem nd_S_performWithNumber_15 : decode nc_S_performWithNumber 15 = .ok (.istore 4, 2) := by decide +kernel
theorem nd_S_performWithNumber_17 : decode nc_S_performWithNumber 17 = .ok (.iload_n 1, 1) := by decide +kernel
theorem nd_S_performWithNumber_18 : decode nc_S_performWithNumber 18 = .ok (.invokestatic 286, 3) := by decide +kernel
theorem nd_S_performWithNumber_21 : decode nc_S_performWithNumber 21 = .ok (.istore 5, 2) := by decide +kernel
theorem nd_S_performWithNumber_23 : decode nc_S_performWithNumber 23 = .ok (.iload_n 1, 1) := by decide +kernel
theorem nd_S_performWithNumber_24 : decode nc_S_performWithNumber 24 = .ok (.invokestatic 169, 3) := by decide +kernel
theorem nd_S_performWithNumber_27 : decode nc_S_performWithNumber 27 = .ok (.tableswitch 134 8 14 #[41, 53, 63, 80, 104, 114, 124], 41) := by decide +kernel
theorem nd_S_performWithNumber_68 : decode nc_S_performWithNumber 68 = .ok (.aload_n 0, 1) := by decide +kernel
theorem nd_S_performWithNumber_69 : decode nc_S_performWithNumber 69 = .ok (.iload_n 3, 1) := by decide +kernel
theorem nd_S_performWithNumber_70 : decode nc_S_performWithNumber 70 = .ok (.iload_n 2, 1) := by decide +kernel
theorem nd_S_performWithNumber_71 : decode nc_S_performWithNumber 71 = .ok (.i2l, 1) := by decide +kernel
theorem nd_S_performWithNumber_72 : decode nc_S_performWithNumber 72 = .ok (.iload 4, 2) := by decide +kernel
theorem nd_S_performWithNumber_74 : decode nc_S_performWithNumber 74 = .ok (.i2l, 1) := by decide +kernel
theorem nd_S_performWithNumber_75 : decode nc_S_performWithNumber 75 = .ok (.ladd, 1) := by decide +kernel
theorem nd_S_performWithNumber_76 : decode nc_S_performWithNumber 76 = .ok (.invokevirtual 243, 3) := by decide +kernel
theorem nd_S_performWithNumber_79 : decode nc_S_performWithNumber 79 = .ok (.ireturn, 1) := by decide +kernel
theorem nd_S_performWithNumber_80 : decode nc_S_performWithNumber 80 = .ok (.aload_n 0, 1) := by decide +kernel
theorem nd_S_performWithNumber_81 : decode nc_S_performWithNumber 81 = .ok (.iload_n 3, 1) := by decide +kernel
theorem nd_S_performWithNumber_82 : decode nc_S_performWithNumber 82 = .ok (.iload_n 2, 1) := by decide +kernel
theorem nd_S_performWithNumber_83 : decode nc_S_performWithNumber 83 = .ok (.iload 4, 2) := by decide +kernel
theorem nd_S_performWithNumber_85 : decode nc_S_performWithNumber 85 = .ok (.iadd, 1) := by decide +kernel
theorem nd_S_performWithNumber_86 : decode nc_S_performWithNumber 86 = .ok (.invokevirtual 205, 3) := by decide +kernel
theorem nd_S_performWithNumber_89 : decode nc_S_performWithNumber 89 = .ok (.ireturn, 1) := by decide +kernel
theorem nd_S_performWithNumber_90 : decode nc_S_performWithNumber 90 = .ok (.aload_n 0, 1) := by decide +kernel
theorem nd_S_performWithNumber_91 : decode nc_S_performWithNumber 91 = .ok (.iload_n 3, 1) := by decide +kernel
theorem nd_S_performWithNumber_92 : decode nc_S_performWithNumber 92 = .ok (.iload_n 2, 1) := by decide +kernel
theorem nd_S_performWithNumber_93 : decode nc_S_performWithNumber 93 = .ok (.iload 4, 2) := by decide +kernel
theorem nd_S_performWithNumber_95 : decode nc_S_performWithNumber 95 = .ok (.if_icmp .ge 7, 3) := by decide +kernel
theorem nd_S_performWithNumber_98 : decode nc_S_performWithNumber 98 = .ok (.iconst 1, 1) := by decide +kernel
theorem nd_S_performWithNumber_99 : decode nc_S_performWithNumber 99 = .ok (.goto 4, 3) := by decide +kernel
theorem nd_S_performWithNumber_102 : decode nc_S_performWithNumber 102 = .ok (.iconst 0, 1) := by decide +kernel
theorem nd_S_performWithNumber_103 : decode nc_S_performWithNumber 103 = .ok (.invokevirtual 247, 3) := by decide +kernel
theorem nd_S_performWithNumber_106 : decode nc_S_performWithNumber 106 = .ok (.ireturn, 1) := by decide +kernel
theorem nd_S_performWithNumber_107 : decode nc_S_performWithNumber 107 = .ok (.aload_n 0, 1) := by decide +kernel
theorem nd_S_performWithNumber_108 : decode nc_S_performWithNumber 108 = .ok (.iload_n 3, 1) := by decide +kernel
theorem nd_S_performWithNumber_109 : decode nc_S_performWithNumber 109 = .ok (.iload_n 2, 1) := by decide +kernel
theorem nd_S_performWithNumber_110 : decode nc_S_performWithNumber 110 = .ok (.invokestatic 251, 3) := by decide +kernel
theorem nd_S_performWithNumber_113 : decode nc_S_performWithNumber 113 = .ok (.iload 4, 2) := by decide +kernel
theorem nd_S_performWithNumber_115 : decode nc_S_performWithNumber 115 = .ok (.invokestatic 251, 3) := by decide +kernel
theorem nd_S_performWithNumber_118 : decode nc_S_performWithNumber 118 = .ok (.lcmp, 1) := by decide +kernel
theorem nd_S_performWithNumber_119 : decode nc_S_performWithNumber 119 = .ok (.ifCond .ge 7, 3) := by decide +kernel
theorem nd_S_performWithNumber_122 : decode nc_S_performWithNumber 122 = .ok (.iconst 1, 1) := by decide +kernel
theorem nd_S_performWithNumber_123 : decode nc_S_performWithNumber 123 = .ok (.goto 4, 3) := by decide +kernel
theorem nd_S_performWithNumber_126 : decode nc_S_performWithNumber 126 = .ok (.iconst 0, 1) := by decide +kernel
theorem nd_S_performWithNumber_127 : decode nc_S_performWithNumber 127 = .ok (.invokevirtual 247, 3) := by decide +kernel
theorem nd_S_performWithNumber_130 : decode nc_S_performWithNumber 130 = .ok (.ireturn, 1) := by decide +kernel
theorem nd_S_performWithNumber_131 : decode nc_S_performWithNumber 131 = .ok (.aload_n 0, 1) := by decide +kernel
theorem nd_S_performWithNumber_132 : decode nc_S_performWithNumber 132 = .ok (.iload_n 3, 1) := by decide +kernel
theorem nd_S_performWithNumber_133 : decode nc_S_performWithNumber 133 = .ok (.iload_n 2, 1) := by decide +kernel
theorem nd_S_performWithNumber_134 : decode nc_S_performWithNumber 134 = .ok (.iload 5, 2) := by decide +kernel
theorem nd_S_performWithNumber_136 : decode nc_S_performWithNumber 136 = .ok (.iand, 1) := by decide +kernel
theorem nd_S_performWithNumber_137 : decode nc_S_performWithNumber 137 = .ok (.invokevirtual 205, 3) := by decide +kernel
theorem nd_S_performWithNumber_140 : decode nc_S_performWithNumber 140 = .ok (.ireturn, 1) := by decide +kernel
theorem nd_S_performWithNumber_141 : decode nc_S_performWithNumber 141 = .ok (.aload_n 0, 1) := by decide +kernel
theorem nd_S_performWithNumber_142 : decode nc_S_performWithNumber 142 = .ok (.iload_n 3, 1) := by decide +kernel
theorem nd_S_performWithNumber_143 : decode nc_S_performWithNumber 143 = .ok (.iload_n 2, 1) := by decide +kernel
theorem nd_S_performWithNumber_144 : decode nc_S_performWithNumber 144 = .ok (.iload 5, 2) := by decide +kernel
theorem nd_S_performWithNumber_146 : decode nc_S_performWithNumber 146 = .ok (.ior, 1) := by decide +kernel
theorem nd_S_performWithNumber_147 : decode nc_S_performWithNumber 147 = .ok (.invokevirtual 205, 3) := by decide +kernel
theorem nd_S_performWithNumber_150 : decode nc_S_performWithNumber 150 = .ok (.ireturn, 1) := by decide +kernel
theorem nd_S_performWithNumber_151 : decode nc_S_performWithNumber 151 = .ok (.aload_n 0, 1) := by decide +kernel
theorem nd_S_performWithNumber_152 : decode nc_S_performWithNumber 152 = .ok (.iload_n 3, 1) := by decide +kernel
theorem nd_S_performWithNumber_153 : decode nc_S_performWithNumber 153 = .ok (.iload_n 2, 1) := by decide +kernel
theorem nd_S_performWithNumber_154 : decode nc_S_performWithNumber 154 = .ok (.iload 5, 2) := by decide +kernel
theorem nd_S_performWithNumber_156 : decode nc_S_performWithNumber 156 = .ok (.ixor, 1) := by decide +kernel
theorem nd_S_performWithNumber_157 : decode nc_S_performWithNumber 157 = .ok (.invokevirtual 205, 3) := by decide +kernel
theorem nd_S_performWithNumber_160 : decode nc_S_performWithNumber 160 = .ok (.ireturn, 1) := by decide +kernel
theorem nd_S_performWithNumber_161 : decode nc_S_performWithNumber 161 = .ok (.aload_n 0, 1) := by decide +kernel
theorem nd_S_performWithNumber_162 : decode nc_S_performWithNumber 162 = .ok (.iload_n 3, 1) := by decide +kernel
theorem nd_S_performWithNumber_163 : decode nc_S_performWithNumber 163 = .ok (.iload 5, 2) := by decide +kernel
theorem nd_S_performWithNumber_165 : decode nc_S_performWithNumber 165 = .ok (.bipush 16, 2) := by decide +kernel
theorem nd_S_performWithNumber_167 : decode nc_S_performWithNumber 167 = .ok (.ishl, 1) := by decide +kernel
theorem nd_S_performWithNumber_168 : decode nc_S_performWithNumber 168 = .ok (.invokevirtual 205, 3) := by decide +kernel
theorem nd_S_performWithNumber_171 : decode nc_S_performWithNumber 171 = .ok (.ireturn, 1) := by decide +kernel
theorem nd_S_performControl_0 : decode nc_S_performControl 0 = .ok (.iload_n 1, 1) := by decide +kernel
theorem nd_S_performControl_1 : decode nc_S_performControl 1 = .ok (.invokestatic 197, 3) := by decide +kernel
theorem nd_S_performControl_4 : decode nc_S_performControl 4 = .ok (.istore_n 2, 1) := by decide +kernel
theorem nd_S_performControl_5 : decode nc_S_performControl 5 = .ok (.iload_n 2, 1) := by decide +kernel
theorem nd_S_performControl_6 : decode nc_S_performControl 6 = .ok (.bipush 16, 2) := by decide +kernel
theorem nd_S_performControl_8 : decode nc_S_performControl 8 = .ok (.if_icmp .ne 16, 3) := by decide +kernel
theorem nd_S_performControl_11 : decode nc_S_performControl 11 = .ok (.iload_n 1, 1) := by decide +kernel
theorem nd_S_performControl_12 : decode nc_S_performControl 12 = .ok (.invokestatic 209, 3) := by decide +kernel
theorem nd_S_performControl_15 : decode nc_S_performControl 15 = .ok (.bipush 16, 2) := by decide +kernel
theorem nd_S_performControl_17 : decode nc_S_performControl 17 = .ok (.if_icmp .ne 7, 3) := by decide +kernel
theorem nd_S_performControl_20 : decode nc_S_performControl 20 = .ok (.iconst 1, 1) := by decide +kernel
theorem nd_S_performControl_21 : decode nc_S_performControl 21 = .ok (.goto 4, 3) := by decide +kernel
theorem nd_S_performControl_24 : decode nc_S_performControl 24 = .ok (.iconst 0, 1) := by decide +kernel
theorem nd_S_performControl_25 : decode nc_S_performControl 25 = .ok (.istore_n 3, 1) := by decide +kernel
theorem nd_S_performControl_26 : decode nc_S_performControl 26 = .ok (.iload_n 2, 1) := by decide +kernel
theorem nd_S_performControl_27 : decode nc_S_performControl 27 = .ok (.ifCond .eq 15, 3) := by decide +kernel
theorem nd_S_performControl_30 : decode nc_S_performControl 30 = .ok (.iload_n 2, 1) := by decide +kernel
theorem nd_S_performControl_31 : decode nc_S_performControl 31 = .ok (.iconst 4, 1) := by decide +kernel
theorem nd_S_performControl_32 : decode nc_S_performControl 32 = .ok (.if_icmp .eq 10, 3) := by decide +kernel
theorem nd_S_performControl_35 : decode nc_S_performControl 35 = .ok (.iload_n 3, 1) := by decide +kernel
theorem nd_S_performControl_36 : decode nc_S_performControl 36 = .ok (.ifCond .ne 6, 3) := by decide +kernel
theorem nd_S_performControl_39 : decode nc_S_performControl 39 = .ok (.bipush 10, 2) := by decide +kernel
theorem nd_S_performControl_41 : decode nc_S_performControl 41 = .ok (.ireturn, 1) := by decide +kernel
theorem nd_S_performControl_42 : decode nc_S_performControl 42 = .ok (.aload_n 0, 1) := by decide +kernel
theorem nd_S_performControl_43 : decode nc_S_performControl 43 = .ok (.getfield 26, 3) := by decide +kernel
theorem nd_S_performControl_46 : decode nc_S_performControl 46 = .ok (.invokevirtual 289, 3) := by decide +kernel
theorem nd_S_performControl_49 : decode nc_S_performControl 49 = .ok (.ifCond .eq 6, 3) := by decide +kernel
theorem nd_S_performControl_52 : decode nc_S_performControl 52 = .ok (.bipush 11, 2) := by decide +kernel
theorem nd_S_performControl_54 : decode nc_S_performControl 54 = .ok (.ireturn, 1) := by decide +kernel
theorem nd_S_performControl_55 : decode nc_S_performControl 55 = .ok (.iload_n 2, 1) := by decide +kernel
theorem nd_S_performControl_56 : decode nc_S_performControl 56 = .ok (.ifCond .ne 23, 3) := by decide +kernel
theorem nd_S_performControl_59 : decode nc_S_performControl 59 = .ok (.aload_n 0, 1) := by decide +kernel
theorem nd_S_performControl_60 : decode nc_S_performControl 60 = .ok (.iload_n 1, 1) := by decide +kernel
theorem nd_S_performControl_61 : decode nc_S_performControl 61 = .ok (.invokestatic 200, 3) := by decide +kernel
theorem nd_S_performControl_64 : decode nc_S_performControl 64 = .ok (.aload_n 0, 1) := by decide +kernel
theorem nd_S_performControl_65 : decode nc_S_performControl 65 = .ok (.getfield 26, 3) := by decide +kernel
theorem nd_S_performControl_68 : decode nc_S_performControl 68 = .ok (.iload_n 1, 1) := by decide +kernel
theorem nd_S_performControl_69 : decode nc_S_performControl 69 = .ok (.invokestatic 230, 3) := by decide +kernel
theorem nd_S_performControl_72 : decode nc_S_performControl 72 = .ok (.invokevirtual 292, 3) := by decide +kernel
theorem nd_S_performControl_75 : decode nc_S_performControl 75 = .ok (.invokevirtual 293, 3) := by decide +kernel
theorem nd_S_performControl_78 : decode nc_S_performControl 78 = .ok (.ireturn, 1) := by decide +kernel
theorem nd_S_performControl_79 : decode nc_S_performControl 79 = .ok (.iload_n 3, 1) := by decide +kernel
theorem nd_S_performControl_80 : decode nc_S_performControl 80 = .ok (.ifCond .eq 13, 3) := by decide +kernel
theorem nd_S_performControl_83 : decode nc_S_performControl 83 = .ok (.aload_n 0, 1) := by decide +kernel
theorem nd_S_performControl_84 : decode nc_S_performControl 84 = .ok (.getfield 26, 3) := by decide +kernel
theorem nd_S_performControl_87 : decode nc_S_performControl 87 = .ok (.invokevirtual 296, 3) := by decide +kernel
theorem nd_S_performControl_90 : decode nc_S_performControl 90 = .ok (.goto 19, 3) := by decide +kernel
theorem nd_S_performControl_93 : decode nc_S_performControl 93 = .ok (.aload_n 0, 1) := by decide +kernel
theorem nd_S_performControl_94 : decode nc_S_performControl 94 = .ok (.getfield 26, 3) := by decide +kernel
theorem nd_S_performControl_97 : decode nc_S_performControl 97 = .ok (.iload_n 1, 1) := by decide +kernel
theorem nd_S_performControl_98 : decode nc_S_performControl 98 = .ok (.invokestatic 230, 3) := by decide +kernel
theorem nd_S_performControl_101 : decode nc_S_performControl 101 = .ok (.aload_n 0, 1) := by decide +kernel
theorem nd_S_performControl_102 : decode nc_S_performControl 102 = .ok (.iload_n 1, 1) := by decide +kernel
theorem nd_S_performControl_103 : decode nc_S_performControl 103 = .ok (.invokevirtual 227, 3) := by decide +kernel
theorem nd_S_performControl_106 : decode nc_S_performControl 106 = .ok (.invokevirtual 85, 3) := by decide +kernel
theorem nd_S_performControl_109 : decode nc_S_performControl 109 = .ok (.iconst (-1), 1) := by decide +kernel
theorem nd_S_performControl_110 : decode nc_S_performControl 110 = .ok (.ireturn, 1) := by decide +kernel
theorem nd_S_performLoad_0 : decode nc_S_performLoad 0 = .ok (.aload_n 0, 1) := by decide +kernel
theorem nd_S_performLoad_1 : decode nc_S_performLoad 1 = .ok (.iload_n 1, 1) := by decide +kernel
theorem nd_S_performLoad_2 : decode nc_S_performLoad 2 = .ok (.invokevirtual 299, 3) := by decide +kernel
theorem nd_S_performLoad_5 : decode nc_S_performLoad 5 = .ok (.istore_n 2, 1) := by decide +kernel
theorem nd_S_performLoad_6 : decode nc_S_performLoad 6 = .ok (.aload_n 0, 1) := by decide +kernel
theorem nd_S_performLoad_7 : decode nc_S_performLoad 7 = .ok (.iload_n 2, 1) := by decide +kernel
theorem nd_S_performLoad_8 : decode nc_S_performLoad 8 = .ok (.iload_n 1, 1) := by decide +kernel
theorem nd_S_performLoad_9 : decode nc_S_performLoad 9 = .ok (.invokestatic 169, 3) := by decide +kernel
theorem nd_S_performLoad_12 : decode nc_S_performLoad 12 = .ok (.invokestatic 302, 3) := by decide +kernel
theorem nd_S_performLoad_15 : decode nc_S_performLoad 15 = .ok (.iconst 4, 1) := by decide +kernel
theorem nd_S_performLoad_16 : decode nc_S_performLoad 16 = .ok (.invokevirtual 305, 3) := by decide +kernel
theorem nd_S_performLoad_19 : decode nc_S_performLoad 19 = .ok (.istore_n 3, 1) := by decide +kernel
theorem nd_S_performLoad_20 : decode nc_S_performLoad 20 = .ok (.iload_n 3, 1) := by decide +kernel
theorem nd_S_performLoad_21 : decode nc_S_performLoad 21 = .ok (.iconst (-1), 1) := by decide +kernel
theorem nd_S_performLoad_22 : decode nc_S_performLoad 22 = .ok (.if_icmp .eq 5, 3) := by decide +kernel
theorem nd_S_performLoad_25 : decode nc_S_performLoad 25 = .ok (.iload_n 3, 1) := by decide +kernel
theorem nd_S_performLoad_26 : decode nc_S_performLoad 26 = .ok (.ireturn, 1) := by decide +kernel
theorem nd_S_performLoad_27 : decode nc_S_performLoad 27 = .ok (.iload_n 1, 1) := by decide +kernel
theorem nd_S_performLoad_28 : decode nc_S_performLoad 28 = .ok (.invokestatic 200, 3) := by decide +kernel
theorem nd_S_performLoad_31 : decode nc_S_performLoad 31 = .ok (.istore 4, 2) := by decide +kernel
theorem nd_S_performLoad_33 : decode nc_S_performLoad 33 = .ok (.aload_n 0, 1) := by decide +kernel
theorem nd_S_performLoad_34 : decode nc_S_performLoad 34 = .ok (.getfield 12, 3) := by decide +kernel
theorem nd_S_performLoad_37 : decode nc_S_performLoad 37 = .ok (.iload_n 2, 1) := by decide +kernel
theorem nd_S_performLoad_38 : decode nc_S_performLoad 38 = .ok (.ldc 128, 2) := by decide +kernel
theorem nd_S_performLoad_40 : decode nc_S_performLoad 40 = .ok (.iand, 1) := by decide +kernel
theorem nd_S_performLoad_41 : decode nc_S_performLoad 41 = .ok (.invokevirtual 62, 3) := by decide +kernel
theorem nd_S_performLoad_44 : decode nc_S_performLoad 44 = .ok (.istore 5, 2) := by decide +kernel
theorem nd_S_performLoad_46 : decode nc_S_performLoad 46 = .ok (.aload_n 0, 1) := by decide +kernel
theorem nd_S_performLoad_47 : decode nc_S_performLoad 47 = .ok (.iload 4, 2) := by decide +kernel
theorem nd_S_performLoad_49 : decode nc_S_performLoad 49 = .ok (.iload_n 1, 1) := by decide +kernel
theorem nd_S_performLoad_50 : decode nc_S_performLoad 50 = .ok (.invokestatic 169, 3) := by decide +kernel
theorem nd_S_performLoad_53 : decode nc_S_performLoad 53 = .ok (.aload_n 0, 1) := by decide +kernel
theorem nd_S_performLoad_54 : decode nc_S_performLoad 54 = .ok (.getfield 19, 3) := by decide +kernel
theorem nd_S_performLoad_57 : decode nc_S_performLoad 57 = .ok (.iload 4, 2) := by decide +kernel
theorem nd_S_performLoad_59 : decode nc_S_performLoad 59 = .ok (.invokevirtual 309, 3) := by decide +kernel
theorem nd_S_performLoad_62 : decode nc_S_performLoad 62 = .ok (.iload 5, 2) := by decide +kernel
theorem nd_S_performLoad_64 : decode nc_S_performLoad 64 = .ok (.iload_n 2, 1) := by decide +kernel
theorem nd_S_performLoad_65 : decode nc_S_performLoad 65 = .ok (.invokestatic 312, 3) := by decide +kernel
theorem nd_S_performLoad_68 : decode nc_S_performLoad 68 = .ok (.invokevirtual 293, 3) := by decide +kernel
theorem nd_S_performLoad_71 : decode nc_S_performLoad 71 = .ok (.ireturn, 1) := by decide +kernel
theorem nd_S_joinLoaded_0 : decode nc_S_joinLoaded 0 = .ok (.iload_n 3, 1) := by decide +kernel
theorem nd_S_joinLoaded_1 : decode nc_S_joinLoaded 1 = .ok (.iconst 1, 1) := by decide +kernel
theorem nd_S_joinLoaded_2 : decode nc_S_joinLoaded 2 = .ok (.invokestatic 316, 3) := by decide +kernel
theorem nd_S_joinLoaded_5 : decode nc_S_joinLoaded 5 = .ok (.istore 4, 2) := by decide +kernel
theorem nd_S_joinLoaded_7 : decode nc_S_joinLoaded 7 = .ok (.iload_n 3, 1) := by decide +kernel
theorem nd_S_joinLoaded_8 : decode nc_S_joinLoaded 8 = .ok (.iconst 2, 1) := by decide +kernel
theorem nd_S_joinLoaded_9 : decode nc_S_joinLoaded 9 = .ok (.invokestatic 316, 3) := by decide +kernel
theorem nd_S_joinLoaded_12 : decode nc_S_joinLoaded 12 = .ok (.istore 5, 2) := by decide +kernel
theorem nd_S_joinLoaded_14 : decode nc_S_joinLoaded 14 = .ok (.iload_n 3, 1) := by decide +kernel
theorem nd_S_joinLoaded_15 : decode nc_S_joinLoaded 15 = .ok (.invokestatic 319, 3) := by decide +kernel
theorem nd_S_joinLoaded_18 : decode nc_S_joinLoaded 18 = .ok (.istore 6, 2) := by decide +kernel
theorem nd_S_joinLoaded_20 : decode nc_S_joinLoaded 20 = .ok (.iload_n 0, 1) := by decide +kernel
theorem nd_S_joinLoaded_21 : decode nc_S_joinLoaded 21 = .ok (.tableswitch 83 32 37 #[39, 45, 51, 64, 66, 75], 39) := by decide +kernel
theorem nd_S_joinLoaded_60 : decode nc_S_joinLoaded 60 = .ok (.iload_n 2, 1) := by decide +kernel
theorem nd_S_joinLoaded_61 : decode nc_S_joinLoaded 61 = .ok (.iload 4, 2) := by decide +kernel
theorem nd_S_joinLoaded_63 : decode nc_S_joinLoaded 63 = .ok (.ishr, 1) := by decide +kernel
theorem nd_S_joinLoaded_64 : decode nc_S_joinLoaded 64 = .ok (.i2b, 1) := by decide +kernel
theorem nd_S_joinLoaded_65 : decode nc_S_joinLoaded 65 = .ok (.ireturn, 1) := by decide +kernel
theorem nd_S_joinLoaded_66 : decode nc_S_joinLoaded 66 = .ok (.iload_n 2, 1) := by decide +kernel
theorem nd_S_joinLoaded_67 : decode nc_S_joinLoaded 67 = .ok (.iload 5, 2) := by decide +kernel
theorem nd_S_joinLoaded_69 : decode nc_S_joinLoaded 69 = .ok (.ishr, 1) := by decide +kernel
theorem nd_S_joinLoaded_70 : decode nc_S_joinLoaded 70 = .ok (.i2s, 1) := by decide +kernel
theorem nd_S_joinLoaded_71 : decode nc_S_joinLoaded 71 = .ok (.ireturn, 1) := by decide +kernel
theorem nd_S_joinLoaded_72 : decode nc_S_joinLoaded 72 = .ok (.iload_n 1, 1) := by decide +kernel
theorem nd_S_joinLoaded_73 : decode nc_S_joinLoaded 73 = .ok (.iload_n 2, 1) := by decide +kernel
theorem nd_S_joinLoaded_74 : decode nc_S_joinLoaded 74 = .ok (.iload 6, 2) := by decide +kernel
theorem nd_S_joinLoaded_76 : decode nc_S_joinLoaded 76 = .ok (.ishl, 1) := by decide +kernel
theorem nd_S_joinLoaded_77 : decode nc_S_joinLoaded 77 = .ok (.iconst (-1), 1) := by decide +kernel
theorem nd_S_joinLoaded_78 : decode nc_S_joinLoaded 78 = .ok (.iload 6, 2) := by decide +kernel
theorem nd_S_joinLoaded_80 : decode nc_S_joinLoaded 80 = .ok (.ishl, 1) := by decide +kernel
theorem nd_S_joinLoaded_81 : decode nc_S_joinLoaded 81 = .ok (.invokestatic 322, 3) := by decide +kernel
theorem nd_S_joinLoaded_84 : decode nc_S_joinLoaded 84 = .ok (.ireturn, 1) := by decide +kernel
theorem nd_S_joinLoaded_85 : decode nc_S_joinLoaded 85 = .ok (.iload_n 2, 1) := by decide +kernel
theorem nd_S_joinLoaded_86 : decode nc_S_joinLoaded 86 = .ok (.ireturn, 1) := by decide +kernel
theorem nd_S_joinLoaded_87 : decode nc_S_joinLoaded 87 = .ok (.iload_n 2, 1) := by decide +kernel
theorem nd_S_joinLoaded_88 : decode nc_S_joinLoaded 88 = .ok (.iload 4, 2) := by decide +kernel
theorem nd_S_joinLoaded_90 : decode nc_S_joinLoaded 90 = .ok (.ishr, 1) := by decide +kernel
theorem nd_S_joinLoaded_91 : decode nc_S_joinLoaded 91 = .ok (.sipush 255, 3) := by decide +kernel
theorem nd_S_joinLoaded_94 : decode nc_S_joinLoaded 94 = .ok (.iand, 1) := by decide +kernel
theorem nd_S_joinLoaded_95 : decode nc_S_joinLoaded 95 = .ok (.ireturn, 1) := by decide +kernel
theorem nd_S_joinLoaded_96 : decode nc_S_joinLoaded 96 = .ok (.iload_n 2, 1) := by decide +kernel
theorem nd_S_joinLoaded_97 : decode nc_S_joinLoaded 97 = .ok (.iload 5, 2) := by decide +kernel
theorem nd_S_joinLoaded_99 : decode nc_S_joinLoaded 99 = .ok (.ishr, 1) := by decide +kernel
theorem nd_S_joinLoaded_100 : decode nc_S_joinLoaded 100 = .ok (.ldc 196, 2) := by decide +kernel
theorem nd_S_joinLoaded_102 : decode nc_S_joinLoaded 102 = .ok (.iand, 1) := by decide +kernel
theorem nd_S_joinLoaded_103 : decode nc_S_joinLoaded 103 = .ok (.ireturn, 1) := by decide +kernel
theorem nd_S_joinLoaded_104 : decode nc_S_joinLoaded 104 = .ok (.iload_n 1, 1) := by decide +kernel
theorem nd_S_joinLoaded_105 : decode nc_S_joinLoaded 105 = .ok (.iload_n 2, 1) := by decide +kernel
theorem nd_S_joinLoaded_106 : decode nc_S_joinLoaded 106 = .ok (.iload 4, 2) := by decide +kernel
theorem nd_S_joinLoaded_108 : decode nc_S_joinLoaded 108 = .ok (.iushr, 1) := by decide +kernel
theorem nd_S_joinLoaded_109 : decode nc_S_joinLoaded 109 = .ok (.iconst (-1), 1) := by decide +kernel
theorem nd_S_joinLoaded_110 : decode nc_S_joinLoaded 110 = .ok (.iload 4, 2) := by decide +kernel
theorem nd_S_joinLoaded_112 : decode nc_S_joinLoaded 112 = .ok (.iushr, 1) := by decide +kernel
theorem nd_S_joinLoaded_113 : decode nc_S_joinLoaded 113 = .ok (.invokestatic 322, 3) := by decide +kernel
theorem nd_S_joinLoaded_116 : decode nc_S_joinLoaded 116 = .ok (.ireturn, 1) := by decide +kernel
theorem nd_S_performStore_0 : decode nc_S_performStore 0 = .ok (.aload_n 0, 1) := by decide +kernel
theorem nd_S_performStore_1 : decode nc_S_performStore 1 = .ok (.iload_n 1, 1) := by decide +kernel
