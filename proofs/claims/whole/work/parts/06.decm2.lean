theorem nd_D_isKnown_186 : decode nc_D_isKnown 186 = .ok (.iconst 2, 1) := by decide +kernel
theorem nd_D_isKnown_187 : decode nc_D_isKnown 187 = .ok (.if_icmp .lt 12, 3) := by decide +kernel
theorem nd_D_isKnown_190 : decode nc_D_isKnown 190 = .ok (.aload_n 0, 1) := by decide +kernel
theorem nd_D_isKnown_191 : decode nc_D_isKnown 191 = .ok (.getfield 84, 3) := by decide +kernel
theorem nd_D_isKnown_194 : decode nc_D_isKnown 194 = .ok (.bipush 15, 2) := by decide +kernel
theorem nd_D_isKnown_196 : decode nc_D_isKnown 196 = .ok (.if_icmp .le 81, 3) := by decide +kernel
theorem nd_D_isKnown_199 : decode nc_D_isKnown 199 = .ok (.aload_n 0, 1) := by decide +kernel
theorem nd_D_isKnown_200 : decode nc_D_isKnown 200 = .ok (.getfield 84, 3) := by decide +kernel
theorem nd_D_isKnown_203 : decode nc_D_isKnown 203 = .ok (.bipush 16, 2) := by decide +kernel
theorem nd_D_isKnown_205 : decode nc_D_isKnown 205 = .ok (.if_icmp .ne 27, 3) := by decide +kernel
theorem nd_D_isKnown_208 : decode nc_D_isKnown 208 = .ok (.iload_n 1, 1) := by decide +kernel
theorem nd_D_isKnown_209 : decode nc_D_isKnown 209 = .ok (.ifCond .eq 68, 3) := by decide +kernel
theorem nd_D_isKnown_212 : decode nc_D_isKnown 212 = .ok (.iload_n 1, 1) := by decide +kernel
theorem nd_D_isKnown_213 : decode nc_D_isKnown 213 = .ok (.iconst 4, 1) := by decide +kernel
theorem nd_D_isKnown_214 : decode nc_D_isKnown 214 = .ok (.if_icmp .eq 63, 3) := by decide +kernel
theorem nd_D_isKnown_217 : decode nc_D_isKnown 217 = .ok (.iload_n 1, 1) := by decide +kernel
theorem nd_D_isKnown_218 : decode nc_D_isKnown 218 = .ok (.bipush 16, 2) := by decide +kernel
theorem nd_D_isKnown_220 : decode nc_D_isKnown 220 = .ok (.if_icmp .ne 12, 3) := by decide +kernel
theorem nd_D_isKnown_223 : decode nc_D_isKnown 223 = .ok (.aload_n 0, 1) := by decide +kernel
theorem nd_D_isKnown_224 : decode nc_D_isKnown 224 = .ok (.getfield 87, 3) := by decide +kernel
theorem nd_D_isKnown_227 : decode nc_D_isKnown 227 = .ok (.bipush 16, 2) := by decide +kernel
theorem nd_D_isKnown_229 : decode nc_D_isKnown 229 = .ok (.if_icmp .eq 48, 3) := by decide +kernel
theorem nd_D_isKnown_232 : decode nc_D_isKnown 232 = .ok (.aload_n 0, 1) := by decide +kernel
theorem nd_D_isKnown_233 : decode nc_D_isKnown 233 = .ok (.getfield 84, 3) := by decide +kernel
theorem nd_D_isKnown_236 : decode nc_D_isKnown 236 = .ok (.bipush 32, 2) := by decide +kernel
theorem nd_D_isKnown_238 : decode nc_D_isKnown 238 = .ok (.if_icmp .lt 12, 3) := by decide +kernel
theorem nd_D_isKnown_241 : decode nc_D_isKnown 241 = .ok (.aload_n 0, 1) := by decide +kernel
theorem nd_D_isKnown_242 : decode nc_D_isKnown 242 = .ok (.getfield 84, 3) := by decide +kernel
theorem nd_D_isKnown_245 : decode nc_D_isKnown 245 = .ok (.bipush 38, 2) := by decide +kernel
theorem nd_D_isKnown_247 : decode nc_D_isKnown 247 = .ok (.if_icmp .le 30, 3) := by decide +kernel
theorem nd_D_isKnown_250 : decode nc_D_isKnown 250 = .ok (.aload_n 0, 1) := by decide +kernel
theorem nd_D_isKnown_251 : decode nc_D_isKnown 251 = .ok (.getfield 84, 3) := by decide +kernel
theorem nd_D_isKnown_254 : decode nc_D_isKnown 254 = .ok (.bipush 40, 2) := by decide +kernel
theorem nd_D_isKnown_256 : decode nc_D_isKnown 256 = .ok (.if_icmp .lt 12, 3) := by decide +kernel
theorem nd_D_isKnown_259 : decode nc_D_isKnown 259 = .ok (.aload_n 0, 1) := by decide +kernel
theorem nd_D_isKnown_260 : decode nc_D_isKnown 260 = .ok (.getfield 84, 3) := by decide +kernel
theorem nd_D_isKnown_263 : decode nc_D_isKnown 263 = .ok (.bipush 43, 2) := by decide +kernel
theorem nd_D_isKnown_265 : decode nc_D_isKnown 265 = .ok (.if_icmp .le 12, 3) := by decide +kernel
theorem nd_D_isKnown_268 : decode nc_D_isKnown 268 = .ok (.aload_n 0, 1) := by decide +kernel
theorem nd_D_isKnown_269 : decode nc_D_isKnown 269 = .ok (.getfield 84, 3) := by decide +kernel
theorem nd_D_isKnown_272 : decode nc_D_isKnown 272 = .ok (.bipush 46, 2) := by decide +kernel
theorem nd_D_isKnown_274 : decode nc_D_isKnown 274 = .ok (.if_icmp .ne 7, 3) := by decide +kernel
theorem nd_D_isKnown_277 : decode nc_D_isKnown 277 = .ok (.iconst 1, 1) := by decide +kernel
theorem nd_D_isKnown_278 : decode nc_D_isKnown 278 = .ok (.goto 4, 3) := by decide +kernel
theorem nd_D_isKnown_281 : decode nc_D_isKnown 281 = .ok (.iconst 0, 1) := by decide +kernel
theorem nd_D_isKnown_282 : decode nc_D_isKnown 282 = .ok (.ireturn, 1) := by decide +kernel
theorem nd_D_exact_0 : decode nc_D_exact 0 = .ok (.lload_n 0, 1) := by decide +kernel
theorem nd_D_exact_1 : decode nc_D_exact 1 = .ok (.lload_n 0, 1) := by decide +kernel
theorem nd_D_exact_2 : decode nc_D_exact 2 = .ok (.l2i, 1) := by decide +kernel
theorem nd_D_exact_3 : decode nc_D_exact 3 = .ok (.i2l, 1) := by decide +kernel
theorem nd_D_exact_4 : decode nc_D_exact 4 = .ok (.lcmp, 1) := by decide +kernel
theorem nd_D_exact_5 : decode nc_D_exact 5 = .ok (.ifCond .ne 7, 3) := by decide +kernel
theorem nd_D_exact_8 : decode nc_D_exact 8 = .ok (.iconst 1, 1) := by decide +kernel
theorem nd_D_exact_9 : decode nc_D_exact 9 = .ok (.goto 4, 3) := by decide +kernel
theorem nd_D_exact_12 : decode nc_D_exact 12 = .ok (.iconst 0, 1) := by decide +kernel
theorem nd_D_exact_13 : decode nc_D_exact 13 = .ok (.ireturn, 1) := by decide +kernel
theorem nd_D_number_0 : decode nc_D_number 0 = .ok (.aload_n 0, 1) := by decide +kernel
theorem nd_D_number_1 : decode nc_D_number 1 = .ok (.getfield 81, 3) := by decide +kernel
theorem nd_D_number_4 : decode nc_D_number 4 = .ok (.bipush 16, 2) := by decide +kernel
theorem nd_D_number_6 : decode nc_D_number 6 = .ok (.ishl, 1) := by decide +kernel
theorem nd_D_number_7 : decode nc_D_number 7 = .ok (.bipush 16, 2) := by decide +kernel
theorem nd_D_number_9 : decode nc_D_number 9 = .ok (.ishr, 1) := by decide +kernel
theorem nd_D_number_10 : decode nc_D_number 10 = .ok (.ireturn, 1) := by decide +kernel
theorem nd_D_moved_0 : decode nc_D_moved 0 = .ok (.aload_n 0, 1) := by decide +kernel
theorem nd_D_moved_1 : decode nc_D_moved 1 = .ok (.getfield 84, 3) := by decide +kernel
theorem nd_D_moved_4 : decode nc_D_moved 4 = .ok (.iconst 3, 1) := by decide +kernel
theorem nd_D_moved_5 : decode nc_D_moved 5 = .ok (.iand, 1) := by decide +kernel
theorem nd_D_moved_6 : decode nc_D_moved 6 = .ok (.istore_n 1, 1) := by decide +kernel
theorem nd_D_moved_7 : decode nc_D_moved 7 = .ok (.aload_n 0, 1) := by decide +kernel
theorem nd_D_moved_8 : decode nc_D_moved 8 = .ok (.getfield 84, 3) := by decide +kernel
theorem nd_D_moved_11 : decode nc_D_moved 11 = .ok (.bipush 34, 2) := by decide +kernel
theorem nd_D_moved_13 : decode nc_D_moved 13 = .ok (.if_icmp .eq 30, 3) := by decide +kernel
theorem nd_D_moved_16 : decode nc_D_moved 16 = .ok (.aload_n 0, 1) := by decide +kernel
theorem nd_D_moved_17 : decode nc_D_moved 17 = .ok (.getfield 84, 3) := by decide +kernel
theorem nd_D_moved_20 : decode nc_D_moved 20 = .ok (.bipush 38, 2) := by decide +kernel
theorem nd_D_moved_22 : decode nc_D_moved 22 = .ok (.if_icmp .eq 21, 3) := by decide +kernel
theorem nd_D_moved_25 : decode nc_D_moved 25 = .ok (.aload_n 0, 1) := by decide +kernel
theorem nd_D_moved_26 : decode nc_D_moved 26 = .ok (.getfield 84, 3) := by decide +kernel
theorem nd_D_moved_29 : decode nc_D_moved 29 = .ok (.bipush 42, 2) := by decide +kernel
theorem nd_D_moved_31 : decode nc_D_moved 31 = .ok (.if_icmp .eq 12, 3) := by decide +kernel
theorem nd_D_moved_34 : decode nc_D_moved 34 = .ok (.aload_n 0, 1) := by decide +kernel
theorem nd_D_moved_35 : decode nc_D_moved 35 = .ok (.getfield 84, 3) := by decide +kernel
theorem nd_D_moved_38 : decode nc_D_moved 38 = .ok (.bipush 46, 2) := by decide +kernel
theorem nd_D_moved_40 : decode nc_D_moved 40 = .ok (.if_icmp .ne 7, 3) := by decide +kernel
theorem nd_D_moved_43 : decode nc_D_moved 43 = .ok (.iconst 4, 1) := by decide +kernel
theorem nd_D_moved_44 : decode nc_D_moved 44 = .ok (.goto 21, 3) := by decide +kernel
theorem nd_D_moved_47 : decode nc_D_moved 47 = .ok (.iload_n 1, 1) := by decide +kernel
theorem nd_D_moved_48 : decode nc_D_moved 48 = .ok (.ifCond .ne 7, 3) := by decide +kernel
theorem nd_D_moved_51 : decode nc_D_moved 51 = .ok (.iconst 1, 1) := by decide +kernel
theorem nd_D_moved_52 : decode nc_D_moved 52 = .ok (.goto 13, 3) := by decide +kernel
theorem nd_D_moved_55 : decode nc_D_moved 55 = .ok (.iload_n 1, 1) := by decide +kernel
theorem nd_D_moved_56 : decode nc_D_moved 56 = .ok (.iconst 1, 1) := by decide +kernel
theorem nd_D_moved_57 : decode nc_D_moved 57 = .ok (.if_icmp .ne 7, 3) := by decide +kernel
theorem nd_D_moved_60 : decode nc_D_moved 60 = .ok (.iconst 2, 1) := by decide +kernel
theorem nd_D_moved_61 : decode nc_D_moved 61 = .ok (.goto 4, 3) := by decide +kernel
theorem nd_D_moved_64 : decode nc_D_moved 64 = .ok (.iconst 4, 1) := by decide +kernel
theorem nd_D_moved_65 : decode nc_D_moved 65 = .ok (.ireturn, 1) := by decide +kernel
theorem nd_D_inMemory_0 : decode nc_D_inMemory 0 = .ok (.iload_n 0, 1) := by decide +kernel
theorem nd_D_inMemory_1 : decode nc_D_inMemory 1 = .ok (.ldc 94, 2) := by decide +kernel
theorem nd_D_inMemory_3 : decode nc_D_inMemory 3 = .ok (.iand, 1) := by decide +kernel
theorem nd_D_inMemory_4 : decode nc_D_inMemory 4 = .ok (.istore_n 2, 1) := by decide +kernel
theorem nd_D_inMemory_5 : decode nc_D_inMemory 5 = .ok (.iload_n 2, 1) := by decide +kernel
theorem nd_D_inMemory_6 : decode nc_D_inMemory 6 = .ok (.sipush 4096, 3) := by decide +kernel
theorem nd_D_inMemory_9 : decode nc_D_inMemory 9 = .ok (.iload_n 1, 1) := by decide +kernel
theorem nd_D_inMemory_10 : decode nc_D_inMemory 10 = .ok (.isub, 1) := by decide +kernel
theorem nd_D_inMemory_11 : decode nc_D_inMemory 11 = .ok (.if_icmp .gt 7, 3) := by decide +kernel
theorem nd_D_inMemory_14 : decode nc_D_inMemory 14 = .ok (.iconst 1, 1) := by decide +kernel
theorem nd_D_inMemory_15 : decode nc_D_inMemory 15 = .ok (.goto 4, 3) := by decide +kernel
theorem nd_D_inMemory_18 : decode nc_D_inMemory 18 = .ok (.iconst 0, 1) := by decide +kernel
theorem nd_D_inMemory_19 : decode nc_D_inMemory 19 = .ok (.ireturn, 1) := by decide +kernel
theorem nd_D_isPart_0 : decode nc_D_isPart 0 = .ok (.aload_n 0, 1) := by decide +kernel
theorem nd_D_isPart_1 : decode nc_D_isPart 1 = .ok (.getfield 84, 3) := by decide +kernel
theorem nd_D_isPart_4 : decode nc_D_isPart 4 = .ok (.bipush 34, 2) := by decide +kernel
theorem nd_D_isPart_6 : decode nc_D_isPart 6 = .ok (.if_icmp .eq 30, 3) := by decide +kernel
theorem nd_D_isPart_9 : decode nc_D_isPart 9 = .ok (.aload_n 0, 1) := by decide +kernel
theorem nd_D_isPart_10 : decode nc_D_isPart 10 = .ok (.getfield 84, 3) := by decide +kernel
theorem nd_D_isPart_13 : decode nc_D_isPart 13 = .ok (.bipush 38, 2) := by decide +kernel
theorem nd_D_isPart_15 : decode nc_D_isPart 15 = .ok (.if_icmp .eq 21, 3) := by decide +kernel
theorem nd_D_isPart_18 : decode nc_D_isPart 18 = .ok (.aload_n 0, 1) := by decide +kernel
theorem nd_D_isPart_19 : decode nc_D_isPart 19 = .ok (.getfield 84, 3) := by decide +kernel
theorem nd_D_isPart_22 : decode nc_D_isPart 22 = .ok (.bipush 42, 2) := by decide +kernel
theorem nd_D_isPart_24 : decode nc_D_isPart 24 = .ok (.if_icmp .eq 12, 3) := by decide +kernel
theorem nd_D_isPart_27 : decode nc_D_isPart 27 = .ok (.aload_n 0, 1) := by decide +kernel
theorem nd_D_isPart_28 : decode nc_D_isPart 28 = .ok (.getfield 84, 3) := by decide +kernel
theorem nd_D_isPart_31 : decode nc_D_isPart 31 = .ok (.bipush 46, 2) := by decide +kernel
theorem nd_D_isPart_33 : decode nc_D_isPart 33 = .ok (.if_icmp .ne 7, 3) := by decide +kernel
theorem nd_D_isPart_36 : decode nc_D_isPart 36 = .ok (.iconst 1, 1) := by decide +kernel
theorem nd_D_isPart_37 : decode nc_D_isPart 37 = .ok (.goto 4, 3) := by decide +kernel
theorem nd_D_isPart_40 : decode nc_D_isPart 40 = .ok (.iconst 0, 1) := by decide +kernel
theorem nd_D_isPart_41 : decode nc_D_isPart 41 = .ok (.ireturn, 1) := by decide +kernel
theorem nd_D_addressTrouble_0 : decode nc_D_addressTrouble 0 = .ok (.aload_n 0, 1) := by decide +kernel
theorem nd_D_addressTrouble_1 : decode nc_D_addressTrouble 1 = .ok (.getfield 95, 3) := by decide +kernel
theorem nd_D_addressTrouble_4 : decode nc_D_addressTrouble 4 = .ok (.aload_n 0, 1) := by decide +kernel
theorem nd_D_addressTrouble_5 : decode nc_D_addressTrouble 5 = .ok (.invokevirtual 98, 3) := by decide +kernel
theorem nd_D_addressTrouble_8 : decode nc_D_addressTrouble 8 = .ok (.iadd, 1) := by decide +kernel
theorem nd_D_addressTrouble_9 : decode nc_D_addressTrouble 9 = .ok (.istore_n 1, 1) := by decide +kernel
theorem nd_D_addressTrouble_10 : decode nc_D_addressTrouble 10 = .ok (.aload_n 0, 1) := by decide +kernel
theorem nd_D_addressTrouble_11 : decode nc_D_addressTrouble 11 = .ok (.invokevirtual 102, 3) := by decide +kernel
theorem nd_D_addressTrouble_14 : decode nc_D_addressTrouble 14 = .ok (.ifCond .eq 7, 3) := by decide +kernel
theorem nd_D_addressTrouble_17 : decode nc_D_addressTrouble 17 = .ok (.iconst 1, 1) := by decide +kernel
theorem nd_D_addressTrouble_18 : decode nc_D_addressTrouble 18 = .ok (.goto 7, 3) := by decide +kernel
theorem nd_D_addressTrouble_21 : decode nc_D_addressTrouble 21 = .ok (.aload_n 0, 1) := by decide +kernel
theorem nd_D_addressTrouble_22 : decode nc_D_addressTrouble 22 = .ok (.invokevirtual 105, 3) := by decide +kernel
theorem nd_D_addressTrouble_25 : decode nc_D_addressTrouble 25 = .ok (.istore_n 2, 1) := by decide +kernel
theorem nd_D_addressTrouble_26 : decode nc_D_addressTrouble 26 = .ok (.iload_n 1, 1) := by decide +kernel
theorem nd_D_addressTrouble_27 : decode nc_D_addressTrouble 27 = .ok (.iload_n 2, 1) := by decide +kernel
theorem nd_D_addressTrouble_28 : decode nc_D_addressTrouble 28 = .ok (.iconst 1, 1) := by decide +kernel
theorem nd_D_addressTrouble_29 : decode nc_D_addressTrouble 29 = .ok (.isub, 1) := by decide +kernel
theorem nd_D_addressTrouble_30 : decode nc_D_addressTrouble 30 = .ok (.iand, 1) := by decide +kernel
theorem nd_D_addressTrouble_31 : decode nc_D_addressTrouble 31 = .ok (.ifCond .ne 14, 3) := by decide +kernel
theorem nd_D_addressTrouble_34 : decode nc_D_addressTrouble 34 = .ok (.iload_n 1, 1) := by decide +kernel
theorem nd_D_addressTrouble_35 : decode nc_D_addressTrouble 35 = .ok (.ifCond .ge 30, 3) := by decide +kernel
theorem nd_D_addressTrouble_38 : decode nc_D_addressTrouble 38 = .ok (.aload_n 0, 1) := by decide +kernel
theorem nd_D_addressTrouble_39 : decode nc_D_addressTrouble 39 = .ok (.invokevirtual 108, 3) := by decide +kernel
theorem nd_D_addressTrouble_42 : decode nc_D_addressTrouble 42 = .ok (.ifCond .eq 23, 3) := by decide +kernel
theorem nd_D_addressTrouble_45 : decode nc_D_addressTrouble 45 = .ok (.aload_n 0, 1) := by decide +kernel
theorem nd_D_addressTrouble_46 : decode nc_D_addressTrouble 46 = .ok (.iload_n 1, 1) := by decide +kernel
theorem nd_D_addressTrouble_47 : decode nc_D_addressTrouble 47 = .ok (.putfield 48, 3) := by decide +kernel
theorem nd_D_addressTrouble_50 : decode nc_D_addressTrouble 50 = .ok (.aload_n 0, 1) := by decide +kernel
theorem nd_D_addressTrouble_51 : decode nc_D_addressTrouble 51 = .ok (.getfield 84, 3) := by decide +kernel
theorem nd_D_addressTrouble_54 : decode nc_D_addressTrouble 54 = .ok (.bipush 40, 2) := by decide +kernel
theorem nd_D_addressTrouble_56 : decode nc_D_addressTrouble 56 = .ok (.if_icmp .ge 7, 3) := by decide +kernel
theorem nd_D_addressTrouble_59 : decode nc_D_addressTrouble 59 = .ok (.iconst 4, 1) := by decide +kernel
theorem nd_D_addressTrouble_60 : decode nc_D_addressTrouble 60 = .ok (.goto 4, 3) := by decide +kernel
theorem nd_D_addressTrouble_63 : decode nc_D_addressTrouble 63 = .ok (.iconst 5, 1) := by decide +kernel
theorem nd_D_addressTrouble_64 : decode nc_D_addressTrouble 64 = .ok (.ireturn, 1) := by decide +kernel
theorem nd_D_addressTrouble_65 : decode nc_D_addressTrouble 65 = .ok (.aload_n 0, 1) := by decide +kernel
theorem nd_D_addressTrouble_66 : decode nc_D_addressTrouble 66 = .ok (.invokevirtual 102, 3) := by decide +kernel
theorem nd_D_addressTrouble_69 : decode nc_D_addressTrouble 69 = .ok (.ifCond .eq 10, 3) := by decide +kernel
theorem nd_D_addressTrouble_72 : decode nc_D_addressTrouble 72 = .ok (.iload_n 1, 1) := by decide +kernel
theorem nd_D_addressTrouble_73 : decode nc_D_addressTrouble 73 = .ok (.bipush (-4), 2) := by decide +kernel
theorem nd_D_addressTrouble_75 : decode nc_D_addressTrouble 75 = .ok (.iand, 1) := by decide +kernel
theorem nd_D_addressTrouble_76 : decode nc_D_addressTrouble 76 = .ok (.goto 4, 3) := by decide +kernel
theorem nd_D_addressTrouble_79 : decode nc_D_addressTrouble 79 = .ok (.iload_n 1, 1) := by decide +kernel
theorem nd_D_addressTrouble_80 : decode nc_D_addressTrouble 80 = .ok (.aload_n 0, 1) := by decide +kernel
theorem nd_D_addressTrouble_81 : decode nc_D_addressTrouble 81 = .ok (.invokevirtual 105, 3) := by decide +kernel
theorem nd_D_addressTrouble_84 : decode nc_D_addressTrouble 84 = .ok (.invokestatic 111, 3) := by decide +kernel
theorem nd_D_addressTrouble_87 : decode nc_D_addressTrouble 87 = .ok (.ifCond .eq 7, 3) := by decide +kernel
theorem nd_D_addressTrouble_90 : decode nc_D_addressTrouble 90 = .ok (.iconst 0, 1) := by decide +kernel
theorem nd_D_addressTrouble_91 : decode nc_D_addressTrouble 91 = .ok (.goto 5, 3) := by decide +kernel
theorem nd_D_addressTrouble_94 : decode nc_D_addressTrouble 94 = .ok (.bipush 7, 2) := by decide +kernel
theorem nd_D_addressTrouble_96 : decode nc_D_addressTrouble 96 = .ok (.ireturn, 1) := by decide +kernel
theorem nd_D_trouble_0 : decode nc_D_trouble 0 = .ok (.aload_n 0, 1) := by decide +kernel
theorem nd_D_trouble_1 : decode nc_D_trouble 1 = .ok (.invokevirtual 115, 3) := by decide +kernel
theorem nd_D_trouble_4 : decode nc_D_trouble 4 = .ok (.ifCond .eq 17, 3) := by decide +kernel
theorem nd_D_trouble_7 : decode nc_D_trouble 7 = .ok (.aload_n 0, 1) := by decide +kernel
theorem nd_D_trouble_8 : decode nc_D_trouble 8 = .ok (.getfield 51, 3) := by decide +kernel
theorem nd_D_trouble_11 : decode nc_D_trouble 11 = .ok (.ifCond .eq 13, 3) := by decide +kernel
theorem nd_D_trouble_14 : decode nc_D_trouble 14 = .ok (.aload_n 0, 1) := by decide +kernel
theorem nd_D_trouble_15 : decode nc_D_trouble 15 = .ok (.invokevirtual 90, 3) := by decide +kernel
theorem nd_D_trouble_18 : decode nc_D_trouble 18 = .ok (.ifCond .eq 6, 3) := by decide +kernel
theorem nd_D_trouble_21 : decode nc_D_trouble 21 = .ok (.bipush 10, 2) := by decide +kernel
theorem nd_D_trouble_23 : decode nc_D_trouble 23 = .ok (.ireturn, 1) := by decide +kernel
theorem nd_D_trouble_24 : decode nc_D_trouble 24 = .ok (.aload_n 0, 1) := by decide +kernel
theorem nd_D_trouble_25 : decode nc_D_trouble 25 = .ok (.getfield 84, 3) := by decide +kernel
theorem nd_D_trouble_28 : decode nc_D_trouble 28 = .ok (.ifCond .ne 100, 3) := by decide +kernel
theorem nd_D_trouble_31 : decode nc_D_trouble 31 = .ok (.aload_n 0, 1) := by decide +kernel
theorem nd_D_trouble_32 : decode nc_D_trouble 32 = .ok (.getfield 87, 3) := by decide +kernel
theorem nd_D_trouble_35 : decode nc_D_trouble 35 = .ok (.bipush 32, 2) := by decide +kernel
theorem nd_D_trouble_37 : decode nc_D_trouble 37 = .ok (.if_icmp .ne 20, 3) := by decide +kernel
theorem nd_D_trouble_40 : decode nc_D_trouble 40 = .ok (.aload_n 0, 1) := by decide +kernel
theorem nd_D_trouble_41 : decode nc_D_trouble 41 = .ok (.getfield 95, 3) := by decide +kernel
theorem nd_D_trouble_44 : decode nc_D_trouble 44 = .ok (.i2l, 1) := by decide +kernel
theorem nd_D_trouble_45 : decode nc_D_trouble 45 = .ok (.aload_n 0, 1) := by decide +kernel
theorem nd_D_trouble_46 : decode nc_D_trouble 46 = .ok (.getfield 118, 3) := by decide +kernel
theorem nd_D_trouble_49 : decode nc_D_trouble 49 = .ok (.i2l, 1) := by decide +kernel
theorem nd_D_trouble_50 : decode nc_D_trouble 50 = .ok (.ladd, 1) := by decide +kernel
theorem nd_D_trouble_51 : decode nc_D_trouble 51 = .ok (.invokestatic 121, 3) := by decide +kernel
theorem nd_D_trouble_54 : decode nc_D_trouble 54 = .ok (.ifCond .eq 29, 3) := by decide +kernel
theorem nd_D_trouble_57 : decode nc_D_trouble 57 = .ok (.aload_n 0, 1) := by decide +kernel
theorem nd_D_trouble_58 : decode nc_D_trouble 58 = .ok (.getfield 87, 3) := by decide +kernel
theorem nd_D_trouble_61 : decode nc_D_trouble 61 = .ok (.bipush 34, 2) := by decide +kernel
theorem nd_D_trouble_63 : decode nc_D_trouble 63 = .ok (.if_icmp .ne 24, 3) := by decide +kernel
theorem nd_D_trouble_66 : decode nc_D_trouble 66 = .ok (.aload_n 0, 1) := by decide +kernel
theorem nd_D_trouble_67 : decode nc_D_trouble 67 = .ok (.getfield 95, 3) := by decide +kernel
theorem nd_D_trouble_70 : decode nc_D_trouble 70 = .ok (.i2l, 1) := by decide +kernel
theorem nd_D_trouble_71 : decode nc_D_trouble 71 = .ok (.aload_n 0, 1) := by decide +kernel
theorem nd_D_trouble_72 : decode nc_D_trouble 72 = .ok (.getfield 118, 3) := by decide +kernel
theorem nd_D_trouble_75 : decode nc_D_trouble 75 = .ok (.i2l, 1) := by decide +kernel
theorem nd_D_trouble_76 : decode nc_D_trouble 76 = .ok (.lsub, 1) := by decide +kernel
theorem nd_D_trouble_77 : decode nc_D_trouble 77 = .ok (.invokestatic 121, 3) := by decide +kernel
theorem nd_D_trouble_80 : decode nc_D_trouble 80 = .ok (.ifCond .ne 7, 3) := by decide +kernel
theorem nd_D_trouble_83 : decode nc_D_trouble 83 = .ok (.iconst 1, 1) := by decide +kernel
theorem nd_D_trouble_84 : decode nc_D_trouble 84 = .ok (.goto 4, 3) := by decide +kernel
theorem nd_D_trouble_87 : decode nc_D_trouble 87 = .ok (.iconst 0, 1) := by decide +kernel
theorem nd_D_trouble_88 : decode nc_D_trouble 88 = .ok (.istore_n 1, 1) := by decide +kernel
theorem nd_D_trouble_89 : decode nc_D_trouble 89 = .ok (.aload_n 0, 1) := by decide +kernel
theorem nd_D_trouble_90 : decode nc_D_trouble 90 = .ok (.getfield 87, 3) := by decide +kernel
theorem nd_D_trouble_93 : decode nc_D_trouble 93 = .ok (.bipush 12, 2) := by decide +kernel
theorem nd_D_trouble_95 : decode nc_D_trouble 95 = .ok (.if_icmp .ne 8, 3) := by decide +kernel
theorem nd_D_trouble_98 : decode nc_D_trouble 98 = .ok (.bipush 8, 2) := by decide +kernel
theorem nd_D_trouble_100 : decode nc_D_trouble 100 = .ok (.goto 27, 3) := by decide +kernel
theorem nd_D_trouble_103 : decode nc_D_trouble 103 = .ok (.aload_n 0, 1) := by decide +kernel
theorem nd_D_trouble_104 : decode nc_D_trouble 104 = .ok (.getfield 87, 3) := by decide +kernel
theorem nd_D_trouble_107 : decode nc_D_trouble 107 = .ok (.bipush 13, 2) := by decide +kernel
theorem nd_D_trouble_109 : decode nc_D_trouble 109 = .ok (.if_icmp .ne 8, 3) := by decide +kernel
theorem nd_D_trouble_112 : decode nc_D_trouble 112 = .ok (.bipush 9, 2) := by decide +kernel
theorem nd_D_trouble_114 : decode nc_D_trouble 114 = .ok (.goto 13, 3) := by decide +kernel
theorem nd_D_trouble_117 : decode nc_D_trouble 117 = .ok (.iload_n 1, 1) := by decide +kernel
theorem nd_D_trouble_118 : decode nc_D_trouble 118 = .ok (.ifCond .eq 8, 3) := by decide +kernel
theorem nd_D_trouble_121 : decode nc_D_trouble 121 = .ok (.bipush 12, 2) := by decide +kernel
theorem nd_D_trouble_123 : decode nc_D_trouble 123 = .ok (.goto 4, 3) := by decide +kernel
theorem nd_D_trouble_126 : decode nc_D_trouble 126 = .ok (.iconst 0, 1) := by decide +kernel
theorem nd_D_trouble_127 : decode nc_D_trouble 127 = .ok (.ireturn, 1) := by decide +kernel
theorem nd_D_trouble_128 : decode nc_D_trouble 128 = .ok (.aload_n 0, 1) := by decide +kernel
theorem nd_D_trouble_129 : decode nc_D_trouble 129 = .ok (.getfield 84, 3) := by decide +kernel
theorem nd_D_trouble_132 : decode nc_D_trouble 132 = .ok (.bipush 8, 2) := by decide +kernel
theorem nd_D_trouble_134 : decode nc_D_trouble 134 = .ok (.if_icmp .ne 27, 3) := by decide +kernel
theorem nd_D_trouble_137 : decode nc_D_trouble 137 = .ok (.aload_n 0, 1) := by decide +kernel
theorem nd_D_trouble_138 : decode nc_D_trouble 138 = .ok (.getfield 95, 3) := by decide +kernel
theorem nd_D_trouble_141 : decode nc_D_trouble 141 = .ok (.i2l, 1) := by decide +kernel
theorem nd_D_trouble_142 : decode nc_D_trouble 142 = .ok (.aload_n 0, 1) := by decide +kernel
theorem nd_D_trouble_143 : decode nc_D_trouble 143 = .ok (.invokevirtual 98, 3) := by decide +kernel
theorem nd_D_trouble_146 : decode nc_D_trouble 146 = .ok (.i2l, 1) := by decide +kernel
theorem nd_D_trouble_147 : decode nc_D_trouble 147 = .ok (.ladd, 1) := by decide +kernel
theorem nd_D_trouble_148 : decode nc_D_trouble 148 = .ok (.invokestatic 121, 3) := by decide +kernel
theorem nd_D_trouble_151 : decode nc_D_trouble 151 = .ok (.ifCond .eq 7, 3) := by decide +kernel
theorem nd_D_trouble_154 : decode nc_D_trouble 154 = .ok (.iconst 0, 1) := by decide +kernel
theorem nd_D_trouble_155 : decode nc_D_trouble 155 = .ok (.goto 5, 3) := by decide +kernel
theorem nd_D_trouble_158 : decode nc_D_trouble 158 = .ok (.bipush 12, 2) := by decide +kernel
theorem nd_D_trouble_160 : decode nc_D_trouble 160 = .ok (.ireturn, 1) := by decide +kernel
theorem nd_D_trouble_161 : decode nc_D_trouble 161 = .ok (.aload_n 0, 1) := by decide +kernel
theorem nd_D_trouble_162 : decode nc_D_trouble 162 = .ok (.getfield 84, 3) := by decide +kernel
theorem nd_D_trouble_165 : decode nc_D_trouble 165 = .ok (.bipush 16, 2) := by decide +kernel
theorem nd_D_trouble_167 : decode nc_D_trouble 167 = .ok (.if_icmp .ne 17, 3) := by decide +kernel
theorem nd_D_trouble_170 : decode nc_D_trouble 170 = .ok (.aload_n 0, 1) := by decide +kernel
theorem nd_D_trouble_171 : decode nc_D_trouble 171 = .ok (.invokevirtual 108, 3) := by decide +kernel
theorem nd_D_trouble_174 : decode nc_D_trouble 174 = .ok (.ifCond .eq 8, 3) := by decide +kernel
theorem nd_D_trouble_177 : decode nc_D_trouble 177 = .ok (.bipush 11, 2) := by decide +kernel
theorem nd_D_trouble_179 : decode nc_D_trouble 179 = .ok (.goto 4, 3) := by decide +kernel
theorem nd_D_trouble_182 : decode nc_D_trouble 182 = .ok (.iconst 0, 1) := by decide +kernel
theorem nd_D_trouble_183 : decode nc_D_trouble 183 = .ok (.ireturn, 1) := by decide +kernel
theorem nd_D_trouble_184 : decode nc_D_trouble 184 = .ok (.aload_n 0, 1) := by decide +kernel
theorem nd_D_trouble_185 : decode nc_D_trouble 185 = .ok (.getfield 84, 3) := by decide +kernel
theorem nd_D_trouble_188 : decode nc_D_trouble 188 = .ok (.bipush 32, 2) := by decide +kernel
theorem nd_D_trouble_190 : decode nc_D_trouble 190 = .ok (.if_icmp .lt 10, 3) := by decide +kernel
theorem nd_D_trouble_193 : decode nc_D_trouble 193 = .ok (.aload_n 0, 1) := by decide +kernel
theorem nd_D_trouble_194 : decode nc_D_trouble 194 = .ok (.invokevirtual 125, 3) := by decide +kernel
theorem nd_D_trouble_197 : decode nc_D_trouble 197 = .ok (.goto 4, 3) := by decide +kernel
theorem nd_D_trouble_200 : decode nc_D_trouble 200 = .ok (.iconst 0, 1) := by decide +kernel
theorem nd_D_trouble_201 : decode nc_D_trouble 201 = .ok (.ireturn, 1) := by decide +kernel
theorem nd_D_gives_0 : decode nc_D_gives 0 = .ok (.aload_n 0, 1) := by decide +kernel
theorem nd_D_gives_1 : decode nc_D_gives 1 = .ok (.iload_n 1, 1) := by decide +kernel
theorem nd_D_gives_2 : decode nc_D_gives 2 = .ok (.putfield 128, 3) := by decide +kernel
theorem nd_D_gives_5 : decode nc_D_gives 5 = .ok (.aload_n 0, 1) := by decide +kernel
theorem nd_D_gives_6 : decode nc_D_gives 6 = .ok (.iload_n 2, 1) := by decide +kernel
theorem nd_D_gives_7 : decode nc_D_gives 7 = .ok (.putfield 131, 3) := by decide +kernel
theorem nd_D_gives_10 : decode nc_D_gives 10 = .ok (.return_, 1) := by decide +kernel
theorem nd_D_less_0 : decode nc_D_less 0 = .ok (.iload_n 0, 1) := by decide +kernel
theorem nd_D_less_1 : decode nc_D_less 1 = .ok (.ldc 80, 2) := by decide +kernel
theorem nd_D_less_3 : decode nc_D_less 3 = .ok (.iadd, 1) := by decide +kernel
theorem nd_D_less_4 : decode nc_D_less 4 = .ok (.iload_n 1, 1) := by decide +kernel
theorem nd_D_less_5 : decode nc_D_less 5 = .ok (.ldc 80, 2) := by decide +kernel
theorem nd_D_less_7 : decode nc_D_less 7 = .ok (.iadd, 1) := by decide +kernel
theorem nd_D_less_8 : decode nc_D_less 8 = .ok (.if_icmp .ge 7, 3) := by decide +kernel
theorem nd_D_less_11 : decode nc_D_less 11 = .ok (.iconst 1, 1) := by decide +kernel
theorem nd_D_less_12 : decode nc_D_less 12 = .ok (.goto 4, 3) := by decide +kernel
theorem nd_D_less_15 : decode nc_D_less 15 = .ok (.iconst 0, 1) := by decide +kernel
theorem nd_D_less_16 : decode nc_D_less 16 = .ok (.ireturn, 1) := by decide +kernel
theorem nd_D_multiply_0 : decode nc_D_multiply 0 = .ok (.iload_n 1, 1) := by decide +kernel
theorem nd_D_multiply_1 : decode nc_D_multiply 1 = .ok (.ifCond .eq 11, 3) := by decide +kernel
theorem nd_D_multiply_4 : decode nc_D_multiply 4 = .ok (.aload_n 0, 1) := by decide +kernel
theorem nd_D_multiply_5 : decode nc_D_multiply 5 = .ok (.getfield 95, 3) := by decide +kernel
theorem nd_D_multiply_8 : decode nc_D_multiply 8 = .ok (.i2l, 1) := by decide +kernel
theorem nd_D_multiply_9 : decode nc_D_multiply 9 = .ok (.goto 12, 3) := by decide +kernel
theorem nd_D_multiply_12 : decode nc_D_multiply 12 = .ok (.aload_n 0, 1) := by decide +kernel
theorem nd_D_multiply_13 : decode nc_D_multiply 13 = .ok (.getfield 95, 3) := by decide +kernel
theorem nd_D_multiply_16 : decode nc_D_multiply 16 = .ok (.i2l, 1) := by decide +kernel
theorem nd_D_multiply_17 : decode nc_D_multiply 17 = .ok (.ldc2_w 134, 3) := by decide +kernel
theorem nd_D_multiply_20 : decode nc_D_multiply 20 = .ok (.land, 1) := by decide +kernel
theorem nd_D_multiply_21 : decode nc_D_multiply 21 = .ok (.lstore_n 2, 1) := by decide +kernel
theorem nd_D_multiply_22 : decode nc_D_multiply 22 = .ok (.iload_n 1, 1) := by decide +kernel
theorem nd_D_multiply_23 : decode nc_D_multiply 23 = .ok (.ifCond .eq 11, 3) := by decide +kernel
theorem nd_D_multiply_26 : decode nc_D_multiply 26 = .ok (.aload_n 0, 1) := by decide +kernel
theorem nd_D_multiply_27 : decode nc_D_multiply 27 = .ok (.getfield 118, 3) := by decide +kernel
theorem nd_D_multiply_30 : decode nc_D_multiply 30 = .ok (.i2l, 1) := by decide +kernel
theorem nd_D_multiply_31 : decode nc_D_multiply 31 = .ok (.goto 12, 3) := by decide +kernel
theorem nd_D_multiply_34 : decode nc_D_multiply 34 = .ok (.aload_n 0, 1) := by decide +kernel
theorem nd_D_multiply_35 : decode nc_D_multiply 35 = .ok (.getfield 118, 3) := by decide +kernel
theorem nd_D_multiply_38 : decode nc_D_multiply 38 = .ok (.i2l, 1) := by decide +kernel
theorem nd_D_multiply_39 : decode nc_D_multiply 39 = .ok (.ldc2_w 134, 3) := by decide +kernel
theorem nd_D_multiply_42 : decode nc_D_multiply 42 = .ok (.land, 1) := by decide +kernel
theorem nd_D_multiply_43 : decode nc_D_multiply 43 = .ok (.lstore 4, 2) := by decide +kernel
theorem nd_D_multiply_45 : decode nc_D_multiply 45 = .ok (.lload_n 2, 1) := by decide +kernel
theorem nd_D_multiply_46 : decode nc_D_multiply 46 = .ok (.lload 4, 2) := by decide +kernel
theorem nd_D_multiply_48 : decode nc_D_multiply 48 = .ok (.lmul, 1) := by decide +kernel
theorem nd_D_multiply_49 : decode nc_D_multiply 49 = .ok (.lstore 6, 2) := by decide +kernel
theorem nd_D_multiply_51 : decode nc_D_multiply 51 = .ok (.aload_n 0, 1) := by decide +kernel
theorem nd_D_multiply_52 : decode nc_D_multiply 52 = .ok (.getfield 13, 3) := by decide +kernel
theorem nd_D_multiply_55 : decode nc_D_multiply 55 = .ok (.bipush 32, 2) := by decide +kernel
theorem nd_D_multiply_57 : decode nc_D_multiply 57 = .ok (.lload 6, 2) := by decide +kernel
theorem nd_D_multiply_59 : decode nc_D_multiply 59 = .ok (.bipush 32, 2) := by decide +kernel
theorem nd_D_multiply_61 : decode nc_D_multiply 61 = .ok (.lshr, 1) := by decide +kernel
theorem nd_D_multiply_62 : decode nc_D_multiply 62 = .ok (.l2i, 1) := by decide +kernel
theorem nd_D_multiply_63 : decode nc_D_multiply 63 = .ok (.iastore, 1) := by decide +kernel
theorem nd_D_multiply_64 : decode nc_D_multiply 64 = .ok (.aload_n 0, 1) := by decide +kernel
theorem nd_D_multiply_65 : decode nc_D_multiply 65 = .ok (.getfield 13, 3) := by decide +kernel
theorem nd_D_multiply_68 : decode nc_D_multiply 68 = .ok (.bipush 33, 2) := by decide +kernel
theorem nd_D_multiply_70 : decode nc_D_multiply 70 = .ok (.lload 6, 2) := by decide +kernel
theorem nd_D_multiply_72 : decode nc_D_multiply 72 = .ok (.l2i, 1) := by decide +kernel
theorem nd_D_multiply_73 : decode nc_D_multiply 73 = .ok (.iastore, 1) := by decide +kernel
theorem nd_D_multiply_74 : decode nc_D_multiply 74 = .ok (.return_, 1) := by decide +kernel
theorem nd_D_divide_0 : decode nc_D_divide 0 = .ok (.aload_n 0, 1) := by decide +kernel
theorem nd_D_divide_1 : decode nc_D_divide 1 = .ok (.getfield 118, 3) := by decide +kernel
theorem nd_D_divide_4 : decode nc_D_divide 4 = .ok (.ifCond .ne 38, 3) := by decide +kernel
theorem nd_D_divide_7 : decode nc_D_divide 7 = .ok (.aload_n 0, 1) := by decide +kernel
theorem nd_D_divide_8 : decode nc_D_divide 8 = .ok (.getfield 13, 3) := by decide +kernel
theorem nd_D_divide_11 : decode nc_D_divide 11 = .ok (.bipush 33, 2) := by decide +kernel
theorem nd_D_divide_13 : decode nc_D_divide 13 = .ok (.iload_n 1, 1) := by decide +kernel
theorem nd_D_divide_14 : decode nc_D_divide 14 = .ok (.ifCond .eq 14, 3) := by decide +kernel
theorem nd_D_divide_17 : decode nc_D_divide 17 = .ok (.aload_n 0, 1) := by decide +kernel
theorem nd_D_divide_18 : decode nc_D_divide 18 = .ok (.getfield 95, 3) := by decide +kernel
theorem nd_D_divide_21 : decode nc_D_divide 21 = .ok (.ifCond .ge 7, 3) := by decide +kernel
theorem nd_D_divide_24 : decode nc_D_divide 24 = .ok (.iconst 1, 1) := by decide +kernel
theorem nd_D_divide_25 : decode nc_D_divide 25 = .ok (.goto 4, 3) := by decide +kernel
theorem nd_D_divide_28 : decode nc_D_divide 28 = .ok (.iconst (-1), 1) := by decide +kernel
theorem nd_D_divide_29 : decode nc_D_divide 29 = .ok (.iastore, 1) := by decide +kernel
theorem nd_D_divide_30 : decode nc_D_divide 30 = .ok (.aload_n 0, 1) := by decide +kernel
theorem nd_D_divide_31 : decode nc_D_divide 31 = .ok (.getfield 13, 3) := by decide +kernel
theorem nd_D_divide_34 : decode nc_D_divide 34 = .ok (.bipush 32, 2) := by decide +kernel
theorem nd_D_divide_36 : decode nc_D_divide 36 = .ok (.aload_n 0, 1) := by decide +kernel
theorem nd_D_divide_37 : decode nc_D_divide 37 = .ok (.getfield 95, 3) := by decide +kernel
theorem nd_D_divide_40 : decode nc_D_divide 40 = .ok (.iastore, 1) := by decide +kernel
theorem nd_D_divide_41 : decode nc_D_divide 41 = .ok (.return_, 1) := by decide +kernel
theorem nd_D_divide_42 : decode nc_D_divide 42 = .ok (.iload_n 1, 1) := by decide +kernel
theorem nd_D_divide_43 : decode nc_D_divide 43 = .ok (.ifCond .eq 11, 3) := by decide +kernel
theorem nd_D_divide_46 : decode nc_D_divide 46 = .ok (.aload_n 0, 1) := by decide +kernel
theorem nd_D_divide_47 : decode nc_D_divide 47 = .ok (.getfield 95, 3) := by decide +kernel
theorem nd_D_divide_50 : decode nc_D_divide 50 = .ok (.i2l, 1) := by decide +kernel
theorem nd_D_divide_51 : decode nc_D_divide 51 = .ok (.goto 12, 3) := by decide +kernel
theorem nd_D_divide_54 : decode nc_D_divide 54 = .ok (.aload_n 0, 1) := by decide +kernel
theorem nd_D_divide_55 : decode nc_D_divide 55 = .ok (.getfield 95, 3) := by decide +kernel
theorem nd_D_divide_58 : decode nc_D_divide 58 = .ok (.i2l, 1) := by decide +kernel
theorem nd_D_divide_59 : decode nc_D_divide 59 = .ok (.ldc2_w 134, 3) := by decide +kernel
theorem nd_D_divide_62 : decode nc_D_divide 62 = .ok (.land, 1) := by decide +kernel
theorem nd_D_divide_63 : decode nc_D_divide 63 = .ok (.lstore_n 2, 1) := by decide +kernel
theorem nd_D_divide_64 : decode nc_D_divide 64 = .ok (.iload_n 1, 1) := by decide +kernel
theorem nd_D_divide_65 : decode nc_D_divide 65 = .ok (.ifCond .eq 11, 3) := by decide +kernel
theorem nd_D_divide_68 : decode nc_D_divide 68 = .ok (.aload_n 0, 1) := by decide +kernel
theorem nd_D_divide_69 : decode nc_D_divide 69 = .ok (.getfield 118, 3) := by decide +kernel
theorem nd_D_divide_72 : decode nc_D_divide 72 = .ok (.i2l, 1) := by decide +kernel
theorem nd_D_divide_73 : decode nc_D_divide 73 = .ok (.goto 12, 3) := by decide +kernel
theorem nd_D_divide_76 : decode nc_D_divide 76 = .ok (.aload_n 0, 1) := by decide +kernel
theorem nd_D_divide_77 : decode nc_D_divide 77 = .ok (.getfield 118, 3) := by decide +kernel
theorem nd_D_divide_80 : decode nc_D_divide 80 = .ok (.i2l, 1) := by decide +kernel
theorem nd_D_divide_81 : decode nc_D_divide 81 = .ok (.ldc2_w 134, 3) := by decide +kernel
theorem nd_D_divide_84 : decode nc_D_divide 84 = .ok (.land, 1) := by decide +kernel
theorem nd_D_divide_85 : decode nc_D_divide 85 = .ok (.lstore 4, 2) := by decide +kernel
theorem nd_D_divide_87 : decode nc_D_divide 87 = .ok (.aload_n 0, 1) := by decide +kernel
theorem nd_D_divide_88 : decode nc_D_divide 88 = .ok (.getfield 13, 3) := by decide +kernel
theorem nd_D_divide_91 : decode nc_D_divide 91 = .ok (.bipush 33, 2) := by decide +kernel
theorem nd_D_divide_93 : decode nc_D_divide 93 = .ok (.lload_n 2, 1) := by decide +kernel
theorem nd_D_divide_94 : decode nc_D_divide 94 = .ok (.lload 4, 2) := by decide +kernel
theorem nd_D_divide_96 : decode nc_D_divide 96 = .ok (.ldiv, 1) := by decide +kernel
theorem nd_D_divide_97 : decode nc_D_divide 97 = .ok (.l2i, 1) := by decide +kernel
theorem nd_D_divide_98 : decode nc_D_divide 98 = .ok (.iastore, 1) := by decide +kernel
theorem nd_D_divide_99 : decode nc_D_divide 99 = .ok (.aload_n 0, 1) := by decide +kernel
theorem nd_D_divide_100 : decode nc_D_divide 100 = .ok (.getfield 13, 3) := by decide +kernel
theorem nd_D_divide_103 : decode nc_D_divide 103 = .ok (.bipush 32, 2) := by decide +kernel
theorem nd_D_divide_105 : decode nc_D_divide 105 = .ok (.lload_n 2, 1) := by decide +kernel
theorem nd_D_divide_106 : decode nc_D_divide 106 = .ok (.lload 4, 2) := by decide +kernel
theorem nd_D_divide_108 : decode nc_D_divide 108 = .ok (.lrem, 1) := by decide +kernel
theorem nd_D_divide_109 : decode nc_D_divide 109 = .ok (.l2i, 1) := by decide +kernel
theorem nd_D_divide_110 : decode nc_D_divide 110 = .ok (.iastore, 1) := by decide +kernel
theorem nd_D_divide_111 : decode nc_D_divide 111 = .ok (.return_, 1) := by decide +kernel
theorem nd_D_shifts_0 : decode nc_D_shifts 0 = .ok (.aload_n 0, 1) := by decide +kernel
theorem nd_D_shifts_1 : decode nc_D_shifts 1 = .ok (.getfield 87, 3) := by decide +kernel
theorem nd_D_shifts_4 : decode nc_D_shifts 4 = .ok (.iconst 4, 1) := by decide +kernel
theorem nd_D_shifts_5 : decode nc_D_shifts 5 = .ok (.if_icmp .ge 16, 3) := by decide +kernel
theorem nd_D_shifts_8 : decode nc_D_shifts 8 = .ok (.aload_n 0, 1) := by decide +kernel
theorem nd_D_shifts_9 : decode nc_D_shifts 9 = .ok (.getfield 81, 3) := by decide +kernel
theorem nd_D_shifts_12 : decode nc_D_shifts 12 = .ok (.bipush 6, 2) := by decide +kernel
theorem nd_D_shifts_14 : decode nc_D_shifts 14 = .ok (.ishr, 1) := by decide +kernel
theorem nd_D_shifts_15 : decode nc_D_shifts 15 = .ok (.bipush 31, 2) := by decide +kernel
theorem nd_D_shifts_17 : decode nc_D_shifts 17 = .ok (.iand, 1) := by decide +kernel
theorem nd_D_shifts_18 : decode nc_D_shifts 18 = .ok (.goto 10, 3) := by decide +kernel
theorem nd_D_shifts_21 : decode nc_D_shifts 21 = .ok (.aload_n 0, 1) := by decide +kernel
theorem nd_D_shifts_22 : decode nc_D_shifts 22 = .ok (.getfield 95, 3) := by decide +kernel
theorem nd_D_shifts_25 : decode nc_D_shifts 25 = .ok (.bipush 31, 2) := by decide +kernel
theorem nd_D_shifts_27 : decode nc_D_shifts 27 = .ok (.iand, 1) := by decide +kernel
theorem nd_D_shifts_28 : decode nc_D_shifts 28 = .ok (.istore_n 2, 1) := by decide +kernel
theorem nd_D_shifts_29 : decode nc_D_shifts 29 = .ok (.aload_n 0, 1) := by decide +kernel
theorem nd_D_shifts_30 : decode nc_D_shifts 30 = .ok (.iload_n 1, 1) := by decide +kernel
theorem nd_D_shifts_31 : decode nc_D_shifts 31 = .ok (.aload_n 0, 1) := by decide +kernel
theorem nd_D_shifts_32 : decode nc_D_shifts 32 = .ok (.getfield 87, 3) := by decide +kernel
theorem nd_D_shifts_35 : decode nc_D_shifts 35 = .ok (.iconst 4, 1) := by decide +kernel
theorem nd_D_shifts_36 : decode nc_D_shifts 36 = .ok (.irem, 1) := by decide +kernel
theorem nd_D_shifts_37 : decode nc_D_shifts 37 = .ok (.ifCond .ne 12, 3) := by decide +kernel
theorem nd_D_shifts_40 : decode nc_D_shifts 40 = .ok (.aload_n 0, 1) := by decide +kernel
theorem nd_D_shifts_41 : decode nc_D_shifts 41 = .ok (.getfield 118, 3) := by decide +kernel
theorem nd_D_shifts_44 : decode nc_D_shifts 44 = .ok (.iload_n 2, 1) := by decide +kernel
theorem nd_D_shifts_45 : decode nc_D_shifts 45 = .ok (.ishl, 1) := by decide +kernel
theorem nd_D_shifts_46 : decode nc_D_shifts 46 = .ok (.goto 28, 3) := by decide +kernel
theorem nd_D_shifts_49 : decode nc_D_shifts 49 = .ok (.aload_n 0, 1) := by decide +kernel
theorem nd_D_shifts_50 : decode nc_D_shifts 50 = .ok (.getfield 87, 3) := by decide +kernel
theorem nd_D_shifts_53 : decode nc_D_shifts 53 = .ok (.iconst 4, 1) := by decide +kernel
theorem nd_D_shifts_54 : decode nc_D_shifts 54 = .ok (.irem, 1) := by decide +kernel
theorem nd_D_shifts_55 : decode nc_D_shifts 55 = .ok (.iconst 2, 1) := by decide +kernel
theorem nd_D_shifts_56 : decode nc_D_shifts 56 = .ok (.if_icmp .ne 12, 3) := by decide +kernel
theorem nd_D_shifts_59 : decode nc_D_shifts 59 = .ok (.aload_n 0, 1) := by decide +kernel
theorem nd_D_shifts_60 : decode nc_D_shifts 60 = .ok (.getfield 118, 3) := by decide +kernel
theorem nd_D_shifts_63 : decode nc_D_shifts 63 = .ok (.iload_n 2, 1) := by decide +kernel
theorem nd_D_shifts_64 : decode nc_D_shifts 64 = .ok (.iushr, 1) := by decide +kernel
theorem nd_D_shifts_65 : decode nc_D_shifts 65 = .ok (.goto 9, 3) := by decide +kernel
theorem nd_D_shifts_68 : decode nc_D_shifts 68 = .ok (.aload_n 0, 1) := by decide +kernel
theorem nd_D_shifts_69 : decode nc_D_shifts 69 = .ok (.getfield 118, 3) := by decide +kernel
theorem nd_D_shifts_72 : decode nc_D_shifts 72 = .ok (.iload_n 2, 1) := by decide +kernel
theorem nd_D_shifts_73 : decode nc_D_shifts 73 = .ok (.ishr, 1) := by decide +kernel
theorem nd_D_shifts_74 : decode nc_D_shifts 74 = .ok (.invokevirtual 136, 3) := by decide +kernel
theorem nd_D_shifts_77 : decode nc_D_shifts 77 = .ok (.return_, 1) := by decide +kernel
