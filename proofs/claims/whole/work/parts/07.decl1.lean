theorem nd_L_put_0 : decode nc_L_put 0 = .ok (.aload_n 3, 1) := by decide +kernel
theorem nd_L_put_1 : decode nc_L_put 1 = .ok (.iconst 0, 1) := by decide +kernel
theorem nd_L_put_2 : decode nc_L_put 2 = .ok (.aload_n 0, 1) := by decide +kernel
theorem nd_L_put_3 : decode nc_L_put 3 = .ok (.iload_n 1, 1) := by decide +kernel
theorem nd_L_put_4 : decode nc_L_put 4 = .ok (.iload_n 2, 1) := by decide +kernel
theorem nd_L_put_5 : decode nc_L_put 5 = .ok (.invokevirtual 7, 3) := by decide +kernel
theorem nd_L_put_8 : decode nc_L_put 8 = .ok (.i2l, 1) := by decide +kernel
theorem nd_L_put_9 : decode nc_L_put 9 = .ok (.lastore, 1) := by decide +kernel
theorem nd_L_put_10 : decode nc_L_put 10 = .ok (.goto 7, 3) := by decide +kernel
theorem nd_L_put_13 : decode nc_L_put 13 = .ok (.astore 4, 2) := by decide +kernel
theorem nd_L_put_15 : decode nc_L_put 15 = .ok (.iconst 1, 1) := by decide +kernel
theorem nd_L_put_16 : decode nc_L_put 16 = .ok (.ireturn, 1) := by decide +kernel
theorem nd_L_put_17 : decode nc_L_put 17 = .ok (.iconst 0, 1) := by decide +kernel
theorem nd_L_put_18 : decode nc_L_put 18 = .ok (.ireturn, 1) := by decide +kernel
theorem nd_L_word_0 : decode nc_L_word 0 = .ok (.aload_n 2, 1) := by decide +kernel
theorem nd_L_word_1 : decode nc_L_word 1 = .ok (.iconst 0, 1) := by decide +kernel
theorem nd_L_word_2 : decode nc_L_word 2 = .ok (.aload_n 0, 1) := by decide +kernel
theorem nd_L_word_3 : decode nc_L_word 3 = .ok (.iload_n 1, 1) := by decide +kernel
theorem nd_L_word_4 : decode nc_L_word 4 = .ok (.invokevirtual 15, 3) := by decide +kernel
theorem nd_L_word_7 : decode nc_L_word 7 = .ok (.i2l, 1) := by decide +kernel
theorem nd_L_word_8 : decode nc_L_word 8 = .ok (.lastore, 1) := by decide +kernel
theorem nd_L_word_9 : decode nc_L_word 9 = .ok (.goto 6, 3) := by decide +kernel
theorem nd_L_word_12 : decode nc_L_word 12 = .ok (.astore_n 3, 1) := by decide +kernel
theorem nd_L_word_13 : decode nc_L_word 13 = .ok (.iconst 1, 1) := by decide +kernel
theorem nd_L_word_14 : decode nc_L_word 14 = .ok (.ireturn, 1) := by decide +kernel
theorem nd_L_word_15 : decode nc_L_word 15 = .ok (.iconst 0, 1) := by decide +kernel
theorem nd_L_word_16 : decode nc_L_word 16 = .ok (.ireturn, 1) := by decide +kernel
theorem nd_L_set_0 : decode nc_L_set 0 = .ok (.aload_n 3, 1) := by decide +kernel
theorem nd_L_set_1 : decode nc_L_set 1 = .ok (.iconst 0, 1) := by decide +kernel
theorem nd_L_set_2 : decode nc_L_set 2 = .ok (.aload_n 0, 1) := by decide +kernel
theorem nd_L_set_3 : decode nc_L_set 3 = .ok (.iload_n 1, 1) := by decide +kernel
theorem nd_L_set_4 : decode nc_L_set 4 = .ok (.iload_n 2, 1) := by decide +kernel
theorem nd_L_set_5 : decode nc_L_set 5 = .ok (.invokevirtual 19, 3) := by decide +kernel
theorem nd_L_set_8 : decode nc_L_set 8 = .ok (.i2l, 1) := by decide +kernel
theorem nd_L_set_9 : decode nc_L_set 9 = .ok (.lastore, 1) := by decide +kernel
theorem nd_L_set_10 : decode nc_L_set 10 = .ok (.goto 7, 3) := by decide +kernel
theorem nd_L_set_13 : decode nc_L_set 13 = .ok (.astore 4, 2) := by decide +kernel
theorem nd_L_set_15 : decode nc_L_set 15 = .ok (.iconst 1, 1) := by decide +kernel
theorem nd_L_set_16 : decode nc_L_set 16 = .ok (.ireturn, 1) := by decide +kernel
theorem nd_L_set_17 : decode nc_L_set 17 = .ok (.iconst 0, 1) := by decide +kernel
theorem nd_L_set_18 : decode nc_L_set 18 = .ok (.ireturn, 1) := by decide +kernel
theorem nd_L_register_0 : decode nc_L_register 0 = .ok (.aload_n 2, 1) := by decide +kernel
theorem nd_L_register_1 : decode nc_L_register 1 = .ok (.iconst 0, 1) := by decide +kernel
theorem nd_L_register_2 : decode nc_L_register 2 = .ok (.aload_n 0, 1) := by decide +kernel
theorem nd_L_register_3 : decode nc_L_register 3 = .ok (.iload_n 1, 1) := by decide +kernel
theorem nd_L_register_4 : decode nc_L_register 4 = .ok (.invokevirtual 22, 3) := by decide +kernel
theorem nd_L_register_7 : decode nc_L_register 7 = .ok (.i2l, 1) := by decide +kernel
theorem nd_L_register_8 : decode nc_L_register 8 = .ok (.lastore, 1) := by decide +kernel
theorem nd_L_register_9 : decode nc_L_register 9 = .ok (.goto 6, 3) := by decide +kernel
theorem nd_L_register_12 : decode nc_L_register 12 = .ok (.astore_n 3, 1) := by decide +kernel
theorem nd_L_register_13 : decode nc_L_register 13 = .ok (.iconst 1, 1) := by decide +kernel
theorem nd_L_register_14 : decode nc_L_register 14 = .ok (.ireturn, 1) := by decide +kernel
theorem nd_L_register_15 : decode nc_L_register 15 = .ok (.iconst 0, 1) := by decide +kernel
theorem nd_L_register_16 : decode nc_L_register 16 = .ok (.ireturn, 1) := by decide +kernel
theorem nd_L_lines_0 : decode nc_L_lines 0 = .ok (.aload_n 2, 1) := by decide +kernel
theorem nd_L_lines_1 : decode nc_L_lines 1 = .ok (.iconst 0, 1) := by decide +kernel
theorem nd_L_lines_2 : decode nc_L_lines 2 = .ok (.aload_n 0, 1) := by decide +kernel
theorem nd_L_lines_3 : decode nc_L_lines 3 = .ok (.iload_n 1, 1) := by decide +kernel
theorem nd_L_lines_4 : decode nc_L_lines 4 = .ok (.invokevirtual 25, 3) := by decide +kernel
theorem nd_L_lines_7 : decode nc_L_lines 7 = .ok (.i2l, 1) := by decide +kernel
theorem nd_L_lines_8 : decode nc_L_lines 8 = .ok (.lastore, 1) := by decide +kernel
theorem nd_L_lines_9 : decode nc_L_lines 9 = .ok (.goto 6, 3) := by decide +kernel
theorem nd_L_lines_12 : decode nc_L_lines 12 = .ok (.astore_n 3, 1) := by decide +kernel
theorem nd_L_lines_13 : decode nc_L_lines 13 = .ok (.iconst 1, 1) := by decide +kernel
theorem nd_L_lines_14 : decode nc_L_lines 14 = .ok (.ireturn, 1) := by decide +kernel
theorem nd_L_lines_15 : decode nc_L_lines 15 = .ok (.iconst 0, 1) := by decide +kernel
theorem nd_L_lines_16 : decode nc_L_lines 16 = .ok (.ireturn, 1) := by decide +kernel
theorem nd_L_run_0 : decode nc_L_run 0 = .ok (.aload_n 2, 1) := by decide +kernel
theorem nd_L_run_1 : decode nc_L_run 1 = .ok (.iconst 0, 1) := by decide +kernel
theorem nd_L_run_2 : decode nc_L_run 2 = .ok (.aload_n 0, 1) := by decide +kernel
theorem nd_L_run_3 : decode nc_L_run 3 = .ok (.iload_n 1, 1) := by decide +kernel
theorem nd_L_run_4 : decode nc_L_run 4 = .ok (.invokevirtual 30, 3) := by decide +kernel
theorem nd_L_run_7 : decode nc_L_run 7 = .ok (.i2l, 1) := by decide +kernel
theorem nd_L_run_8 : decode nc_L_run 8 = .ok (.lastore, 1) := by decide +kernel
theorem nd_L_run_9 : decode nc_L_run 9 = .ok (.goto 6, 3) := by decide +kernel
theorem nd_L_run_12 : decode nc_L_run 12 = .ok (.astore_n 3, 1) := by decide +kernel
theorem nd_L_run_13 : decode nc_L_run 13 = .ok (.iconst 1, 1) := by decide +kernel
theorem nd_L_run_14 : decode nc_L_run 14 = .ok (.ireturn, 1) := by decide +kernel
theorem nd_L_run_15 : decode nc_L_run 15 = .ok (.iconst 0, 1) := by decide +kernel
theorem nd_L_run_16 : decode nc_L_run 16 = .ok (.ireturn, 1) := by decide +kernel
theorem nd_L_look_0 : decode nc_L_look 0 = .ok (.aload_n 2, 1) := by decide +kernel
theorem nd_L_look_1 : decode nc_L_look 1 = .ok (.iconst 0, 1) := by decide +kernel
theorem nd_L_look_2 : decode nc_L_look 2 = .ok (.aload_n 0, 1) := by decide +kernel
theorem nd_L_look_3 : decode nc_L_look 3 = .ok (.iload_n 1, 1) := by decide +kernel
theorem nd_L_look_4 : decode nc_L_look 4 = .ok (.invokevirtual 33, 3) := by decide +kernel
theorem nd_L_look_7 : decode nc_L_look 7 = .ok (.i2l, 1) := by decide +kernel
theorem nd_L_look_8 : decode nc_L_look 8 = .ok (.lastore, 1) := by decide +kernel
theorem nd_L_look_9 : decode nc_L_look 9 = .ok (.goto 6, 3) := by decide +kernel
theorem nd_L_look_12 : decode nc_L_look 12 = .ok (.astore_n 3, 1) := by decide +kernel
theorem nd_L_look_13 : decode nc_L_look 13 = .ok (.iconst 1, 1) := by decide +kernel
theorem nd_L_look_14 : decode nc_L_look 14 = .ok (.ireturn, 1) := by decide +kernel
theorem nd_L_look_15 : decode nc_L_look 15 = .ok (.iconst 0, 1) := by decide +kernel
theorem nd_L_look_16 : decode nc_L_look 16 = .ok (.ireturn, 1) := by decide +kernel
theorem nd_L_law_0 : decode code 0 = .ok (.new 8, 3) := by decide +kernel
theorem nd_L_law_3 : decode code 3 = .ok (.dup, 1) := by decide +kernel
theorem nd_L_law_4 : decode code 4 = .ok (.invokespecial 36, 3) := by decide +kernel
theorem nd_L_law_7 : decode code 7 = .ok (.astore_n 1, 1) := by decide +kernel
theorem nd_L_law_8 : decode code 8 = .ok (.new 37, 3) := by decide +kernel
theorem nd_L_law_11 : decode code 11 = .ok (.dup, 1) := by decide +kernel
theorem nd_L_law_12 : decode code 12 = .ok (.invokespecial 39, 3) := by decide +kernel
theorem nd_L_law_15 : decode code 15 = .ok (.astore_n 2, 1) := by decide +kernel
theorem nd_L_law_16 : decode code 16 = .ok (.iconst 1, 1) := by decide +kernel
theorem nd_L_law_17 : decode code 17 = .ok (.newarray .long, 2) := by decide +kernel
theorem nd_L_law_19 : decode code 19 = .ok (.astore_n 3, 1) := by decide +kernel
theorem nd_L_law_20 : decode code 20 = .ok (.iconst 0, 1) := by decide +kernel
theorem nd_L_law_21 : decode code 21 = .ok (.istore 4, 2) := by decide +kernel
theorem nd_L_law_23 : decode code 23 = .ok (.iload 4, 2) := by decide +kernel
theorem nd_L_law_25 : decode code 25 = .ok (.aload_n 0, 1) := by decide +kernel
theorem nd_L_law_26 : decode code 26 = .ok (.arraylength, 1) := by decide +kernel
theorem nd_L_law_27 : decode code 27 = .ok (.iconst 3, 1) := by decide +kernel
theorem nd_L_law_28 : decode code 28 = .ok (.isub, 1) := by decide +kernel
theorem nd_L_law_29 : decode code 29 = .ok (.if_icmp .gt 563, 3) := by decide +kernel
theorem nd_L_law_32 : decode code 32 = .ok (.aload_n 0, 1) := by decide +kernel
theorem nd_L_law_33 : decode code 33 = .ok (.iload 4, 2) := by decide +kernel
theorem nd_L_law_35 : decode code 35 = .ok (.iaload, 1) := by decide +kernel
theorem nd_L_law_36 : decode code 36 = .ok (.bipush 15, 2) := by decide +kernel
theorem nd_L_law_38 : decode code 38 = .ok (.iand, 1) := by decide +kernel
theorem nd_L_law_39 : decode code 39 = .ok (.tableswitch 547 0 10 #[57, 68, 136, 192, 260, 316, 341, 366, 422, 435, 491], 57) := by decide +kernel
theorem nd_L_law_96 : decode code 96 = .ok (.aload_n 1, 1) := by decide +kernel
theorem nd_L_law_97 : decode code 97 = .ok (.invokevirtual 40, 3) := by decide +kernel
theorem nd_L_law_100 : decode code 100 = .ok (.aload_n 2, 1) := by decide +kernel
theorem nd_L_law_101 : decode code 101 = .ok (.invokevirtual 43, 3) := by decide +kernel
theorem nd_L_law_104 : decode code 104 = .ok (.goto 482, 3) := by decide +kernel
theorem nd_L_law_107 : decode code 107 = .ok (.aload_n 1, 1) := by decide +kernel
theorem nd_L_law_108 : decode code 108 = .ok (.aload_n 0, 1) := by decide +kernel
theorem nd_L_law_109 : decode code 109 = .ok (.iload 4, 2) := by decide +kernel
theorem nd_L_law_111 : decode code 111 = .ok (.iconst 1, 1) := by decide +kernel
theorem nd_L_law_112 : decode code 112 = .ok (.iadd, 1) := by decide +kernel
theorem nd_L_law_113 : decode code 113 = .ok (.iaload, 1) := by decide +kernel
theorem nd_L_law_114 : decode code 114 = .ok (.aload_n 0, 1) := by decide +kernel
theorem nd_L_law_115 : decode code 115 = .ok (.iload 4, 2) := by decide +kernel
theorem nd_L_law_117 : decode code 117 = .ok (.iconst 2, 1) := by decide +kernel
theorem nd_L_law_118 : decode code 118 = .ok (.iadd, 1) := by decide +kernel
theorem nd_L_law_119 : decode code 119 = .ok (.iaload, 1) := by decide +kernel
theorem nd_L_law_120 : decode code 120 = .ok (.aload_n 3, 1) := by decide +kernel
theorem nd_L_law_121 : decode code 121 = .ok (.invokestatic 44, 3) := by decide +kernel
theorem nd_L_law_124 : decode code 124 = .ok (.istore 5, 2) := by decide +kernel
theorem nd_L_law_126 : decode code 126 = .ok (.aload_n 2, 1) := by decide +kernel
theorem nd_L_law_127 : decode code 127 = .ok (.aload_n 0, 1) := by decide +kernel
theorem nd_L_law_128 : decode code 128 = .ok (.iload 4, 2) := by decide +kernel
theorem nd_L_law_130 : decode code 130 = .ok (.iconst 1, 1) := by decide +kernel
theorem nd_L_law_131 : decode code 131 = .ok (.iadd, 1) := by decide +kernel
theorem nd_L_law_132 : decode code 132 = .ok (.iaload, 1) := by decide +kernel
theorem nd_L_law_133 : decode code 133 = .ok (.aload_n 0, 1) := by decide +kernel
theorem nd_L_law_134 : decode code 134 = .ok (.iload 4, 2) := by decide +kernel
theorem nd_L_law_136 : decode code 136 = .ok (.iconst 2, 1) := by decide +kernel
theorem nd_L_law_137 : decode code 137 = .ok (.iadd, 1) := by decide +kernel
theorem nd_L_law_138 : decode code 138 = .ok (.iaload, 1) := by decide +kernel
theorem nd_L_law_139 : decode code 139 = .ok (.invokevirtual 49, 3) := by decide +kernel
theorem nd_L_law_142 : decode code 142 = .ok (.istore 6, 2) := by decide +kernel
theorem nd_L_law_144 : decode code 144 = .ok (.aload_n 2, 1) := by decide +kernel
theorem nd_L_law_145 : decode code 145 = .ok (.invokevirtual 50, 3) := by decide +kernel
theorem nd_L_law_148 : decode code 148 = .ok (.iload 5, 2) := by decide +kernel
theorem nd_L_law_150 : decode code 150 = .ok (.if_icmp .eq 5, 3) := by decide +kernel
theorem nd_L_law_153 : decode code 153 = .ok (.iconst 0, 1) := by decide +kernel
theorem nd_L_law_154 : decode code 154 = .ok (.ireturn, 1) := by decide +kernel
theorem nd_L_law_155 : decode code 155 = .ok (.iload 5, 2) := by decide +kernel
theorem nd_L_law_157 : decode code 157 = .ok (.ifCond .ne 15, 3) := by decide +kernel
theorem nd_L_law_160 : decode code 160 = .ok (.aload_n 3, 1) := by decide +kernel
theorem nd_L_law_161 : decode code 161 = .ok (.iconst 0, 1) := by decide +kernel
theorem nd_L_law_162 : decode code 162 = .ok (.laload, 1) := by decide +kernel
theorem nd_L_law_163 : decode code 163 = .ok (.iload 6, 2) := by decide +kernel
theorem nd_L_law_165 : decode code 165 = .ok (.i2l, 1) := by decide +kernel
theorem nd_L_law_166 : decode code 166 = .ok (.lcmp, 1) := by decide +kernel
theorem nd_L_law_167 : decode code 167 = .ok (.ifCond .eq 5, 3) := by decide +kernel
theorem nd_L_law_170 : decode code 170 = .ok (.iconst 0, 1) := by decide +kernel
theorem nd_L_law_171 : decode code 171 = .ok (.ireturn, 1) := by decide +kernel
theorem nd_L_law_172 : decode code 172 = .ok (.goto 414, 3) := by decide +kernel
theorem nd_L_law_175 : decode code 175 = .ok (.aload_n 1, 1) := by decide +kernel
theorem nd_L_law_176 : decode code 176 = .ok (.aload_n 0, 1) := by decide +kernel
theorem nd_L_law_177 : decode code 177 = .ok (.iload 4, 2) := by decide +kernel
theorem nd_L_law_179 : decode code 179 = .ok (.iconst 1, 1) := by decide +kernel
theorem nd_L_law_180 : decode code 180 = .ok (.iadd, 1) := by decide +kernel
theorem nd_L_law_181 : decode code 181 = .ok (.iaload, 1) := by decide +kernel
theorem nd_L_law_182 : decode code 182 = .ok (.aload_n 3, 1) := by decide +kernel
theorem nd_L_law_183 : decode code 183 = .ok (.invokestatic 54, 3) := by decide +kernel
theorem nd_L_law_186 : decode code 186 = .ok (.istore 5, 2) := by decide +kernel
theorem nd_L_law_188 : decode code 188 = .ok (.aload_n 2, 1) := by decide +kernel
theorem nd_L_law_189 : decode code 189 = .ok (.aload_n 0, 1) := by decide +kernel
theorem nd_L_law_190 : decode code 190 = .ok (.iload 4, 2) := by decide +kernel
theorem nd_L_law_192 : decode code 192 = .ok (.iconst 1, 1) := by decide +kernel
theorem nd_L_law_193 : decode code 193 = .ok (.iadd, 1) := by decide +kernel
theorem nd_L_law_194 : decode code 194 = .ok (.iaload, 1) := by decide +kernel
theorem nd_L_law_195 : decode code 195 = .ok (.invokevirtual 57, 3) := by decide +kernel
theorem nd_L_law_198 : decode code 198 = .ok (.istore 6, 2) := by decide +kernel
theorem nd_L_law_200 : decode code 200 = .ok (.aload_n 2, 1) := by decide +kernel
theorem nd_L_law_201 : decode code 201 = .ok (.invokevirtual 50, 3) := by decide +kernel
theorem nd_L_law_204 : decode code 204 = .ok (.iload 5, 2) := by decide +kernel
theorem nd_L_law_206 : decode code 206 = .ok (.if_icmp .eq 5, 3) := by decide +kernel
theorem nd_L_law_209 : decode code 209 = .ok (.iconst 0, 1) := by decide +kernel
theorem nd_L_law_210 : decode code 210 = .ok (.ireturn, 1) := by decide +kernel
theorem nd_L_law_211 : decode code 211 = .ok (.iload 5, 2) := by decide +kernel
theorem nd_L_law_213 : decode code 213 = .ok (.ifCond .ne 15, 3) := by decide +kernel
theorem nd_L_law_216 : decode code 216 = .ok (.aload_n 3, 1) := by decide +kernel
theorem nd_L_law_217 : decode code 217 = .ok (.iconst 0, 1) := by decide +kernel
theorem nd_L_law_218 : decode code 218 = .ok (.laload, 1) := by decide +kernel
theorem nd_L_law_219 : decode code 219 = .ok (.iload 6, 2) := by decide +kernel
theorem nd_L_law_221 : decode code 221 = .ok (.i2l, 1) := by decide +kernel
theorem nd_L_law_222 : decode code 222 = .ok (.lcmp, 1) := by decide +kernel
theorem nd_L_law_223 : decode code 223 = .ok (.ifCond .eq 5, 3) := by decide +kernel
theorem nd_L_law_226 : decode code 226 = .ok (.iconst 0, 1) := by decide +kernel
theorem nd_L_law_227 : decode code 227 = .ok (.ireturn, 1) := by decide +kernel
theorem nd_L_law_228 : decode code 228 = .ok (.goto 358, 3) := by decide +kernel
theorem nd_L_law_231 : decode code 231 = .ok (.aload_n 1, 1) := by decide +kernel
theorem nd_L_law_232 : decode code 232 = .ok (.aload_n 0, 1) := by decide +kernel
theorem nd_L_law_233 : decode code 233 = .ok (.iload 4, 2) := by decide +kernel
theorem nd_L_law_235 : decode code 235 = .ok (.iconst 1, 1) := by decide +kernel
theorem nd_L_law_236 : decode code 236 = .ok (.iadd, 1) := by decide +kernel
theorem nd_L_law_237 : decode code 237 = .ok (.iaload, 1) := by decide +kernel
theorem nd_L_law_238 : decode code 238 = .ok (.aload_n 0, 1) := by decide +kernel
theorem nd_L_law_239 : decode code 239 = .ok (.iload 4, 2) := by decide +kernel
theorem nd_L_law_241 : decode code 241 = .ok (.iconst 2, 1) := by decide +kernel
theorem nd_L_law_242 : decode code 242 = .ok (.iadd, 1) := by decide +kernel
theorem nd_L_law_243 : decode code 243 = .ok (.iaload, 1) := by decide +kernel
theorem nd_L_law_244 : decode code 244 = .ok (.aload_n 3, 1) := by decide +kernel
theorem nd_L_law_245 : decode code 245 = .ok (.invokestatic 58, 3) := by decide +kernel
theorem nd_L_law_248 : decode code 248 = .ok (.istore 5, 2) := by decide +kernel
theorem nd_L_law_250 : decode code 250 = .ok (.aload_n 2, 1) := by decide +kernel
theorem nd_L_law_251 : decode code 251 = .ok (.aload_n 0, 1) := by decide +kernel
theorem nd_L_law_252 : decode code 252 = .ok (.iload 4, 2) := by decide +kernel
theorem nd_L_law_254 : decode code 254 = .ok (.iconst 1, 1) := by decide +kernel
theorem nd_L_law_255 : decode code 255 = .ok (.iadd, 1) := by decide +kernel
theorem nd_L_law_256 : decode code 256 = .ok (.iaload, 1) := by decide +kernel
theorem nd_L_law_257 : decode code 257 = .ok (.aload_n 0, 1) := by decide +kernel
theorem nd_L_law_258 : decode code 258 = .ok (.iload 4, 2) := by decide +kernel
theorem nd_L_law_260 : decode code 260 = .ok (.iconst 2, 1) := by decide +kernel
theorem nd_L_law_261 : decode code 261 = .ok (.iadd, 1) := by decide +kernel
theorem nd_L_law_262 : decode code 262 = .ok (.iaload, 1) := by decide +kernel
theorem nd_L_law_263 : decode code 263 = .ok (.invokevirtual 60, 3) := by decide +kernel
theorem nd_L_law_266 : decode code 266 = .ok (.istore 6, 2) := by decide +kernel
theorem nd_L_law_268 : decode code 268 = .ok (.aload_n 2, 1) := by decide +kernel
theorem nd_L_law_269 : decode code 269 = .ok (.invokevirtual 50, 3) := by decide +kernel
theorem nd_L_law_272 : decode code 272 = .ok (.iload 5, 2) := by decide +kernel
theorem nd_L_law_274 : decode code 274 = .ok (.if_icmp .eq 5, 3) := by decide +kernel
theorem nd_L_law_277 : decode code 277 = .ok (.iconst 0, 1) := by decide +kernel
theorem nd_L_law_278 : decode code 278 = .ok (.ireturn, 1) := by decide +kernel
theorem nd_L_law_279 : decode code 279 = .ok (.iload 5, 2) := by decide +kernel
theorem nd_L_law_281 : decode code 281 = .ok (.ifCond .ne 15, 3) := by decide +kernel
theorem nd_L_law_284 : decode code 284 = .ok (.aload_n 3, 1) := by decide +kernel
theorem nd_L_law_285 : decode code 285 = .ok (.iconst 0, 1) := by decide +kernel
theorem nd_L_law_286 : decode code 286 = .ok (.laload, 1) := by decide +kernel
theorem nd_L_law_287 : decode code 287 = .ok (.iload 6, 2) := by decide +kernel
theorem nd_L_law_289 : decode code 289 = .ok (.i2l, 1) := by decide +kernel
theorem nd_L_law_290 : decode code 290 = .ok (.lcmp, 1) := by decide +kernel
theorem nd_L_law_291 : decode code 291 = .ok (.ifCond .eq 5, 3) := by decide +kernel
theorem nd_L_law_294 : decode code 294 = .ok (.iconst 0, 1) := by decide +kernel
theorem nd_L_law_295 : decode code 295 = .ok (.ireturn, 1) := by decide +kernel
theorem nd_L_law_296 : decode code 296 = .ok (.goto 290, 3) := by decide +kernel
theorem nd_L_law_299 : decode code 299 = .ok (.aload_n 1, 1) := by decide +kernel
theorem nd_L_law_300 : decode code 300 = .ok (.aload_n 0, 1) := by decide +kernel
theorem nd_L_law_301 : decode code 301 = .ok (.iload 4, 2) := by decide +kernel
theorem nd_L_law_303 : decode code 303 = .ok (.iconst 1, 1) := by decide +kernel
theorem nd_L_law_304 : decode code 304 = .ok (.iadd, 1) := by decide +kernel
theorem nd_L_law_305 : decode code 305 = .ok (.iaload, 1) := by decide +kernel
theorem nd_L_law_306 : decode code 306 = .ok (.aload_n 3, 1) := by decide +kernel
theorem nd_L_law_307 : decode code 307 = .ok (.invokestatic 61, 3) := by decide +kernel
theorem nd_L_law_310 : decode code 310 = .ok (.istore 5, 2) := by decide +kernel
theorem nd_L_law_312 : decode code 312 = .ok (.aload_n 2, 1) := by decide +kernel
theorem nd_L_law_313 : decode code 313 = .ok (.aload_n 0, 1) := by decide +kernel
theorem nd_L_law_314 : decode code 314 = .ok (.iload 4, 2) := by decide +kernel
theorem nd_L_law_316 : decode code 316 = .ok (.iconst 1, 1) := by decide +kernel
theorem nd_L_law_317 : decode code 317 = .ok (.iadd, 1) := by decide +kernel
theorem nd_L_law_318 : decode code 318 = .ok (.iaload, 1) := by decide +kernel
theorem nd_L_law_319 : decode code 319 = .ok (.invokevirtual 63, 3) := by decide +kernel
theorem nd_L_law_322 : decode code 322 = .ok (.istore 6, 2) := by decide +kernel
theorem nd_L_law_324 : decode code 324 = .ok (.aload_n 2, 1) := by decide +kernel
theorem nd_L_law_325 : decode code 325 = .ok (.invokevirtual 50, 3) := by decide +kernel
theorem nd_L_law_328 : decode code 328 = .ok (.iload 5, 2) := by decide +kernel
theorem nd_L_law_330 : decode code 330 = .ok (.if_icmp .eq 5, 3) := by decide +kernel
theorem nd_L_law_333 : decode code 333 = .ok (.iconst 0, 1) := by decide +kernel
theorem nd_L_law_334 : decode code 334 = .ok (.ireturn, 1) := by decide +kernel
theorem nd_L_law_335 : decode code 335 = .ok (.iload 5, 2) := by decide +kernel
theorem nd_L_law_337 : decode code 337 = .ok (.ifCond .ne 15, 3) := by decide +kernel
theorem nd_L_law_340 : decode code 340 = .ok (.aload_n 3, 1) := by decide +kernel
theorem nd_L_law_341 : decode code 341 = .ok (.iconst 0, 1) := by decide +kernel
theorem nd_L_law_342 : decode code 342 = .ok (.laload, 1) := by decide +kernel
theorem nd_L_law_343 : decode code 343 = .ok (.iload 6, 2) := by decide +kernel
theorem nd_L_law_345 : decode code 345 = .ok (.i2l, 1) := by decide +kernel
theorem nd_L_law_346 : decode code 346 = .ok (.lcmp, 1) := by decide +kernel
theorem nd_L_law_347 : decode code 347 = .ok (.ifCond .eq 5, 3) := by decide +kernel
theorem nd_L_law_350 : decode code 350 = .ok (.iconst 0, 1) := by decide +kernel
theorem nd_L_law_351 : decode code 351 = .ok (.ireturn, 1) := by decide +kernel
theorem nd_L_law_352 : decode code 352 = .ok (.goto 234, 3) := by decide +kernel
theorem nd_L_law_355 : decode code 355 = .ok (.aload_n 1, 1) := by decide +kernel
theorem nd_L_law_356 : decode code 356 = .ok (.aload_n 0, 1) := by decide +kernel
theorem nd_L_law_357 : decode code 357 = .ok (.iload 4, 2) := by decide +kernel
theorem nd_L_law_359 : decode code 359 = .ok (.iconst 1, 1) := by decide +kernel
theorem nd_L_law_360 : decode code 360 = .ok (.iadd, 1) := by decide +kernel
theorem nd_L_law_361 : decode code 361 = .ok (.iaload, 1) := by decide +kernel
theorem nd_L_law_362 : decode code 362 = .ok (.invokevirtual 64, 3) := by decide +kernel
theorem nd_L_law_365 : decode code 365 = .ok (.aload_n 2, 1) := by decide +kernel
theorem nd_L_law_366 : decode code 366 = .ok (.aload_n 0, 1) := by decide +kernel
theorem nd_L_law_367 : decode code 367 = .ok (.iload 4, 2) := by decide +kernel
theorem nd_L_law_369 : decode code 369 = .ok (.iconst 1, 1) := by decide +kernel
theorem nd_L_law_370 : decode code 370 = .ok (.iadd, 1) := by decide +kernel
theorem nd_L_law_371 : decode code 371 = .ok (.iaload, 1) := by decide +kernel
theorem nd_L_law_372 : decode code 372 = .ok (.invokevirtual 67, 3) := by decide +kernel
theorem nd_L_law_375 : decode code 375 = .ok (.if_icmp .eq 211, 3) := by decide +kernel
theorem nd_L_law_378 : decode code 378 = .ok (.iconst 0, 1) := by decide +kernel
theorem nd_L_law_379 : decode code 379 = .ok (.ireturn, 1) := by decide +kernel
theorem nd_L_law_380 : decode code 380 = .ok (.aload_n 1, 1) := by decide +kernel
theorem nd_L_law_381 : decode code 381 = .ok (.aload_n 0, 1) := by decide +kernel
theorem nd_L_law_382 : decode code 382 = .ok (.iload 4, 2) := by decide +kernel
theorem nd_L_law_384 : decode code 384 = .ok (.iconst 1, 1) := by decide +kernel
theorem nd_L_law_385 : decode code 385 = .ok (.iadd, 1) := by decide +kernel
theorem nd_L_law_386 : decode code 386 = .ok (.iaload, 1) := by decide +kernel
theorem nd_L_law_387 : decode code 387 = .ok (.invokevirtual 68, 3) := by decide +kernel
theorem nd_L_law_390 : decode code 390 = .ok (.aload_n 2, 1) := by decide +kernel
theorem nd_L_law_391 : decode code 391 = .ok (.aload_n 0, 1) := by decide +kernel
theorem nd_L_law_392 : decode code 392 = .ok (.iload 4, 2) := by decide +kernel
theorem nd_L_law_394 : decode code 394 = .ok (.iconst 1, 1) := by decide +kernel
theorem nd_L_law_395 : decode code 395 = .ok (.iadd, 1) := by decide +kernel
theorem nd_L_law_396 : decode code 396 = .ok (.iaload, 1) := by decide +kernel
theorem nd_L_law_397 : decode code 397 = .ok (.invokevirtual 71, 3) := by decide +kernel
theorem nd_L_law_400 : decode code 400 = .ok (.if_icmp .eq 186, 3) := by decide +kernel
theorem nd_L_law_403 : decode code 403 = .ok (.iconst 0, 1) := by decide +kernel
theorem nd_L_law_404 : decode code 404 = .ok (.ireturn, 1) := by decide +kernel
theorem nd_L_law_405 : decode code 405 = .ok (.aload_n 1, 1) := by decide +kernel
theorem nd_L_law_406 : decode code 406 = .ok (.aload_n 0, 1) := by decide +kernel
theorem nd_L_law_407 : decode code 407 = .ok (.iload 4, 2) := by decide +kernel
theorem nd_L_law_409 : decode code 409 = .ok (.iconst 1, 1) := by decide +kernel
theorem nd_L_law_410 : decode code 410 = .ok (.iadd, 1) := by decide +kernel
theorem nd_L_law_411 : decode code 411 = .ok (.iaload, 1) := by decide +kernel
theorem nd_L_law_412 : decode code 412 = .ok (.aload_n 3, 1) := by decide +kernel
theorem nd_L_law_413 : decode code 413 = .ok (.invokestatic 72, 3) := by decide +kernel
theorem nd_L_law_416 : decode code 416 = .ok (.istore 5, 2) := by decide +kernel
theorem nd_L_law_418 : decode code 418 = .ok (.aload_n 2, 1) := by decide +kernel
theorem nd_L_law_419 : decode code 419 = .ok (.aload_n 0, 1) := by decide +kernel
theorem nd_L_law_420 : decode code 420 = .ok (.iload 4, 2) := by decide +kernel
theorem nd_L_law_422 : decode code 422 = .ok (.iconst 1, 1) := by decide +kernel
theorem nd_L_law_423 : decode code 423 = .ok (.iadd, 1) := by decide +kernel
theorem nd_L_law_424 : decode code 424 = .ok (.iaload, 1) := by decide +kernel
theorem nd_L_law_425 : decode code 425 = .ok (.invokevirtual 74, 3) := by decide +kernel
theorem nd_L_law_428 : decode code 428 = .ok (.istore 6, 2) := by decide +kernel
theorem nd_L_law_430 : decode code 430 = .ok (.aload_n 2, 1) := by decide +kernel
theorem nd_L_law_431 : decode code 431 = .ok (.invokevirtual 50, 3) := by decide +kernel
theorem nd_L_law_434 : decode code 434 = .ok (.iload 5, 2) := by decide +kernel
theorem nd_L_law_436 : decode code 436 = .ok (.if_icmp .eq 5, 3) := by decide +kernel
theorem nd_L_law_439 : decode code 439 = .ok (.iconst 0, 1) := by decide +kernel
theorem nd_L_law_440 : decode code 440 = .ok (.ireturn, 1) := by decide +kernel
theorem nd_L_law_441 : decode code 441 = .ok (.iload 5, 2) := by decide +kernel
theorem nd_L_law_443 : decode code 443 = .ok (.ifCond .ne 15, 3) := by decide +kernel
theorem nd_L_law_446 : decode code 446 = .ok (.aload_n 3, 1) := by decide +kernel
theorem nd_L_law_447 : decode code 447 = .ok (.iconst 0, 1) := by decide +kernel
theorem nd_L_law_448 : decode code 448 = .ok (.laload, 1) := by decide +kernel
theorem nd_L_law_449 : decode code 449 = .ok (.iload 6, 2) := by decide +kernel
theorem nd_L_law_451 : decode code 451 = .ok (.i2l, 1) := by decide +kernel
theorem nd_L_law_452 : decode code 452 = .ok (.lcmp, 1) := by decide +kernel
theorem nd_L_law_453 : decode code 453 = .ok (.ifCond .eq 5, 3) := by decide +kernel
theorem nd_L_law_456 : decode code 456 = .ok (.iconst 0, 1) := by decide +kernel
theorem nd_L_law_457 : decode code 457 = .ok (.ireturn, 1) := by decide +kernel
theorem nd_L_law_458 : decode code 458 = .ok (.goto 128, 3) := by decide +kernel
theorem nd_L_law_461 : decode code 461 = .ok (.aload_n 1, 1) := by decide +kernel
theorem nd_L_law_462 : decode code 462 = .ok (.invokevirtual 75, 3) := by decide +kernel
theorem nd_L_law_465 : decode code 465 = .ok (.aload_n 2, 1) := by decide +kernel
theorem nd_L_law_466 : decode code 466 = .ok (.invokevirtual 78, 3) := by decide +kernel
theorem nd_L_law_469 : decode code 469 = .ok (.if_icmp .eq 117, 3) := by decide +kernel
theorem nd_L_law_472 : decode code 472 = .ok (.iconst 0, 1) := by decide +kernel
theorem nd_L_law_473 : decode code 473 = .ok (.ireturn, 1) := by decide +kernel
theorem nd_L_law_474 : decode code 474 = .ok (.aload_n 1, 1) := by decide +kernel
theorem nd_L_law_475 : decode code 475 = .ok (.aload_n 0, 1) := by decide +kernel
theorem nd_L_law_476 : decode code 476 = .ok (.iload 4, 2) := by decide +kernel
theorem nd_L_law_478 : decode code 478 = .ok (.iconst 1, 1) := by decide +kernel
theorem nd_L_law_479 : decode code 479 = .ok (.iadd, 1) := by decide +kernel
theorem nd_L_law_480 : decode code 480 = .ok (.iaload, 1) := by decide +kernel
theorem nd_L_law_481 : decode code 481 = .ok (.aload_n 3, 1) := by decide +kernel
theorem nd_L_law_482 : decode code 482 = .ok (.invokestatic 79, 3) := by decide +kernel
theorem nd_L_law_485 : decode code 485 = .ok (.istore 5, 2) := by decide +kernel
theorem nd_L_law_487 : decode code 487 = .ok (.aload_n 2, 1) := by decide +kernel
theorem nd_L_law_488 : decode code 488 = .ok (.aload_n 0, 1) := by decide +kernel
theorem nd_L_law_489 : decode code 489 = .ok (.iload 4, 2) := by decide +kernel
theorem nd_L_law_491 : decode code 491 = .ok (.iconst 1, 1) := by decide +kernel
theorem nd_L_law_492 : decode code 492 = .ok (.iadd, 1) := by decide +kernel
theorem nd_L_law_493 : decode code 493 = .ok (.iaload, 1) := by decide +kernel
theorem nd_L_law_494 : decode code 494 = .ok (.invokevirtual 81, 3) := by decide +kernel
theorem nd_L_law_497 : decode code 497 = .ok (.istore 6, 2) := by decide +kernel
theorem nd_L_law_499 : decode code 499 = .ok (.aload_n 2, 1) := by decide +kernel
theorem nd_L_law_500 : decode code 500 = .ok (.invokevirtual 50, 3) := by decide +kernel
theorem nd_L_law_503 : decode code 503 = .ok (.iload 5, 2) := by decide +kernel
theorem nd_L_law_505 : decode code 505 = .ok (.if_icmp .eq 5, 3) := by decide +kernel
theorem nd_L_law_508 : decode code 508 = .ok (.iconst 0, 1) := by decide +kernel
theorem nd_L_law_509 : decode code 509 = .ok (.ireturn, 1) := by decide +kernel
theorem nd_L_law_510 : decode code 510 = .ok (.iload 5, 2) := by decide +kernel
theorem nd_L_law_512 : decode code 512 = .ok (.ifCond .ne 15, 3) := by decide +kernel
theorem nd_L_law_515 : decode code 515 = .ok (.aload_n 3, 1) := by decide +kernel
theorem nd_L_law_516 : decode code 516 = .ok (.iconst 0, 1) := by decide +kernel
theorem nd_L_law_517 : decode code 517 = .ok (.laload, 1) := by decide +kernel
theorem nd_L_law_518 : decode code 518 = .ok (.iload 6, 2) := by decide +kernel
theorem nd_L_law_520 : decode code 520 = .ok (.i2l, 1) := by decide +kernel
theorem nd_L_law_521 : decode code 521 = .ok (.lcmp, 1) := by decide +kernel
theorem nd_L_law_522 : decode code 522 = .ok (.ifCond .eq 5, 3) := by decide +kernel
theorem nd_L_law_525 : decode code 525 = .ok (.iconst 0, 1) := by decide +kernel
theorem nd_L_law_526 : decode code 526 = .ok (.ireturn, 1) := by decide +kernel
theorem nd_L_law_527 : decode code 527 = .ok (.goto 59, 3) := by decide +kernel
theorem nd_L_law_530 : decode code 530 = .ok (.aload_n 1, 1) := by decide +kernel
theorem nd_L_law_531 : decode code 531 = .ok (.aload_n 0, 1) := by decide +kernel
theorem nd_L_law_532 : decode code 532 = .ok (.iload 4, 2) := by decide +kernel
theorem nd_L_law_534 : decode code 534 = .ok (.iconst 1, 1) := by decide +kernel
theorem nd_L_law_535 : decode code 535 = .ok (.iadd, 1) := by decide +kernel
theorem nd_L_law_536 : decode code 536 = .ok (.iaload, 1) := by decide +kernel
theorem nd_L_law_537 : decode code 537 = .ok (.aload_n 3, 1) := by decide +kernel
theorem nd_L_law_538 : decode code 538 = .ok (.invokestatic 82, 3) := by decide +kernel
theorem nd_L_law_541 : decode code 541 = .ok (.istore 5, 2) := by decide +kernel
theorem nd_L_law_543 : decode code 543 = .ok (.aload_n 2, 1) := by decide +kernel
theorem nd_L_law_544 : decode code 544 = .ok (.aload_n 0, 1) := by decide +kernel
theorem nd_L_law_545 : decode code 545 = .ok (.iload 4, 2) := by decide +kernel
theorem nd_L_law_547 : decode code 547 = .ok (.iconst 1, 1) := by decide +kernel
theorem nd_L_law_548 : decode code 548 = .ok (.iadd, 1) := by decide +kernel
theorem nd_L_law_549 : decode code 549 = .ok (.iaload, 1) := by decide +kernel
theorem nd_L_law_550 : decode code 550 = .ok (.invokevirtual 84, 3) := by decide +kernel
theorem nd_L_law_553 : decode code 553 = .ok (.istore 6, 2) := by decide +kernel
theorem nd_L_law_555 : decode code 555 = .ok (.aload_n 2, 1) := by decide +kernel
theorem nd_L_law_556 : decode code 556 = .ok (.invokevirtual 50, 3) := by decide +kernel
theorem nd_L_law_559 : decode code 559 = .ok (.iload 5, 2) := by decide +kernel
theorem nd_L_law_561 : decode code 561 = .ok (.if_icmp .eq 5, 3) := by decide +kernel
theorem nd_L_law_564 : decode code 564 = .ok (.iconst 0, 1) := by decide +kernel
theorem nd_L_law_565 : decode code 565 = .ok (.ireturn, 1) := by decide +kernel
theorem nd_L_law_566 : decode code 566 = .ok (.iload 5, 2) := by decide +kernel
theorem nd_L_law_568 : decode code 568 = .ok (.ifCond .ne 15, 3) := by decide +kernel
theorem nd_L_law_571 : decode code 571 = .ok (.aload_n 3, 1) := by decide +kernel
theorem nd_L_law_572 : decode code 572 = .ok (.iconst 0, 1) := by decide +kernel
theorem nd_L_law_573 : decode code 573 = .ok (.laload, 1) := by decide +kernel
theorem nd_L_law_574 : decode code 574 = .ok (.iload 6, 2) := by decide +kernel
theorem nd_L_law_576 : decode code 576 = .ok (.i2l, 1) := by decide +kernel
theorem nd_L_law_577 : decode code 577 = .ok (.lcmp, 1) := by decide +kernel
theorem nd_L_law_578 : decode code 578 = .ok (.ifCond .eq 5, 3) := by decide +kernel
theorem nd_L_law_581 : decode code 581 = .ok (.iconst 0, 1) := by decide +kernel
theorem nd_L_law_582 : decode code 582 = .ok (.ireturn, 1) := by decide +kernel
theorem nd_L_law_583 : decode code 583 = .ok (.goto 3, 3) := by decide +kernel
theorem nd_L_law_586 : decode code 586 = .ok (.iinc 4 3, 3) := by decide +kernel
theorem nd_L_law_589 : decode code 589 = .ok (.goto (-566), 3) := by decide +kernel
theorem nd_L_law_592 : decode code 592 = .ok (.iconst 1, 1) := by decide +kernel
theorem nd_L_law_593 : decode code 593 = .ok (.ireturn, 1) := by decide +kernel
