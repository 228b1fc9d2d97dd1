theorem nd_D_control_157 : decode nc_D_control 157 = .ok (.aload_n 0, 1) := by decide +kernel
theorem nd_D_control_158 : decode nc_D_control 158 = .ok (.getfield 118, 3) := by decide +kernel
theorem nd_D_control_161 : decode nc_D_control 161 = .ok (.bipush 8, 2) := by decide +kernel
theorem nd_D_control_163 : decode nc_D_control 163 = .ok (.ishr, 1) := by decide +kernel
theorem nd_D_control_164 : decode nc_D_control 164 = .ok (.iconst 3, 1) := by decide +kernel
theorem nd_D_control_165 : decode nc_D_control 165 = .ok (.iand, 1) := by decide +kernel
theorem nd_D_control_166 : decode nc_D_control 166 = .ok (.putfield 35, 3) := by decide +kernel
theorem nd_D_control_169 : decode nc_D_control 169 = .ok (.goto 17, 3) := by decide +kernel
theorem nd_D_control_172 : decode nc_D_control 172 = .ok (.iload_n 2, 1) := by decide +kernel
theorem nd_D_control_173 : decode nc_D_control 173 = .ok (.bipush 14, 2) := by decide +kernel
theorem nd_D_control_175 : decode nc_D_control 175 = .ok (.if_icmp .ne 11, 3) := by decide +kernel
theorem nd_D_control_178 : decode nc_D_control 178 = .ok (.aload_n 0, 1) := by decide +kernel
theorem nd_D_control_179 : decode nc_D_control 179 = .ok (.aload_n 0, 1) := by decide +kernel
theorem nd_D_control_180 : decode nc_D_control 180 = .ok (.getfield 118, 3) := by decide +kernel
theorem nd_D_control_183 : decode nc_D_control 183 = .ok (.putfield 45, 3) := by decide +kernel
theorem nd_D_control_186 : decode nc_D_control 186 = .ok (.return_, 1) := by decide +kernel
theorem nd_D_part_0 : decode nc_D_part 0 = .ok (.aload_n 0, 1) := by decide +kernel
theorem nd_D_part_1 : decode nc_D_part 1 = .ok (.getfield 81, 3) := by decide +kernel
theorem nd_D_part_4 : decode nc_D_part 4 = .ok (.bipush 16, 2) := by decide +kernel
theorem nd_D_part_6 : decode nc_D_part 6 = .ok (.ishr, 1) := by decide +kernel
theorem nd_D_part_7 : decode nc_D_part 7 = .ok (.bipush 31, 2) := by decide +kernel
theorem nd_D_part_9 : decode nc_D_part 9 = .ok (.iand, 1) := by decide +kernel
theorem nd_D_part_10 : decode nc_D_part 10 = .ok (.istore_n 2, 1) := by decide +kernel
theorem nd_D_part_11 : decode nc_D_part 11 = .ok (.iload_n 1, 1) := by decide +kernel
theorem nd_D_part_12 : decode nc_D_part 12 = .ok (.ldc 94, 2) := by decide +kernel
theorem nd_D_part_14 : decode nc_D_part 14 = .ok (.iand, 1) := by decide +kernel
theorem nd_D_part_15 : decode nc_D_part 15 = .ok (.bipush (-4), 2) := by decide +kernel
theorem nd_D_part_17 : decode nc_D_part 17 = .ok (.iand, 1) := by decide +kernel
theorem nd_D_part_18 : decode nc_D_part 18 = .ok (.istore_n 3, 1) := by decide +kernel
theorem nd_D_part_19 : decode nc_D_part 19 = .ok (.iload_n 1, 1) := by decide +kernel
theorem nd_D_part_20 : decode nc_D_part 20 = .ok (.iconst 3, 1) := by decide +kernel
theorem nd_D_part_21 : decode nc_D_part 21 = .ok (.iand, 1) := by decide +kernel
theorem nd_D_part_22 : decode nc_D_part 22 = .ok (.istore 4, 2) := by decide +kernel
theorem nd_D_part_24 : decode nc_D_part 24 = .ok (.aload_n 0, 1) := by decide +kernel
theorem nd_D_part_25 : decode nc_D_part 25 = .ok (.getfield 20, 3) := by decide +kernel
theorem nd_D_part_28 : decode nc_D_part 28 = .ok (.iload_n 2, 1) := by decide +kernel
theorem nd_D_part_29 : decode nc_D_part 29 = .ok (.if_icmp .ne 10, 3) := by decide +kernel
theorem nd_D_part_32 : decode nc_D_part 32 = .ok (.aload_n 0, 1) := by decide +kernel
theorem nd_D_part_33 : decode nc_D_part 33 = .ok (.getfield 54, 3) := by decide +kernel
theorem nd_D_part_36 : decode nc_D_part 36 = .ok (.goto 9, 3) := by decide +kernel
theorem nd_D_part_39 : decode nc_D_part 39 = .ok (.aload_n 0, 1) := by decide +kernel
theorem nd_D_part_40 : decode nc_D_part 40 = .ok (.getfield 13, 3) := by decide +kernel
theorem nd_D_part_43 : decode nc_D_part 43 = .ok (.iload_n 2, 1) := by decide +kernel
theorem nd_D_part_44 : decode nc_D_part 44 = .ok (.iaload, 1) := by decide +kernel
theorem nd_D_part_45 : decode nc_D_part 45 = .ok (.istore 5, 2) := by decide +kernel
theorem nd_D_part_47 : decode nc_D_part 47 = .ok (.aload_n 0, 1) := by decide +kernel
theorem nd_D_part_48 : decode nc_D_part 48 = .ok (.iload_n 3, 1) := by decide +kernel
theorem nd_D_part_49 : decode nc_D_part 49 = .ok (.iconst 4, 1) := by decide +kernel
theorem nd_D_part_50 : decode nc_D_part 50 = .ok (.invokevirtual 71, 3) := by decide +kernel
theorem nd_D_part_53 : decode nc_D_part 53 = .ok (.istore 6, 2) := by decide +kernel
theorem nd_D_part_55 : decode nc_D_part 55 = .ok (.aload_n 0, 1) := by decide +kernel
theorem nd_D_part_56 : decode nc_D_part 56 = .ok (.getfield 84, 3) := by decide +kernel
theorem nd_D_part_59 : decode nc_D_part 59 = .ok (.bipush 34, 2) := by decide +kernel
theorem nd_D_part_61 : decode nc_D_part 61 = .ok (.if_icmp .eq 12, 3) := by decide +kernel
theorem nd_D_part_64 : decode nc_D_part 64 = .ok (.aload_n 0, 1) := by decide +kernel
theorem nd_D_part_65 : decode nc_D_part 65 = .ok (.getfield 84, 3) := by decide +kernel
theorem nd_D_part_68 : decode nc_D_part 68 = .ok (.bipush 42, 2) := by decide +kernel
theorem nd_D_part_70 : decode nc_D_part 70 = .ok (.if_icmp .ne 11, 3) := by decide +kernel
theorem nd_D_part_73 : decode nc_D_part 73 = .ok (.bipush 8, 2) := by decide +kernel
theorem nd_D_part_75 : decode nc_D_part 75 = .ok (.iload 4, 2) := by decide +kernel
theorem nd_D_part_77 : decode nc_D_part 77 = .ok (.imul, 1) := by decide +kernel
theorem nd_D_part_78 : decode nc_D_part 78 = .ok (.goto 10, 3) := by decide +kernel
theorem nd_D_part_81 : decode nc_D_part 81 = .ok (.bipush 8, 2) := by decide +kernel
theorem nd_D_part_83 : decode nc_D_part 83 = .ok (.iconst 3, 1) := by decide +kernel
theorem nd_D_part_84 : decode nc_D_part 84 = .ok (.iload 4, 2) := by decide +kernel
theorem nd_D_part_86 : decode nc_D_part 86 = .ok (.isub, 1) := by decide +kernel
theorem nd_D_part_87 : decode nc_D_part 87 = .ok (.imul, 1) := by decide +kernel
theorem nd_D_part_88 : decode nc_D_part 88 = .ok (.istore 7, 2) := by decide +kernel
theorem nd_D_part_90 : decode nc_D_part 90 = .ok (.aload_n 0, 1) := by decide +kernel
theorem nd_D_part_91 : decode nc_D_part 91 = .ok (.getfield 84, 3) := by decide +kernel
theorem nd_D_part_94 : decode nc_D_part 94 = .ok (.bipush 34, 2) := by decide +kernel
theorem nd_D_part_96 : decode nc_D_part 96 = .ok (.if_icmp .ne 40, 3) := by decide +kernel
theorem nd_D_part_99 : decode nc_D_part 99 = .ok (.aload_n 0, 1) := by decide +kernel
theorem nd_D_part_100 : decode nc_D_part 100 = .ok (.iload_n 2, 1) := by decide +kernel
theorem nd_D_part_101 : decode nc_D_part 101 = .ok (.putfield 160, 3) := by decide +kernel
theorem nd_D_part_104 : decode nc_D_part 104 = .ok (.aload_n 0, 1) := by decide +kernel
theorem nd_D_part_105 : decode nc_D_part 105 = .ok (.iload 7, 2) := by decide +kernel
theorem nd_D_part_107 : decode nc_D_part 107 = .ok (.ifCond .ne 8, 3) := by decide +kernel
theorem nd_D_part_110 : decode nc_D_part 110 = .ok (.iload 6, 2) := by decide +kernel
theorem nd_D_part_112 : decode nc_D_part 112 = .ok (.goto 18, 3) := by decide +kernel
theorem nd_D_part_115 : decode nc_D_part 115 = .ok (.iload 6, 2) := by decide +kernel
theorem nd_D_part_117 : decode nc_D_part 117 = .ok (.iload 7, 2) := by decide +kernel
theorem nd_D_part_119 : decode nc_D_part 119 = .ok (.ishl, 1) := by decide +kernel
theorem nd_D_part_120 : decode nc_D_part 120 = .ok (.iload 5, 2) := by decide +kernel
theorem nd_D_part_122 : decode nc_D_part 122 = .ok (.iconst 1, 1) := by decide +kernel
theorem nd_D_part_123 : decode nc_D_part 123 = .ok (.iload 7, 2) := by decide +kernel
theorem nd_D_part_125 : decode nc_D_part 125 = .ok (.ishl, 1) := by decide +kernel
theorem nd_D_part_126 : decode nc_D_part 126 = .ok (.iconst 1, 1) := by decide +kernel
theorem nd_D_part_127 : decode nc_D_part 127 = .ok (.isub, 1) := by decide +kernel
theorem nd_D_part_128 : decode nc_D_part 128 = .ok (.iand, 1) := by decide +kernel
theorem nd_D_part_129 : decode nc_D_part 129 = .ok (.ior, 1) := by decide +kernel
theorem nd_D_part_130 : decode nc_D_part 130 = .ok (.putfield 166, 3) := by decide +kernel
theorem nd_D_part_133 : decode nc_D_part 133 = .ok (.goto 94, 3) := by decide +kernel
theorem nd_D_part_136 : decode nc_D_part 136 = .ok (.aload_n 0, 1) := by decide +kernel
theorem nd_D_part_137 : decode nc_D_part 137 = .ok (.getfield 84, 3) := by decide +kernel
theorem nd_D_part_140 : decode nc_D_part 140 = .ok (.bipush 38, 2) := by decide +kernel
theorem nd_D_part_142 : decode nc_D_part 142 = .ok (.if_icmp .ne 41, 3) := by decide +kernel
theorem nd_D_part_145 : decode nc_D_part 145 = .ok (.aload_n 0, 1) := by decide +kernel
theorem nd_D_part_146 : decode nc_D_part 146 = .ok (.iload_n 2, 1) := by decide +kernel
theorem nd_D_part_147 : decode nc_D_part 147 = .ok (.putfield 160, 3) := by decide +kernel
theorem nd_D_part_150 : decode nc_D_part 150 = .ok (.aload_n 0, 1) := by decide +kernel
theorem nd_D_part_151 : decode nc_D_part 151 = .ok (.iload 7, 2) := by decide +kernel
theorem nd_D_part_153 : decode nc_D_part 153 = .ok (.ifCond .ne 8, 3) := by decide +kernel
theorem nd_D_part_156 : decode nc_D_part 156 = .ok (.iload 6, 2) := by decide +kernel
theorem nd_D_part_158 : decode nc_D_part 158 = .ok (.goto 19, 3) := by decide +kernel
theorem nd_D_part_161 : decode nc_D_part 161 = .ok (.iload 6, 2) := by decide +kernel
theorem nd_D_part_163 : decode nc_D_part 163 = .ok (.iload 7, 2) := by decide +kernel
theorem nd_D_part_165 : decode nc_D_part 165 = .ok (.iushr, 1) := by decide +kernel
theorem nd_D_part_166 : decode nc_D_part 166 = .ok (.iload 5, 2) := by decide +kernel
theorem nd_D_part_168 : decode nc_D_part 168 = .ok (.iconst (-1), 1) := by decide +kernel
theorem nd_D_part_169 : decode nc_D_part 169 = .ok (.bipush 32, 2) := by decide +kernel
theorem nd_D_part_171 : decode nc_D_part 171 = .ok (.iload 7, 2) := by decide +kernel
theorem nd_D_part_173 : decode nc_D_part 173 = .ok (.isub, 1) := by decide +kernel
theorem nd_D_part_174 : decode nc_D_part 174 = .ok (.ishl, 1) := by decide +kernel
theorem nd_D_part_175 : decode nc_D_part 175 = .ok (.iand, 1) := by decide +kernel
theorem nd_D_part_176 : decode nc_D_part 176 = .ok (.ior, 1) := by decide +kernel
theorem nd_D_part_177 : decode nc_D_part 177 = .ok (.putfield 166, 3) := by decide +kernel
theorem nd_D_part_180 : decode nc_D_part 180 = .ok (.goto 47, 3) := by decide +kernel
theorem nd_D_part_183 : decode nc_D_part 183 = .ok (.aload_n 0, 1) := by decide +kernel
theorem nd_D_part_184 : decode nc_D_part 184 = .ok (.getfield 84, 3) := by decide +kernel
theorem nd_D_part_187 : decode nc_D_part 187 = .ok (.bipush 42, 2) := by decide +kernel
theorem nd_D_part_189 : decode nc_D_part 189 = .ok (.if_icmp .ne 25, 3) := by decide +kernel
theorem nd_D_part_192 : decode nc_D_part 192 = .ok (.aload_n 0, 1) := by decide +kernel
theorem nd_D_part_193 : decode nc_D_part 193 = .ok (.iload_n 3, 1) := by decide +kernel
theorem nd_D_part_194 : decode nc_D_part 194 = .ok (.iload 4, 2) := by decide +kernel
theorem nd_D_part_196 : decode nc_D_part 196 = .ok (.iadd, 1) := by decide +kernel
theorem nd_D_part_197 : decode nc_D_part 197 = .ok (.iconst 4, 1) := by decide +kernel
theorem nd_D_part_198 : decode nc_D_part 198 = .ok (.iload 4, 2) := by decide +kernel
theorem nd_D_part_200 : decode nc_D_part 200 = .ok (.isub, 1) := by decide +kernel
theorem nd_D_part_201 : decode nc_D_part 201 = .ok (.aload_n 0, 1) := by decide +kernel
theorem nd_D_part_202 : decode nc_D_part 202 = .ok (.getfield 118, 3) := by decide +kernel
theorem nd_D_part_205 : decode nc_D_part 205 = .ok (.iload 7, 2) := by decide +kernel
theorem nd_D_part_207 : decode nc_D_part 207 = .ok (.iushr, 1) := by decide +kernel
theorem nd_D_part_208 : decode nc_D_part 208 = .ok (.invokevirtual 75, 3) := by decide +kernel
theorem nd_D_part_211 : decode nc_D_part 211 = .ok (.goto 16, 3) := by decide +kernel
theorem nd_D_part_214 : decode nc_D_part 214 = .ok (.aload_n 0, 1) := by decide +kernel
theorem nd_D_part_215 : decode nc_D_part 215 = .ok (.iload_n 3, 1) := by decide +kernel
theorem nd_D_part_216 : decode nc_D_part 216 = .ok (.iload 4, 2) := by decide +kernel
theorem nd_D_part_218 : decode nc_D_part 218 = .ok (.iconst 1, 1) := by decide +kernel
theorem nd_D_part_219 : decode nc_D_part 219 = .ok (.iadd, 1) := by decide +kernel
theorem nd_D_part_220 : decode nc_D_part 220 = .ok (.aload_n 0, 1) := by decide +kernel
theorem nd_D_part_221 : decode nc_D_part 221 = .ok (.getfield 118, 3) := by decide +kernel
theorem nd_D_part_224 : decode nc_D_part 224 = .ok (.invokevirtual 75, 3) := by decide +kernel
theorem nd_D_part_227 : decode nc_D_part 227 = .ok (.return_, 1) := by decide +kernel
theorem nd_D_memory_0 : decode nc_D_memory 0 = .ok (.aload_n 0, 1) := by decide +kernel
theorem nd_D_memory_1 : decode nc_D_memory 1 = .ok (.getfield 95, 3) := by decide +kernel
theorem nd_D_memory_4 : decode nc_D_memory 4 = .ok (.aload_n 0, 1) := by decide +kernel
theorem nd_D_memory_5 : decode nc_D_memory 5 = .ok (.invokevirtual 98, 3) := by decide +kernel
theorem nd_D_memory_8 : decode nc_D_memory 8 = .ok (.iadd, 1) := by decide +kernel
theorem nd_D_memory_9 : decode nc_D_memory 9 = .ok (.istore_n 1, 1) := by decide +kernel
theorem nd_D_memory_10 : decode nc_D_memory 10 = .ok (.aload_n 0, 1) := by decide +kernel
theorem nd_D_memory_11 : decode nc_D_memory 11 = .ok (.invokevirtual 102, 3) := by decide +kernel
theorem nd_D_memory_14 : decode nc_D_memory 14 = .ok (.ifCond .eq 9, 3) := by decide +kernel
theorem nd_D_memory_17 : decode nc_D_memory 17 = .ok (.aload_n 0, 1) := by decide +kernel
theorem nd_D_memory_18 : decode nc_D_memory 18 = .ok (.iload_n 1, 1) := by decide +kernel
theorem nd_D_memory_19 : decode nc_D_memory 19 = .ok (.invokevirtual 169, 3) := by decide +kernel
theorem nd_D_memory_22 : decode nc_D_memory 22 = .ok (.return_, 1) := by decide +kernel
theorem nd_D_memory_23 : decode nc_D_memory 23 = .ok (.iload_n 1, 1) := by decide +kernel
theorem nd_D_memory_24 : decode nc_D_memory 24 = .ok (.ldc 94, 2) := by decide +kernel
theorem nd_D_memory_26 : decode nc_D_memory 26 = .ok (.iand, 1) := by decide +kernel
theorem nd_D_memory_27 : decode nc_D_memory 27 = .ok (.istore_n 2, 1) := by decide +kernel
theorem nd_D_memory_28 : decode nc_D_memory 28 = .ok (.aload_n 0, 1) := by decide +kernel
theorem nd_D_memory_29 : decode nc_D_memory 29 = .ok (.invokevirtual 105, 3) := by decide +kernel
theorem nd_D_memory_32 : decode nc_D_memory 32 = .ok (.istore_n 3, 1) := by decide +kernel
theorem nd_D_memory_33 : decode nc_D_memory 33 = .ok (.aload_n 0, 1) := by decide +kernel
theorem nd_D_memory_34 : decode nc_D_memory 34 = .ok (.getfield 84, 3) := by decide +kernel
theorem nd_D_memory_37 : decode nc_D_memory 37 = .ok (.bipush 40, 2) := by decide +kernel
theorem nd_D_memory_39 : decode nc_D_memory 39 = .ok (.if_icmp .lt 14, 3) := by decide +kernel
theorem nd_D_memory_42 : decode nc_D_memory 42 = .ok (.aload_n 0, 1) := by decide +kernel
theorem nd_D_memory_43 : decode nc_D_memory 43 = .ok (.iload_n 2, 1) := by decide +kernel
theorem nd_D_memory_44 : decode nc_D_memory 44 = .ok (.iload_n 3, 1) := by decide +kernel
theorem nd_D_memory_45 : decode nc_D_memory 45 = .ok (.aload_n 0, 1) := by decide +kernel
theorem nd_D_memory_46 : decode nc_D_memory 46 = .ok (.getfield 118, 3) := by decide +kernel
theorem nd_D_memory_49 : decode nc_D_memory 49 = .ok (.invokevirtual 75, 3) := by decide +kernel
theorem nd_D_memory_52 : decode nc_D_memory 52 = .ok (.return_, 1) := by decide +kernel
theorem nd_D_memory_53 : decode nc_D_memory 53 = .ok (.aload_n 0, 1) := by decide +kernel
theorem nd_D_memory_54 : decode nc_D_memory 54 = .ok (.iload_n 2, 1) := by decide +kernel
theorem nd_D_memory_55 : decode nc_D_memory 55 = .ok (.iload_n 3, 1) := by decide +kernel
theorem nd_D_memory_56 : decode nc_D_memory 56 = .ok (.invokevirtual 71, 3) := by decide +kernel
theorem nd_D_memory_59 : decode nc_D_memory 59 = .ok (.istore 4, 2) := by decide +kernel
theorem nd_D_memory_61 : decode nc_D_memory 61 = .ok (.aload_n 0, 1) := by decide +kernel
theorem nd_D_memory_62 : decode nc_D_memory 62 = .ok (.aload_n 0, 1) := by decide +kernel
theorem nd_D_memory_63 : decode nc_D_memory 63 = .ok (.getfield 81, 3) := by decide +kernel
theorem nd_D_memory_66 : decode nc_D_memory 66 = .ok (.bipush 16, 2) := by decide +kernel
theorem nd_D_memory_68 : decode nc_D_memory 68 = .ok (.ishr, 1) := by decide +kernel
theorem nd_D_memory_69 : decode nc_D_memory 69 = .ok (.bipush 31, 2) := by decide +kernel
theorem nd_D_memory_71 : decode nc_D_memory 71 = .ok (.iand, 1) := by decide +kernel
theorem nd_D_memory_72 : decode nc_D_memory 72 = .ok (.putfield 160, 3) := by decide +kernel
theorem nd_D_memory_75 : decode nc_D_memory 75 = .ok (.aload_n 0, 1) := by decide +kernel
theorem nd_D_memory_76 : decode nc_D_memory 76 = .ok (.aload_n 0, 1) := by decide +kernel
theorem nd_D_memory_77 : decode nc_D_memory 77 = .ok (.getfield 84, 3) := by decide +kernel
theorem nd_D_memory_80 : decode nc_D_memory 80 = .ok (.bipush 32, 2) := by decide +kernel
theorem nd_D_memory_82 : decode nc_D_memory 82 = .ok (.if_icmp .ne 14, 3) := by decide +kernel
theorem nd_D_memory_85 : decode nc_D_memory 85 = .ok (.iload 4, 2) := by decide +kernel
theorem nd_D_memory_87 : decode nc_D_memory 87 = .ok (.bipush 24, 2) := by decide +kernel
theorem nd_D_memory_89 : decode nc_D_memory 89 = .ok (.ishl, 1) := by decide +kernel
theorem nd_D_memory_90 : decode nc_D_memory 90 = .ok (.bipush 24, 2) := by decide +kernel
theorem nd_D_memory_92 : decode nc_D_memory 92 = .ok (.ishr, 1) := by decide +kernel
theorem nd_D_memory_93 : decode nc_D_memory 93 = .ok (.goto 25, 3) := by decide +kernel
theorem nd_D_memory_96 : decode nc_D_memory 96 = .ok (.aload_n 0, 1) := by decide +kernel
theorem nd_D_memory_97 : decode nc_D_memory 97 = .ok (.getfield 84, 3) := by decide +kernel
theorem nd_D_memory_100 : decode nc_D_memory 100 = .ok (.bipush 33, 2) := by decide +kernel
theorem nd_D_memory_102 : decode nc_D_memory 102 = .ok (.if_icmp .ne 14, 3) := by decide +kernel
theorem nd_D_memory_105 : decode nc_D_memory 105 = .ok (.iload 4, 2) := by decide +kernel
theorem nd_D_memory_107 : decode nc_D_memory 107 = .ok (.bipush 16, 2) := by decide +kernel
theorem nd_D_memory_109 : decode nc_D_memory 109 = .ok (.ishl, 1) := by decide +kernel
theorem nd_D_memory_110 : decode nc_D_memory 110 = .ok (.bipush 16, 2) := by decide +kernel
theorem nd_D_memory_112 : decode nc_D_memory 112 = .ok (.ishr, 1) := by decide +kernel
theorem nd_D_memory_113 : decode nc_D_memory 113 = .ok (.goto 5, 3) := by decide +kernel
theorem nd_D_memory_116 : decode nc_D_memory 116 = .ok (.iload 4, 2) := by decide +kernel
theorem nd_D_memory_118 : decode nc_D_memory 118 = .ok (.putfield 166, 3) := by decide +kernel
theorem nd_D_memory_121 : decode nc_D_memory 121 = .ok (.return_, 1) := by decide +kernel
theorem nd_D_act_0 : decode nc_D_act 0 = .ok (.aload_n 0, 1) := by decide +kernel
theorem nd_D_act_1 : decode nc_D_act 1 = .ok (.getfield 84, 3) := by decide +kernel
theorem nd_D_act_4 : decode nc_D_act 4 = .ok (.ifCond .ne 10, 3) := by decide +kernel
theorem nd_D_act_7 : decode nc_D_act 7 = .ok (.aload_n 0, 1) := by decide +kernel
theorem nd_D_act_8 : decode nc_D_act 8 = .ok (.invokevirtual 172, 3) := by decide +kernel
theorem nd_D_act_11 : decode nc_D_act 11 = .ok (.goto 55, 3) := by decide +kernel
theorem nd_D_act_14 : decode nc_D_act 14 = .ok (.aload_n 0, 1) := by decide +kernel
theorem nd_D_act_15 : decode nc_D_act 15 = .ok (.getfield 84, 3) := by decide +kernel
theorem nd_D_act_18 : decode nc_D_act 18 = .ok (.bipush 8, 2) := by decide +kernel
theorem nd_D_act_20 : decode nc_D_act 20 = .ok (.if_icmp .ge 10, 3) := by decide +kernel
theorem nd_D_act_23 : decode nc_D_act 23 = .ok (.aload_n 0, 1) := by decide +kernel
theorem nd_D_act_24 : decode nc_D_act 24 = .ok (.invokevirtual 175, 3) := by decide +kernel
theorem nd_D_act_27 : decode nc_D_act 27 = .ok (.goto 39, 3) := by decide +kernel
theorem nd_D_act_30 : decode nc_D_act 30 = .ok (.aload_n 0, 1) := by decide +kernel
theorem nd_D_act_31 : decode nc_D_act 31 = .ok (.getfield 84, 3) := by decide +kernel
theorem nd_D_act_34 : decode nc_D_act 34 = .ok (.bipush 16, 2) := by decide +kernel
theorem nd_D_act_36 : decode nc_D_act 36 = .ok (.if_icmp .ge 10, 3) := by decide +kernel
theorem nd_D_act_39 : decode nc_D_act 39 = .ok (.aload_n 0, 1) := by decide +kernel
theorem nd_D_act_40 : decode nc_D_act 40 = .ok (.invokevirtual 178, 3) := by decide +kernel
theorem nd_D_act_43 : decode nc_D_act 43 = .ok (.goto 23, 3) := by decide +kernel
theorem nd_D_act_46 : decode nc_D_act 46 = .ok (.aload_n 0, 1) := by decide +kernel
theorem nd_D_act_47 : decode nc_D_act 47 = .ok (.getfield 84, 3) := by decide +kernel
theorem nd_D_act_50 : decode nc_D_act 50 = .ok (.bipush 16, 2) := by decide +kernel
theorem nd_D_act_52 : decode nc_D_act 52 = .ok (.if_icmp .ne 10, 3) := by decide +kernel
theorem nd_D_act_55 : decode nc_D_act 55 = .ok (.aload_n 0, 1) := by decide +kernel
theorem nd_D_act_56 : decode nc_D_act 56 = .ok (.invokevirtual 181, 3) := by decide +kernel
theorem nd_D_act_59 : decode nc_D_act 59 = .ok (.goto 7, 3) := by decide +kernel
theorem nd_D_act_62 : decode nc_D_act 62 = .ok (.aload_n 0, 1) := by decide +kernel
theorem nd_D_act_63 : decode nc_D_act 63 = .ok (.invokevirtual 184, 3) := by decide +kernel
theorem nd_D_act_66 : decode nc_D_act 66 = .ok (.return_, 1) := by decide +kernel
theorem nd_D_settle_0 : decode nc_D_settle 0 = .ok (.aload_n 0, 1) := by decide +kernel
theorem nd_D_settle_1 : decode nc_D_settle 1 = .ok (.getfield 20, 3) := by decide +kernel
theorem nd_D_settle_4 : decode nc_D_settle 4 = .ok (.ifCond .le 16, 3) := by decide +kernel
theorem nd_D_settle_7 : decode nc_D_settle 7 = .ok (.aload_n 0, 1) := by decide +kernel
theorem nd_D_settle_8 : decode nc_D_settle 8 = .ok (.getfield 13, 3) := by decide +kernel
theorem nd_D_settle_11 : decode nc_D_settle 11 = .ok (.aload_n 0, 1) := by decide +kernel
theorem nd_D_settle_12 : decode nc_D_settle 12 = .ok (.getfield 20, 3) := by decide +kernel
theorem nd_D_settle_15 : decode nc_D_settle 15 = .ok (.aload_n 0, 1) := by decide +kernel
theorem nd_D_settle_16 : decode nc_D_settle 16 = .ok (.getfield 54, 3) := by decide +kernel
theorem nd_D_settle_19 : decode nc_D_settle 19 = .ok (.iastore, 1) := by decide +kernel
theorem nd_D_settle_20 : decode nc_D_settle 20 = .ok (.aload_n 0, 1) := by decide +kernel
theorem nd_D_settle_21 : decode nc_D_settle 21 = .ok (.iconst (-1), 1) := by decide +kernel
theorem nd_D_settle_22 : decode nc_D_settle 22 = .ok (.putfield 20, 3) := by decide +kernel
theorem nd_D_settle_25 : decode nc_D_settle 25 = .ok (.aload_n 0, 1) := by decide +kernel
theorem nd_D_settle_26 : decode nc_D_settle 26 = .ok (.iconst 0, 1) := by decide +kernel
theorem nd_D_settle_27 : decode nc_D_settle 27 = .ok (.putfield 54, 3) := by decide +kernel
theorem nd_D_settle_30 : decode nc_D_settle 30 = .ok (.return_, 1) := by decide +kernel
theorem nd_D_except_0 : decode nc_D_except 0 = .ok (.aload_n 0, 1) := by decide +kernel
theorem nd_D_except_1 : decode nc_D_except 1 = .ok (.aload_n 0, 1) := by decide +kernel
theorem nd_D_except_2 : decode nc_D_except 2 = .ok (.getfield 51, 3) := by decide +kernel
theorem nd_D_except_5 : decode nc_D_except 5 = .ok (.ifCond .eq 12, 3) := by decide +kernel
theorem nd_D_except_8 : decode nc_D_except 8 = .ok (.aload_n 0, 1) := by decide +kernel
theorem nd_D_except_9 : decode nc_D_except 9 = .ok (.getfield 26, 3) := by decide +kernel
theorem nd_D_except_12 : decode nc_D_except 12 = .ok (.iconst 4, 1) := by decide +kernel
theorem nd_D_except_13 : decode nc_D_except 13 = .ok (.isub, 1) := by decide +kernel
theorem nd_D_except_14 : decode nc_D_except 14 = .ok (.goto 7, 3) := by decide +kernel
theorem nd_D_except_17 : decode nc_D_except 17 = .ok (.aload_n 0, 1) := by decide +kernel
theorem nd_D_except_18 : decode nc_D_except 18 = .ok (.getfield 26, 3) := by decide +kernel
theorem nd_D_except_21 : decode nc_D_except 21 = .ok (.putfield 45, 3) := by decide +kernel
theorem nd_D_except_24 : decode nc_D_except 24 = .ok (.aload_n 0, 1) := by decide +kernel
theorem nd_D_except_25 : decode nc_D_except 25 = .ok (.aload_n 0, 1) := by decide +kernel
theorem nd_D_except_26 : decode nc_D_except 26 = .ok (.getfield 51, 3) := by decide +kernel
theorem nd_D_except_29 : decode nc_D_except 29 = .ok (.putfield 41, 3) := by decide +kernel
theorem nd_D_except_32 : decode nc_D_except 32 = .ok (.aload_n 0, 1) := by decide +kernel
theorem nd_D_except_33 : decode nc_D_except 33 = .ok (.iload_n 1, 1) := by decide +kernel
theorem nd_D_except_34 : decode nc_D_except 34 = .ok (.putfield 32, 3) := by decide +kernel
theorem nd_D_except_37 : decode nc_D_except 37 = .ok (.aload_n 0, 1) := by decide +kernel
theorem nd_D_except_38 : decode nc_D_except 38 = .ok (.aload_n 0, 1) := by decide +kernel
theorem nd_D_except_39 : decode nc_D_except 39 = .ok (.getfield 29, 3) := by decide +kernel
theorem nd_D_except_42 : decode nc_D_except 42 = .ok (.bipush (-64), 2) := by decide +kernel
theorem nd_D_except_44 : decode nc_D_except 44 = .ok (.iand, 1) := by decide +kernel
theorem nd_D_except_45 : decode nc_D_except 45 = .ok (.aload_n 0, 1) := by decide +kernel
theorem nd_D_except_46 : decode nc_D_except 46 = .ok (.getfield 29, 3) := by decide +kernel
theorem nd_D_except_49 : decode nc_D_except 49 = .ok (.iconst 2, 1) := by decide +kernel
theorem nd_D_except_50 : decode nc_D_except 50 = .ok (.ishl, 1) := by decide +kernel
theorem nd_D_except_51 : decode nc_D_except 51 = .ok (.bipush 60, 2) := by decide +kernel
theorem nd_D_except_53 : decode nc_D_except 53 = .ok (.iand, 1) := by decide +kernel
theorem nd_D_except_54 : decode nc_D_except 54 = .ok (.ior, 1) := by decide +kernel
theorem nd_D_except_55 : decode nc_D_except 55 = .ok (.putfield 29, 3) := by decide +kernel
theorem nd_D_except_58 : decode nc_D_except 58 = .ok (.aload_n 0, 1) := by decide +kernel
theorem nd_D_except_59 : decode nc_D_except 59 = .ok (.ldc 187, 2) := by decide +kernel
theorem nd_D_except_61 : decode nc_D_except 61 = .ok (.putfield 26, 3) := by decide +kernel
theorem nd_D_except_64 : decode nc_D_except 64 = .ok (.aload_n 0, 1) := by decide +kernel
theorem nd_D_except_65 : decode nc_D_except 65 = .ok (.aload_n 0, 1) := by decide +kernel
theorem nd_D_except_66 : decode nc_D_except 66 = .ok (.getfield 26, 3) := by decide +kernel
theorem nd_D_except_69 : decode nc_D_except 69 = .ok (.iconst 4, 1) := by decide +kernel
theorem nd_D_except_70 : decode nc_D_except 70 = .ok (.iadd, 1) := by decide +kernel
theorem nd_D_except_71 : decode nc_D_except 71 = .ok (.putfield 16, 3) := by decide +kernel
theorem nd_D_except_74 : decode nc_D_except 74 = .ok (.aload_n 0, 1) := by decide +kernel
theorem nd_D_except_75 : decode nc_D_except 75 = .ok (.iconst 0, 1) := by decide +kernel
theorem nd_D_except_76 : decode nc_D_except 76 = .ok (.putfield 51, 3) := by decide +kernel
theorem nd_D_except_79 : decode nc_D_except 79 = .ok (.aload_n 0, 1) := by decide +kernel
theorem nd_D_except_80 : decode nc_D_except 80 = .ok (.dup, 1) := by decide +kernel
theorem nd_D_except_81 : decode nc_D_except 81 = .ok (.getfield 60, 3) := by decide +kernel
theorem nd_D_except_84 : decode nc_D_except 84 = .ok (.iconst 1, 1) := by decide +kernel
theorem nd_D_except_85 : decode nc_D_except 85 = .ok (.iadd, 1) := by decide +kernel
theorem nd_D_except_86 : decode nc_D_except 86 = .ok (.putfield 60, 3) := by decide +kernel
theorem nd_D_except_89 : decode nc_D_except 89 = .ok (.aload_n 0, 1) := by decide +kernel
theorem nd_D_except_90 : decode nc_D_except 90 = .ok (.invokevirtual 188, 3) := by decide +kernel
theorem nd_D_except_93 : decode nc_D_except 93 = .ok (.return_, 1) := by decide +kernel
theorem nd_D_fetch_0 : decode nc_D_fetch 0 = .ok (.aload_n 0, 1) := by decide +kernel
theorem nd_D_fetch_1 : decode nc_D_fetch 1 = .ok (.getfield 26, 3) := by decide +kernel
theorem nd_D_fetch_4 : decode nc_D_fetch 4 = .ok (.iconst 3, 1) := by decide +kernel
theorem nd_D_fetch_5 : decode nc_D_fetch 5 = .ok (.iand, 1) := by decide +kernel
theorem nd_D_fetch_6 : decode nc_D_fetch 6 = .ok (.ifCond .ne 17, 3) := by decide +kernel
theorem nd_D_fetch_9 : decode nc_D_fetch 9 = .ok (.aload_n 0, 1) := by decide +kernel
theorem nd_D_fetch_10 : decode nc_D_fetch 10 = .ok (.getfield 26, 3) := by decide +kernel
theorem nd_D_fetch_13 : decode nc_D_fetch 13 = .ok (.ifCond .ge 20, 3) := by decide +kernel
theorem nd_D_fetch_16 : decode nc_D_fetch 16 = .ok (.aload_n 0, 1) := by decide +kernel
theorem nd_D_fetch_17 : decode nc_D_fetch 17 = .ok (.invokevirtual 108, 3) := by decide +kernel
theorem nd_D_fetch_20 : decode nc_D_fetch 20 = .ok (.ifCond .eq 13, 3) := by decide +kernel
theorem nd_D_fetch_23 : decode nc_D_fetch 23 = .ok (.aload_n 0, 1) := by decide +kernel
theorem nd_D_fetch_24 : decode nc_D_fetch 24 = .ok (.aload_n 0, 1) := by decide +kernel
theorem nd_D_fetch_25 : decode nc_D_fetch 25 = .ok (.getfield 26, 3) := by decide +kernel
theorem nd_D_fetch_28 : decode nc_D_fetch 28 = .ok (.putfield 48, 3) := by decide +kernel
theorem nd_D_fetch_31 : decode nc_D_fetch 31 = .ok (.iconst 4, 1) := by decide +kernel
theorem nd_D_fetch_32 : decode nc_D_fetch 32 = .ok (.ireturn, 1) := by decide +kernel
theorem nd_D_fetch_33 : decode nc_D_fetch 33 = .ok (.aload_n 0, 1) := by decide +kernel
theorem nd_D_fetch_34 : decode nc_D_fetch 34 = .ok (.getfield 26, 3) := by decide +kernel
theorem nd_D_fetch_37 : decode nc_D_fetch 37 = .ok (.iconst 4, 1) := by decide +kernel
theorem nd_D_fetch_38 : decode nc_D_fetch 38 = .ok (.invokestatic 111, 3) := by decide +kernel
theorem nd_D_fetch_41 : decode nc_D_fetch 41 = .ok (.ifCond .eq 7, 3) := by decide +kernel
theorem nd_D_fetch_44 : decode nc_D_fetch 44 = .ok (.iconst 0, 1) := by decide +kernel
theorem nd_D_fetch_45 : decode nc_D_fetch 45 = .ok (.goto 5, 3) := by decide +kernel
theorem nd_D_fetch_48 : decode nc_D_fetch 48 = .ok (.bipush 6, 2) := by decide +kernel
theorem nd_D_fetch_50 : decode nc_D_fetch 50 = .ok (.ireturn, 1) := by decide +kernel
theorem nd_D_read_0 : decode nc_D_read 0 = .ok (.aload_n 0, 1) := by decide +kernel
theorem nd_D_read_1 : decode nc_D_read 1 = .ok (.aload_n 0, 1) := by decide +kernel
theorem nd_D_read_2 : decode nc_D_read 2 = .ok (.aload_n 0, 1) := by decide +kernel
theorem nd_D_read_3 : decode nc_D_read 3 = .ok (.getfield 26, 3) := by decide +kernel
theorem nd_D_read_6 : decode nc_D_read 6 = .ok (.ldc 94, 2) := by decide +kernel
theorem nd_D_read_8 : decode nc_D_read 8 = .ok (.iand, 1) := by decide +kernel
theorem nd_D_read_9 : decode nc_D_read 9 = .ok (.iconst 4, 1) := by decide +kernel
theorem nd_D_read_10 : decode nc_D_read 10 = .ok (.invokevirtual 71, 3) := by decide +kernel
theorem nd_D_read_13 : decode nc_D_read 13 = .ok (.putfield 81, 3) := by decide +kernel
theorem nd_D_read_16 : decode nc_D_read 16 = .ok (.aload_n 0, 1) := by decide +kernel
theorem nd_D_read_17 : decode nc_D_read 17 = .ok (.aload_n 0, 1) := by decide +kernel
theorem nd_D_read_18 : decode nc_D_read 18 = .ok (.getfield 81, 3) := by decide +kernel
theorem nd_D_read_21 : decode nc_D_read 21 = .ok (.bipush 26, 2) := by decide +kernel
theorem nd_D_read_23 : decode nc_D_read 23 = .ok (.iushr, 1) := by decide +kernel
theorem nd_D_read_24 : decode nc_D_read 24 = .ok (.putfield 84, 3) := by decide +kernel
theorem nd_D_read_27 : decode nc_D_read 27 = .ok (.aload_n 0, 1) := by decide +kernel
theorem nd_D_read_28 : decode nc_D_read 28 = .ok (.aload_n 0, 1) := by decide +kernel
theorem nd_D_read_29 : decode nc_D_read 29 = .ok (.getfield 13, 3) := by decide +kernel
theorem nd_D_read_32 : decode nc_D_read 32 = .ok (.aload_n 0, 1) := by decide +kernel
theorem nd_D_read_33 : decode nc_D_read 33 = .ok (.getfield 81, 3) := by decide +kernel
theorem nd_D_read_36 : decode nc_D_read 36 = .ok (.bipush 21, 2) := by decide +kernel
theorem nd_D_read_38 : decode nc_D_read 38 = .ok (.ishr, 1) := by decide +kernel
theorem nd_D_read_39 : decode nc_D_read 39 = .ok (.bipush 31, 2) := by decide +kernel
theorem nd_D_read_41 : decode nc_D_read 41 = .ok (.iand, 1) := by decide +kernel
theorem nd_D_read_42 : decode nc_D_read 42 = .ok (.iaload, 1) := by decide +kernel
theorem nd_D_read_43 : decode nc_D_read 43 = .ok (.putfield 95, 3) := by decide +kernel
theorem nd_D_read_46 : decode nc_D_read 46 = .ok (.aload_n 0, 1) := by decide +kernel
theorem nd_D_read_47 : decode nc_D_read 47 = .ok (.aload_n 0, 1) := by decide +kernel
theorem nd_D_read_48 : decode nc_D_read 48 = .ok (.getfield 13, 3) := by decide +kernel
theorem nd_D_read_51 : decode nc_D_read 51 = .ok (.aload_n 0, 1) := by decide +kernel
theorem nd_D_read_52 : decode nc_D_read 52 = .ok (.getfield 81, 3) := by decide +kernel
theorem nd_D_read_55 : decode nc_D_read 55 = .ok (.bipush 16, 2) := by decide +kernel
theorem nd_D_read_57 : decode nc_D_read 57 = .ok (.ishr, 1) := by decide +kernel
theorem nd_D_read_58 : decode nc_D_read 58 = .ok (.bipush 31, 2) := by decide +kernel
theorem nd_D_read_60 : decode nc_D_read 60 = .ok (.iand, 1) := by decide +kernel
theorem nd_D_read_61 : decode nc_D_read 61 = .ok (.iaload, 1) := by decide +kernel
theorem nd_D_read_62 : decode nc_D_read 62 = .ok (.putfield 118, 3) := by decide +kernel
theorem nd_D_read_65 : decode nc_D_read 65 = .ok (.aload_n 0, 1) := by decide +kernel
theorem nd_D_read_66 : decode nc_D_read 66 = .ok (.aload_n 0, 1) := by decide +kernel
theorem nd_D_read_67 : decode nc_D_read 67 = .ok (.getfield 81, 3) := by decide +kernel
theorem nd_D_read_70 : decode nc_D_read 70 = .ok (.bipush 63, 2) := by decide +kernel
theorem nd_D_read_72 : decode nc_D_read 72 = .ok (.iand, 1) := by decide +kernel
theorem nd_D_read_73 : decode nc_D_read 73 = .ok (.putfield 87, 3) := by decide +kernel
theorem nd_D_read_76 : decode nc_D_read 76 = .ok (.aload_n 0, 1) := by decide +kernel
theorem nd_D_read_77 : decode nc_D_read 77 = .ok (.iconst (-1), 1) := by decide +kernel
theorem nd_D_read_78 : decode nc_D_read 78 = .ok (.putfield 128, 3) := by decide +kernel
theorem nd_D_read_81 : decode nc_D_read 81 = .ok (.aload_n 0, 1) := by decide +kernel
theorem nd_D_read_82 : decode nc_D_read 82 = .ok (.iconst (-1), 1) := by decide +kernel
theorem nd_D_read_83 : decode nc_D_read 83 = .ok (.putfield 160, 3) := by decide +kernel
theorem nd_D_read_86 : decode nc_D_read 86 = .ok (.aload_n 0, 1) := by decide +kernel
theorem nd_D_read_87 : decode nc_D_read 87 = .ok (.iconst 0, 1) := by decide +kernel
theorem nd_D_read_88 : decode nc_D_read 88 = .ok (.putfield 166, 3) := by decide +kernel
theorem nd_D_read_91 : decode nc_D_read 91 = .ok (.aload_n 0, 1) := by decide +kernel
theorem nd_D_read_92 : decode nc_D_read 92 = .ok (.aload_n 0, 1) := by decide +kernel
theorem nd_D_read_93 : decode nc_D_read 93 = .ok (.getfield 16, 3) := by decide +kernel
theorem nd_D_read_96 : decode nc_D_read 96 = .ok (.iconst 4, 1) := by decide +kernel
theorem nd_D_read_97 : decode nc_D_read 97 = .ok (.iadd, 1) := by decide +kernel
theorem nd_D_read_98 : decode nc_D_read 98 = .ok (.putfield 140, 3) := by decide +kernel
theorem nd_D_read_101 : decode nc_D_read 101 = .ok (.return_, 1) := by decide +kernel
theorem nd_D_oneStep_0 : decode nc_D_oneStep 0 = .ok (.aload_n 0, 1) := by decide +kernel
theorem nd_D_oneStep_1 : decode nc_D_oneStep 1 = .ok (.dup, 1) := by decide +kernel
theorem nd_D_oneStep_2 : decode nc_D_oneStep 2 = .ok (.getfield 57, 3) := by decide +kernel
theorem nd_D_oneStep_5 : decode nc_D_oneStep 5 = .ok (.iconst 1, 1) := by decide +kernel
theorem nd_D_oneStep_6 : decode nc_D_oneStep 6 = .ok (.iadd, 1) := by decide +kernel
theorem nd_D_oneStep_7 : decode nc_D_oneStep 7 = .ok (.putfield 57, 3) := by decide +kernel
theorem nd_D_oneStep_10 : decode nc_D_oneStep 10 = .ok (.aload_n 0, 1) := by decide +kernel
theorem nd_D_oneStep_11 : decode nc_D_oneStep 11 = .ok (.getfield 29, 3) := by decide +kernel
theorem nd_D_oneStep_14 : decode nc_D_oneStep 14 = .ok (.iconst 1, 1) := by decide +kernel
theorem nd_D_oneStep_15 : decode nc_D_oneStep 15 = .ok (.iand, 1) := by decide +kernel
theorem nd_D_oneStep_16 : decode nc_D_oneStep 16 = .ok (.iconst 1, 1) := by decide +kernel
theorem nd_D_oneStep_17 : decode nc_D_oneStep 17 = .ok (.if_icmp .ne 32, 3) := by decide +kernel
theorem nd_D_oneStep_20 : decode nc_D_oneStep 20 = .ok (.aload_n 0, 1) := by decide +kernel
theorem nd_D_oneStep_21 : decode nc_D_oneStep 21 = .ok (.invokevirtual 163, 3) := by decide +kernel
theorem nd_D_oneStep_24 : decode nc_D_oneStep 24 = .ok (.bipush 8, 2) := by decide +kernel
theorem nd_D_oneStep_26 : decode nc_D_oneStep 26 = .ok (.ishr, 1) := by decide +kernel
theorem nd_D_oneStep_27 : decode nc_D_oneStep 27 = .ok (.aload_n 0, 1) := by decide +kernel
theorem nd_D_oneStep_28 : decode nc_D_oneStep 28 = .ok (.getfield 29, 3) := by decide +kernel
theorem nd_D_oneStep_31 : decode nc_D_oneStep 31 = .ok (.bipush 8, 2) := by decide +kernel
theorem nd_D_oneStep_33 : decode nc_D_oneStep 33 = .ok (.ishr, 1) := by decide +kernel
theorem nd_D_oneStep_34 : decode nc_D_oneStep 34 = .ok (.iand, 1) := by decide +kernel
theorem nd_D_oneStep_35 : decode nc_D_oneStep 35 = .ok (.sipush 255, 3) := by decide +kernel
theorem nd_D_oneStep_38 : decode nc_D_oneStep 38 = .ok (.iand, 1) := by decide +kernel
theorem nd_D_oneStep_39 : decode nc_D_oneStep 39 = .ok (.ifCond .eq 10, 3) := by decide +kernel
theorem nd_D_oneStep_42 : decode nc_D_oneStep 42 = .ok (.aload_n 0, 1) := by decide +kernel
theorem nd_D_oneStep_43 : decode nc_D_oneStep 43 = .ok (.iconst 0, 1) := by decide +kernel
theorem nd_D_oneStep_44 : decode nc_D_oneStep 44 = .ok (.invokevirtual 191, 3) := by decide +kernel
theorem nd_D_oneStep_47 : decode nc_D_oneStep 47 = .ok (.iconst 2, 1) := by decide +kernel
theorem nd_D_oneStep_48 : decode nc_D_oneStep 48 = .ok (.ireturn, 1) := by decide +kernel
theorem nd_D_oneStep_49 : decode nc_D_oneStep 49 = .ok (.aload_n 0, 1) := by decide +kernel
theorem nd_D_oneStep_50 : decode nc_D_oneStep 50 = .ok (.invokevirtual 194, 3) := by decide +kernel
theorem nd_D_oneStep_53 : decode nc_D_oneStep 53 = .ok (.istore_n 1, 1) := by decide +kernel
theorem nd_D_oneStep_54 : decode nc_D_oneStep 54 = .ok (.iload_n 1, 1) := by decide +kernel
theorem nd_D_oneStep_55 : decode nc_D_oneStep 55 = .ok (.ifCond .ne 12, 3) := by decide +kernel
theorem nd_D_oneStep_58 : decode nc_D_oneStep 58 = .ok (.aload_n 0, 1) := by decide +kernel
theorem nd_D_oneStep_59 : decode nc_D_oneStep 59 = .ok (.invokevirtual 197, 3) := by decide +kernel
theorem nd_D_oneStep_62 : decode nc_D_oneStep 62 = .ok (.aload_n 0, 1) := by decide +kernel
theorem nd_D_oneStep_63 : decode nc_D_oneStep 63 = .ok (.invokevirtual 200, 3) := by decide +kernel
theorem nd_D_oneStep_66 : decode nc_D_oneStep 66 = .ok (.istore_n 1, 1) := by decide +kernel
theorem nd_D_oneStep_67 : decode nc_D_oneStep 67 = .ok (.iload_n 1, 1) := by decide +kernel
theorem nd_D_oneStep_68 : decode nc_D_oneStep 68 = .ok (.ifCond .le 10, 3) := by decide +kernel
theorem nd_D_oneStep_71 : decode nc_D_oneStep 71 = .ok (.aload_n 0, 1) := by decide +kernel
theorem nd_D_oneStep_72 : decode nc_D_oneStep 72 = .ok (.iload_n 1, 1) := by decide +kernel
theorem nd_D_oneStep_73 : decode nc_D_oneStep 73 = .ok (.invokevirtual 191, 3) := by decide +kernel
theorem nd_D_oneStep_76 : decode nc_D_oneStep 76 = .ok (.iconst 1, 1) := by decide +kernel
theorem nd_D_oneStep_77 : decode nc_D_oneStep 77 = .ok (.ireturn, 1) := by decide +kernel
theorem nd_D_oneStep_78 : decode nc_D_oneStep 78 = .ok (.aload_n 0, 1) := by decide +kernel
theorem nd_D_oneStep_79 : decode nc_D_oneStep 79 = .ok (.invokevirtual 203, 3) := by decide +kernel
theorem nd_D_oneStep_82 : decode nc_D_oneStep 82 = .ok (.aload_n 0, 1) := by decide +kernel
theorem nd_D_oneStep_83 : decode nc_D_oneStep 83 = .ok (.invokevirtual 188, 3) := by decide +kernel
theorem nd_D_oneStep_86 : decode nc_D_oneStep 86 = .ok (.aload_n 0, 1) := by decide +kernel
theorem nd_D_oneStep_87 : decode nc_D_oneStep 87 = .ok (.getfield 128, 3) := by decide +kernel
theorem nd_D_oneStep_90 : decode nc_D_oneStep 90 = .ok (.ifCond .le 16, 3) := by decide +kernel
