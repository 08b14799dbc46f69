theorem d_X_instruction_30 : decode b_X_instruction 30 = .ok (.iload_n 1, 1) := by decide +kernel
theorem d_X_instruction_31 : decode b_X_instruction 31 = .ok (.bipush 16, 2) := by decide +kernel
theorem d_X_instruction_33 : decode b_X_instruction 33 = .ok (.ishr, 1) := by decide +kernel
theorem d_X_instruction_34 : decode b_X_instruction 34 = .ok (.istore 6, 2) := by decide +kernel
theorem d_X_instruction_36 : decode b_X_instruction 36 = .ok (.iload_n 2, 1) := by decide +kernel
theorem d_X_instruction_37 : decode b_X_instruction 37 = .ok (.bipush 25, 2) := by decide +kernel
theorem d_X_instruction_39 : decode b_X_instruction 39 = .ok (.if_icmp .eq 27, 3) := by decide +kernel
theorem d_X_instruction_42 : decode b_X_instruction 42 = .ok (.iload_n 2, 1) := by decide +kernel
theorem d_X_instruction_43 : decode b_X_instruction 43 = .ok (.bipush 26, 2) := by decide +kernel
theorem d_X_instruction_45 : decode b_X_instruction 45 = .ok (.if_icmp .eq 21, 3) := by decide +kernel
theorem d_X_instruction_48 : decode b_X_instruction 48 = .ok (.iload_n 2, 1) := by decide +kernel
theorem d_X_instruction_49 : decode b_X_instruction 49 = .ok (.bipush 28, 2) := by decide +kernel
theorem d_X_instruction_51 : decode b_X_instruction 51 = .ok (.if_icmp .eq 15, 3) := by decide +kernel
theorem d_X_instruction_54 : decode b_X_instruction 54 = .ok (.iload_n 2, 1) := by decide +kernel
theorem d_X_instruction_55 : decode b_X_instruction 55 = .ok (.bipush 29, 2) := by decide +kernel
theorem d_X_instruction_57 : decode b_X_instruction 57 = .ok (.if_icmp .eq 9, 3) := by decide +kernel
theorem d_X_instruction_60 : decode b_X_instruction 60 = .ok (.iload_n 2, 1) := by decide +kernel
theorem d_X_instruction_61 : decode b_X_instruction 61 = .ok (.bipush 31, 2) := by decide +kernel
theorem d_X_instruction_63 : decode b_X_instruction 63 = .ok (.if_icmp .ne 7, 3) := by decide +kernel
theorem d_X_instruction_66 : decode b_X_instruction 66 = .ok (.iconst 1, 1) := by decide +kernel
theorem d_X_instruction_67 : decode b_X_instruction 67 = .ok (.goto 4, 3) := by decide +kernel
theorem d_X_instruction_70 : decode b_X_instruction 70 = .ok (.iconst 0, 1) := by decide +kernel
theorem d_X_instruction_71 : decode b_X_instruction 71 = .ok (.istore 7, 2) := by decide +kernel
theorem d_X_instruction_73 : decode b_X_instruction 73 = .ok (.iload 7, 2) := by decide +kernel
theorem d_X_instruction_75 : decode b_X_instruction 75 = .ok (.ifCond .eq 11, 3) := by decide +kernel
theorem d_X_instruction_78 : decode b_X_instruction 78 = .ok (.aload_n 0, 1) := by decide +kernel
theorem d_X_instruction_79 : decode b_X_instruction 79 = .ok (.getfield 53, 3) := by decide +kernel
theorem d_X_instruction_82 : decode b_X_instruction 82 = .ok (.iconst 2, 1) := by decide +kernel
theorem d_X_instruction_83 : decode b_X_instruction 83 = .ok (.if_icmp .ne 20, 3) := by decide +kernel
theorem d_X_instruction_86 : decode b_X_instruction 86 = .ok (.iload_n 2, 1) := by decide +kernel
theorem d_X_instruction_87 : decode b_X_instruction 87 = .ok (.bipush 30, 2) := by decide +kernel
theorem d_X_instruction_89 : decode b_X_instruction 89 = .ok (.if_icmp .ne 22, 3) := by decide +kernel
theorem d_X_instruction_92 : decode b_X_instruction 92 = .ok (.iload 6, 2) := by decide +kernel
theorem d_X_instruction_94 : decode b_X_instruction 94 = .ok (.iconst 1, 1) := by decide +kernel
theorem d_X_instruction_95 : decode b_X_instruction 95 = .ok (.iand, 1) := by decide +kernel
theorem d_X_instruction_96 : decode b_X_instruction 96 = .ok (.aload_n 0, 1) := by decide +kernel
theorem d_X_instruction_97 : decode b_X_instruction 97 = .ok (.getfield 53, 3) := by decide +kernel
theorem d_X_instruction_100 : decode b_X_instruction 100 = .ok (.if_icmp .le 11, 3) := by decide +kernel
theorem d_X_instruction_103 : decode b_X_instruction 103 = .ok (.aload_n 0, 1) := by decide +kernel
theorem d_X_instruction_104 : decode b_X_instruction 104 = .ok (.sipush 257, 3) := by decide +kernel
theorem d_X_instruction_107 : decode b_X_instruction 107 = .ok (.putfield 71, 3) := by decide +kernel
theorem d_X_instruction_110 : decode b_X_instruction 110 = .ok (.return_, 1) := by decide +kernel
theorem d_X_instruction_111 : decode b_X_instruction 111 = .ok (.aload_n 0, 1) := by decide +kernel
theorem d_X_instruction_112 : decode b_X_instruction 112 = .ok (.getfield 19, 3) := by decide +kernel
theorem d_X_instruction_115 : decode b_X_instruction 115 = .ok (.iconst 0, 1) := by decide +kernel
theorem d_X_instruction_116 : decode b_X_instruction 116 = .ok (.iaload, 1) := by decide +kernel
theorem d_X_instruction_117 : decode b_X_instruction 117 = .ok (.iconst 1, 1) := by decide +kernel
theorem d_X_instruction_118 : decode b_X_instruction 118 = .ok (.iadd, 1) := by decide +kernel
theorem d_X_instruction_119 : decode b_X_instruction 119 = .ok (.istore 8, 2) := by decide +kernel
theorem d_X_instruction_121 : decode b_X_instruction 121 = .ok (.iload_n 2, 1) := by decide +kernel
theorem d_X_instruction_122 : decode b_X_instruction 122 = .ok (.ifCond .le 24, 3) := by decide +kernel
theorem d_X_instruction_125 : decode b_X_instruction 125 = .ok (.iload_n 2, 1) := by decide +kernel
theorem d_X_instruction_126 : decode b_X_instruction 126 = .ok (.bipush 13, 2) := by decide +kernel
theorem d_X_instruction_128 : decode b_X_instruction 128 = .ok (.if_icmp .ge 18, 3) := by decide +kernel
theorem d_X_instruction_131 : decode b_X_instruction 131 = .ok (.aload_n 0, 1) := by decide +kernel
theorem d_X_instruction_132 : decode b_X_instruction 132 = .ok (.iload_n 2, 1) := by decide +kernel
theorem d_X_instruction_133 : decode b_X_instruction 133 = .ok (.iload_n 3, 1) := by decide +kernel
theorem d_X_instruction_134 : decode b_X_instruction 134 = .ok (.iload 4, 2) := by decide +kernel
theorem d_X_instruction_136 : decode b_X_instruction 136 = .ok (.iload 5, 2) := by decide +kernel
theorem d_X_instruction_138 : decode b_X_instruction 138 = .ok (.iload 6, 2) := by decide +kernel
theorem d_X_instruction_140 : decode b_X_instruction 140 = .ok (.invokevirtual 111, 3) := by decide +kernel
theorem d_X_instruction_143 : decode b_X_instruction 143 = .ok (.goto 101, 3) := by decide +kernel
theorem d_X_instruction_146 : decode b_X_instruction 146 = .ok (.iload_n 2, 1) := by decide +kernel
theorem d_X_instruction_147 : decode b_X_instruction 147 = .ok (.bipush 12, 2) := by decide +kernel
theorem d_X_instruction_149 : decode b_X_instruction 149 = .ok (.if_icmp .le 22, 3) := by decide +kernel
theorem d_X_instruction_152 : decode b_X_instruction 152 = .ok (.iload_n 2, 1) := by decide +kernel
theorem d_X_instruction_153 : decode b_X_instruction 153 = .ok (.bipush 18, 2) := by decide +kernel
theorem d_X_instruction_155 : decode b_X_instruction 155 = .ok (.if_icmp .ge 16, 3) := by decide +kernel
theorem d_X_instruction_158 : decode b_X_instruction 158 = .ok (.aload_n 0, 1) := by decide +kernel
theorem d_X_instruction_159 : decode b_X_instruction 159 = .ok (.iload_n 2, 1) := by decide +kernel
theorem d_X_instruction_160 : decode b_X_instruction 160 = .ok (.iload_n 3, 1) := by decide +kernel
theorem d_X_instruction_161 : decode b_X_instruction 161 = .ok (.iload 4, 2) := by decide +kernel
theorem d_X_instruction_163 : decode b_X_instruction 163 = .ok (.iload 6, 2) := by decide +kernel
theorem d_X_instruction_165 : decode b_X_instruction 165 = .ok (.invokevirtual 115, 3) := by decide +kernel
theorem d_X_instruction_168 : decode b_X_instruction 168 = .ok (.goto 76, 3) := by decide +kernel
theorem d_X_instruction_171 : decode b_X_instruction 171 = .ok (.iload_n 2, 1) := by decide +kernel
theorem d_X_instruction_172 : decode b_X_instruction 172 = .ok (.bipush 17, 2) := by decide +kernel
theorem d_X_instruction_174 : decode b_X_instruction 174 = .ok (.if_icmp .le 39, 3) := by decide +kernel
theorem d_X_instruction_177 : decode b_X_instruction 177 = .ok (.iload_n 2, 1) := by decide +kernel
theorem d_X_instruction_178 : decode b_X_instruction 178 = .ok (.bipush 21, 2) := by decide +kernel
theorem d_X_instruction_180 : decode b_X_instruction 180 = .ok (.if_icmp .ge 33, 3) := by decide +kernel
theorem d_X_instruction_183 : decode b_X_instruction 183 = .ok (.iload_n 2, 1) := by decide +kernel
theorem d_X_instruction_184 : decode b_X_instruction 184 = .ok (.aload_n 0, 1) := by decide +kernel
theorem d_X_instruction_185 : decode b_X_instruction 185 = .ok (.getfield 19, 3) := by decide +kernel
theorem d_X_instruction_188 : decode b_X_instruction 188 = .ok (.iconst 0, 1) := by decide +kernel
theorem d_X_instruction_189 : decode b_X_instruction 189 = .ok (.iaload, 1) := by decide +kernel
theorem d_X_instruction_190 : decode b_X_instruction 190 = .ok (.iload 6, 2) := by decide +kernel
theorem d_X_instruction_192 : decode b_X_instruction 192 = .ok (.aload_n 0, 1) := by decide +kernel
theorem d_X_instruction_193 : decode b_X_instruction 193 = .ok (.getfield 13, 3) := by decide +kernel
theorem d_X_instruction_196 : decode b_X_instruction 196 = .ok (.iload_n 3, 1) := by decide +kernel
theorem d_X_instruction_197 : decode b_X_instruction 197 = .ok (.iaload, 1) := by decide +kernel
theorem d_X_instruction_198 : decode b_X_instruction 198 = .ok (.aload_n 0, 1) := by decide +kernel
theorem d_X_instruction_199 : decode b_X_instruction 199 = .ok (.getfield 13, 3) := by decide +kernel
theorem d_X_instruction_202 : decode b_X_instruction 202 = .ok (.iload 4, 2) := by decide +kernel
theorem d_X_instruction_204 : decode b_X_instruction 204 = .ok (.iaload, 1) := by decide +kernel
theorem d_X_instruction_205 : decode b_X_instruction 205 = .ok (.invokestatic 119, 3) := by decide +kernel
theorem d_X_instruction_208 : decode b_X_instruction 208 = .ok (.istore 8, 2) := by decide +kernel
theorem d_X_instruction_210 : decode b_X_instruction 210 = .ok (.goto 34, 3) := by decide +kernel
theorem d_X_instruction_213 : decode b_X_instruction 213 = .ok (.iload_n 2, 1) := by decide +kernel
theorem d_X_instruction_214 : decode b_X_instruction 214 = .ok (.bipush 20, 2) := by decide +kernel
theorem d_X_instruction_216 : decode b_X_instruction 216 = .ok (.if_icmp .le 21, 3) := by decide +kernel
theorem d_X_instruction_219 : decode b_X_instruction 219 = .ok (.iload_n 2, 1) := by decide +kernel
theorem d_X_instruction_220 : decode b_X_instruction 220 = .ok (.bipush 27, 2) := by decide +kernel
theorem d_X_instruction_222 : decode b_X_instruction 222 = .ok (.if_icmp .ge 15, 3) := by decide +kernel
theorem d_X_instruction_225 : decode b_X_instruction 225 = .ok (.aload_n 0, 1) := by decide +kernel
theorem d_X_instruction_226 : decode b_X_instruction 226 = .ok (.iload_n 2, 1) := by decide +kernel
theorem d_X_instruction_227 : decode b_X_instruction 227 = .ok (.iload 6, 2) := by decide +kernel
theorem d_X_instruction_229 : decode b_X_instruction 229 = .ok (.invokevirtual 123, 3) := by decide +kernel
theorem d_X_instruction_232 : decode b_X_instruction 232 = .ok (.istore 8, 2) := by decide +kernel
theorem d_X_instruction_234 : decode b_X_instruction 234 = .ok (.goto 10, 3) := by decide +kernel
theorem d_X_instruction_237 : decode b_X_instruction 237 = .ok (.aload_n 0, 1) := by decide +kernel
theorem d_X_instruction_238 : decode b_X_instruction 238 = .ok (.iload_n 2, 1) := by decide +kernel
theorem d_X_instruction_239 : decode b_X_instruction 239 = .ok (.iload 6, 2) := by decide +kernel
theorem d_X_instruction_241 : decode b_X_instruction 241 = .ok (.invokevirtual 127, 3) := by decide +kernel
theorem d_X_instruction_244 : decode b_X_instruction 244 = .ok (.aload_n 0, 1) := by decide +kernel
theorem d_X_instruction_245 : decode b_X_instruction 245 = .ok (.getfield 19, 3) := by decide +kernel
theorem d_X_instruction_248 : decode b_X_instruction 248 = .ok (.iconst 0, 1) := by decide +kernel
theorem d_X_instruction_249 : decode b_X_instruction 249 = .ok (.aload_n 0, 1) := by decide +kernel
theorem d_X_instruction_250 : decode b_X_instruction 250 = .ok (.getfield 71, 3) := by decide +kernel
theorem d_X_instruction_253 : decode b_X_instruction 253 = .ok (.ifCond .ne 15, 3) := by decide +kernel
theorem d_X_instruction_256 : decode b_X_instruction 256 = .ok (.aload_n 0, 1) := by decide +kernel
theorem d_X_instruction_257 : decode b_X_instruction 257 = .ok (.getfield 45, 3) := by decide +kernel
theorem d_X_instruction_260 : decode b_X_instruction 260 = .ok (.ifCond .eq 8, 3) := by decide +kernel
theorem d_X_instruction_263 : decode b_X_instruction 263 = .ok (.iload 8, 2) := by decide +kernel
theorem d_X_instruction_265 : decode b_X_instruction 265 = .ok (.goto 9, 3) := by decide +kernel
theorem d_X_instruction_268 : decode b_X_instruction 268 = .ok (.aload_n 0, 1) := by decide +kernel
theorem d_X_instruction_269 : decode b_X_instruction 269 = .ok (.getfield 19, 3) := by decide +kernel
theorem d_X_instruction_272 : decode b_X_instruction 272 = .ok (.iconst 0, 1) := by decide +kernel
theorem d_X_instruction_273 : decode b_X_instruction 273 = .ok (.iaload, 1) := by decide +kernel
theorem d_X_instruction_274 : decode b_X_instruction 274 = .ok (.iastore, 1) := by decide +kernel
theorem d_X_instruction_275 : decode b_X_instruction 275 = .ok (.return_, 1) := by decide +kernel
theorem d_X_isArea_0 : decode b_X_isArea 0 = .ok (.iload_n 0, 1) := by decide +kernel
theorem d_X_isArea_1 : decode b_X_isArea 1 = .ok (.iconst 1, 1) := by decide +kernel
theorem d_X_isArea_2 : decode b_X_isArea 2 = .ok (.if_icmp .lt 13, 3) := by decide +kernel
theorem d_X_isArea_5 : decode b_X_isArea 5 = .ok (.iload_n 0, 1) := by decide +kernel
theorem d_X_isArea_6 : decode b_X_isArea 6 = .ok (.bipush 24, 2) := by decide +kernel
theorem d_X_isArea_8 : decode b_X_isArea 8 = .ok (.if_icmp .gt 7, 3) := by decide +kernel
theorem d_X_isArea_11 : decode b_X_isArea 11 = .ok (.iconst 1, 1) := by decide +kernel
theorem d_X_isArea_12 : decode b_X_isArea 12 = .ok (.goto 4, 3) := by decide +kernel
theorem d_X_isArea_15 : decode b_X_isArea 15 = .ok (.iconst 0, 1) := by decide +kernel
theorem d_X_isArea_16 : decode b_X_isArea 16 = .ok (.ireturn, 1) := by decide +kernel
theorem d_X_jump_0 : decode b_X_jump 0 = .ok (.iload_n 0, 1) := by decide +kernel
theorem d_X_jump_1 : decode b_X_jump 1 = .ok (.bipush 18, 2) := by decide +kernel
theorem d_X_jump_3 : decode b_X_jump 3 = .ok (.if_icmp .eq 25, 3) := by decide +kernel
theorem d_X_jump_6 : decode b_X_jump 6 = .ok (.iload_n 0, 1) := by decide +kernel
theorem d_X_jump_7 : decode b_X_jump 7 = .ok (.bipush 19, 2) := by decide +kernel
theorem d_X_jump_9 : decode b_X_jump 9 = .ok (.if_icmp .ne 7, 3) := by decide +kernel
theorem d_X_jump_12 : decode b_X_jump 12 = .ok (.iload_n 3, 1) := by decide +kernel
theorem d_X_jump_13 : decode b_X_jump 13 = .ok (.ifCond .eq 15, 3) := by decide +kernel
theorem d_X_jump_16 : decode b_X_jump 16 = .ok (.iload_n 0, 1) := by decide +kernel
theorem d_X_jump_17 : decode b_X_jump 17 = .ok (.bipush 20, 2) := by decide +kernel
theorem d_X_jump_19 : decode b_X_jump 19 = .ok (.if_icmp .ne 13, 3) := by decide +kernel
theorem d_X_jump_22 : decode b_X_jump 22 = .ok (.iload_n 3, 1) := by decide +kernel
theorem d_X_jump_23 : decode b_X_jump 23 = .ok (.iload 4, 2) := by decide +kernel
theorem d_X_jump_25 : decode b_X_jump 25 = .ok (.if_icmp .ge 7, 3) := by decide +kernel
theorem d_X_jump_28 : decode b_X_jump 28 = .ok (.iconst 1, 1) := by decide +kernel
theorem d_X_jump_29 : decode b_X_jump 29 = .ok (.goto 4, 3) := by decide +kernel
theorem d_X_jump_32 : decode b_X_jump 32 = .ok (.iconst 0, 1) := by decide +kernel
theorem d_X_jump_33 : decode b_X_jump 33 = .ok (.istore 5, 2) := by decide +kernel
theorem d_X_jump_35 : decode b_X_jump 35 = .ok (.iload 5, 2) := by decide +kernel
theorem d_X_jump_37 : decode b_X_jump 37 = .ok (.ifCond .eq 9, 3) := by decide +kernel
theorem d_X_jump_40 : decode b_X_jump 40 = .ok (.iload_n 1, 1) := by decide +kernel
theorem d_X_jump_41 : decode b_X_jump 41 = .ok (.iload_n 2, 1) := by decide +kernel
theorem d_X_jump_42 : decode b_X_jump 42 = .ok (.iadd, 1) := by decide +kernel
theorem d_X_jump_43 : decode b_X_jump 43 = .ok (.goto 6, 3) := by decide +kernel
theorem d_X_jump_46 : decode b_X_jump 46 = .ok (.iload_n 1, 1) := by decide +kernel
theorem d_X_jump_47 : decode b_X_jump 47 = .ok (.iconst 1, 1) := by decide +kernel
theorem d_X_jump_48 : decode b_X_jump 48 = .ok (.iadd, 1) := by decide +kernel
theorem d_X_jump_49 : decode b_X_jump 49 = .ok (.ireturn, 1) := by decide +kernel
theorem d_X_keep_0 : decode b_X_keep 0 = .ok (.aload_n 0, 1) := by decide +kernel
theorem d_X_keep_1 : decode b_X_keep 1 = .ok (.getfield 19, 3) := by decide +kernel
theorem d_X_keep_4 : decode b_X_keep 4 = .ok (.iconst 1, 1) := by decide +kernel
theorem d_X_keep_5 : decode b_X_keep 5 = .ok (.iaload, 1) := by decide +kernel
theorem d_X_keep_6 : decode b_X_keep 6 = .ok (.bipush 31, 2) := by decide +kernel
theorem d_X_keep_8 : decode b_X_keep 8 = .ok (.iand, 1) := by decide +kernel
theorem d_X_keep_9 : decode b_X_keep 9 = .ok (.istore_n 2, 1) := by decide +kernel
theorem d_X_keep_10 : decode b_X_keep 10 = .ok (.iload_n 2, 1) := by decide +kernel
theorem d_X_keep_11 : decode b_X_keep 11 = .ok (.invokestatic 41, 3) := by decide +kernel
theorem d_X_keep_14 : decode b_X_keep 14 = .ok (.ifCond .ne 10, 3) := by decide +kernel
theorem d_X_keep_17 : decode b_X_keep 17 = .ok (.aload_n 0, 1) := by decide +kernel
theorem d_X_keep_18 : decode b_X_keep 18 = .ok (.iconst 0, 1) := by decide +kernel
theorem d_X_keep_19 : decode b_X_keep 19 = .ok (.putfield 45, 3) := by decide +kernel
theorem d_X_keep_22 : decode b_X_keep 22 = .ok (.iconst 0, 1) := by decide +kernel
theorem d_X_keep_23 : decode b_X_keep 23 = .ok (.ireturn, 1) := by decide +kernel
theorem d_X_keep_24 : decode b_X_keep 24 = .ok (.iload_n 2, 1) := by decide +kernel
theorem d_X_keep_25 : decode b_X_keep 25 = .ok (.invokestatic 49, 3) := by decide +kernel
theorem d_X_keep_28 : decode b_X_keep 28 = .ok (.istore_n 3, 1) := by decide +kernel
theorem d_X_keep_29 : decode b_X_keep 29 = .ok (.aload_n 0, 1) := by decide +kernel
theorem d_X_keep_30 : decode b_X_keep 30 = .ok (.getfield 7, 3) := by decide +kernel
theorem d_X_keep_33 : decode b_X_keep 33 = .ok (.iload_n 3, 1) := by decide +kernel
theorem d_X_keep_34 : decode b_X_keep 34 = .ok (.iaload, 1) := by decide +kernel
theorem d_X_keep_35 : decode b_X_keep 35 = .ok (.istore 4, 2) := by decide +kernel
theorem d_X_keep_37 : decode b_X_keep 37 = .ok (.aload_n 0, 1) := by decide +kernel
theorem d_X_keep_38 : decode b_X_keep 38 = .ok (.getfield 7, 3) := by decide +kernel
theorem d_X_keep_41 : decode b_X_keep 41 = .ok (.iload_n 3, 1) := by decide +kernel
theorem d_X_keep_42 : decode b_X_keep 42 = .ok (.aload_n 0, 1) := by decide +kernel
theorem d_X_keep_43 : decode b_X_keep 43 = .ok (.getfield 19, 3) := by decide +kernel
theorem d_X_keep_46 : decode b_X_keep 46 = .ok (.iconst 3, 1) := by decide +kernel
theorem d_X_keep_47 : decode b_X_keep 47 = .ok (.iaload, 1) := by decide +kernel
theorem d_X_keep_48 : decode b_X_keep 48 = .ok (.iastore, 1) := by decide +kernel
theorem d_X_keep_49 : decode b_X_keep 49 = .ok (.aload_n 0, 1) := by decide +kernel
theorem d_X_keep_50 : decode b_X_keep 50 = .ok (.getfield 7, 3) := by decide +kernel
theorem d_X_keep_53 : decode b_X_keep 53 = .ok (.iload_n 3, 1) := by decide +kernel
theorem d_X_keep_54 : decode b_X_keep 54 = .ok (.iconst 1, 1) := by decide +kernel
theorem d_X_keep_55 : decode b_X_keep 55 = .ok (.iadd, 1) := by decide +kernel
theorem d_X_keep_56 : decode b_X_keep 56 = .ok (.iload_n 1, 1) := by decide +kernel
theorem d_X_keep_57 : decode b_X_keep 57 = .ok (.ifCond .eq 25, 3) := by decide +kernel
theorem d_X_keep_60 : decode b_X_keep 60 = .ok (.aload_n 0, 1) := by decide +kernel
theorem d_X_keep_61 : decode b_X_keep 61 = .ok (.getfield 53, 3) := by decide +kernel
theorem d_X_keep_64 : decode b_X_keep 64 = .ok (.iconst 4, 1) := by decide +kernel
theorem d_X_keep_65 : decode b_X_keep 65 = .ok (.aload_n 0, 1) := by decide +kernel
theorem d_X_keep_66 : decode b_X_keep 66 = .ok (.getfield 56, 3) := by decide +kernel
theorem d_X_keep_69 : decode b_X_keep 69 = .ok (.imul, 1) := by decide +kernel
theorem d_X_keep_70 : decode b_X_keep 70 = .ok (.iadd, 1) := by decide +kernel
theorem d_X_keep_71 : decode b_X_keep 71 = .ok (.bipush 8, 2) := by decide +kernel
theorem d_X_keep_73 : decode b_X_keep 73 = .ok (.aload_n 0, 1) := by decide +kernel
theorem d_X_keep_74 : decode b_X_keep 74 = .ok (.getfield 59, 3) := by decide +kernel
theorem d_X_keep_77 : decode b_X_keep 77 = .ok (.imul, 1) := by decide +kernel
theorem d_X_keep_78 : decode b_X_keep 78 = .ok (.iadd, 1) := by decide +kernel
theorem d_X_keep_79 : decode b_X_keep 79 = .ok (.goto 10, 3) := by decide +kernel
theorem d_X_keep_82 : decode b_X_keep 82 = .ok (.aload_n 0, 1) := by decide +kernel
theorem d_X_keep_83 : decode b_X_keep 83 = .ok (.getfield 16, 3) := by decide +kernel
theorem d_X_keep_86 : decode b_X_keep 86 = .ok (.bipush 7, 2) := by decide +kernel
theorem d_X_keep_88 : decode b_X_keep 88 = .ok (.iaload, 1) := by decide +kernel
theorem d_X_keep_89 : decode b_X_keep 89 = .ok (.iastore, 1) := by decide +kernel
theorem d_X_keep_90 : decode b_X_keep 90 = .ok (.aload_n 0, 1) := by decide +kernel
theorem d_X_keep_91 : decode b_X_keep 91 = .ok (.getfield 7, 3) := by decide +kernel
theorem d_X_keep_94 : decode b_X_keep 94 = .ok (.iload_n 3, 1) := by decide +kernel
theorem d_X_keep_95 : decode b_X_keep 95 = .ok (.iconst 2, 1) := by decide +kernel
theorem d_X_keep_96 : decode b_X_keep 96 = .ok (.iadd, 1) := by decide +kernel
theorem d_X_keep_97 : decode b_X_keep 97 = .ok (.iload_n 1, 1) := by decide +kernel
theorem d_X_keep_98 : decode b_X_keep 98 = .ok (.ifCond .eq 13, 3) := by decide +kernel
theorem d_X_keep_101 : decode b_X_keep 101 = .ok (.aload_n 0, 1) := by decide +kernel
theorem d_X_keep_102 : decode b_X_keep 102 = .ok (.getfield 16, 3) := by decide +kernel
theorem d_X_keep_105 : decode b_X_keep 105 = .ok (.bipush 6, 2) := by decide +kernel
theorem d_X_keep_107 : decode b_X_keep 107 = .ok (.iaload, 1) := by decide +kernel
theorem d_X_keep_108 : decode b_X_keep 108 = .ok (.goto 9, 3) := by decide +kernel
theorem d_X_keep_111 : decode b_X_keep 111 = .ok (.aload_n 0, 1) := by decide +kernel
theorem d_X_keep_112 : decode b_X_keep 112 = .ok (.getfield 16, 3) := by decide +kernel
theorem d_X_keep_115 : decode b_X_keep 115 = .ok (.iconst 2, 1) := by decide +kernel
theorem d_X_keep_116 : decode b_X_keep 116 = .ok (.iaload, 1) := by decide +kernel
theorem d_X_keep_117 : decode b_X_keep 117 = .ok (.iastore, 1) := by decide +kernel
theorem d_X_keep_118 : decode b_X_keep 118 = .ok (.aload_n 0, 1) := by decide +kernel
theorem d_X_keep_119 : decode b_X_keep 119 = .ok (.getfield 7, 3) := by decide +kernel
theorem d_X_keep_122 : decode b_X_keep 122 = .ok (.iload_n 3, 1) := by decide +kernel
theorem d_X_keep_123 : decode b_X_keep 123 = .ok (.iconst 3, 1) := by decide +kernel
theorem d_X_keep_124 : decode b_X_keep 124 = .ok (.iadd, 1) := by decide +kernel
theorem d_X_keep_125 : decode b_X_keep 125 = .ok (.iload_n 1, 1) := by decide +kernel
theorem d_X_keep_126 : decode b_X_keep 126 = .ok (.ifCond .eq 13, 3) := by decide +kernel
theorem d_X_keep_129 : decode b_X_keep 129 = .ok (.aload_n 0, 1) := by decide +kernel
theorem d_X_keep_130 : decode b_X_keep 130 = .ok (.getfield 16, 3) := by decide +kernel
theorem d_X_keep_133 : decode b_X_keep 133 = .ok (.bipush 7, 2) := by decide +kernel
theorem d_X_keep_135 : decode b_X_keep 135 = .ok (.iaload, 1) := by decide +kernel
theorem d_X_keep_136 : decode b_X_keep 136 = .ok (.goto 9, 3) := by decide +kernel
theorem d_X_keep_139 : decode b_X_keep 139 = .ok (.aload_n 0, 1) := by decide +kernel
theorem d_X_keep_140 : decode b_X_keep 140 = .ok (.getfield 16, 3) := by decide +kernel
theorem d_X_keep_143 : decode b_X_keep 143 = .ok (.iconst 3, 1) := by decide +kernel
theorem d_X_keep_144 : decode b_X_keep 144 = .ok (.iaload, 1) := by decide +kernel
theorem d_X_keep_145 : decode b_X_keep 145 = .ok (.iastore, 1) := by decide +kernel
theorem d_X_keep_146 : decode b_X_keep 146 = .ok (.iconst 0, 1) := by decide +kernel
theorem d_X_keep_147 : decode b_X_keep 147 = .ok (.istore 5, 2) := by decide +kernel
theorem d_X_keep_149 : decode b_X_keep 149 = .ok (.iload 5, 2) := by decide +kernel
theorem d_X_keep_151 : decode b_X_keep 151 = .ok (.iconst 4, 1) := by decide +kernel
theorem d_X_keep_152 : decode b_X_keep 152 = .ok (.if_icmp .ge 43, 3) := by decide +kernel
theorem d_X_keep_155 : decode b_X_keep 155 = .ok (.aload_n 0, 1) := by decide +kernel
theorem d_X_keep_156 : decode b_X_keep 156 = .ok (.getfield 7, 3) := by decide +kernel
theorem d_X_keep_159 : decode b_X_keep 159 = .ok (.iload_n 3, 1) := by decide +kernel
theorem d_X_keep_160 : decode b_X_keep 160 = .ok (.iconst 4, 1) := by decide +kernel
theorem d_X_keep_161 : decode b_X_keep 161 = .ok (.iadd, 1) := by decide +kernel
theorem d_X_keep_162 : decode b_X_keep 162 = .ok (.iload 5, 2) := by decide +kernel
theorem d_X_keep_164 : decode b_X_keep 164 = .ok (.iadd, 1) := by decide +kernel
theorem d_X_keep_165 : decode b_X_keep 165 = .ok (.iload_n 1, 1) := by decide +kernel
theorem d_X_keep_166 : decode b_X_keep 166 = .ok (.ifCond .eq 15, 3) := by decide +kernel
theorem d_X_keep_169 : decode b_X_keep 169 = .ok (.aload_n 0, 1) := by decide +kernel
theorem d_X_keep_170 : decode b_X_keep 170 = .ok (.getfield 13, 3) := by decide +kernel
theorem d_X_keep_173 : decode b_X_keep 173 = .ok (.iconst 4, 1) := by decide +kernel
theorem d_X_keep_174 : decode b_X_keep 174 = .ok (.iload 5, 2) := by decide +kernel
theorem d_X_keep_176 : decode b_X_keep 176 = .ok (.iadd, 1) := by decide +kernel
theorem d_X_keep_177 : decode b_X_keep 177 = .ok (.iaload, 1) := by decide +kernel
theorem d_X_keep_178 : decode b_X_keep 178 = .ok (.goto 10, 3) := by decide +kernel
theorem d_X_keep_181 : decode b_X_keep 181 = .ok (.aload_n 0, 1) := by decide +kernel
theorem d_X_keep_182 : decode b_X_keep 182 = .ok (.getfield 13, 3) := by decide +kernel
theorem d_X_keep_185 : decode b_X_keep 185 = .ok (.iload 5, 2) := by decide +kernel
theorem d_X_keep_187 : decode b_X_keep 187 = .ok (.iaload, 1) := by decide +kernel
theorem d_X_keep_188 : decode b_X_keep 188 = .ok (.iastore, 1) := by decide +kernel
theorem d_X_keep_189 : decode b_X_keep 189 = .ok (.iinc 5 1, 3) := by decide +kernel
theorem d_X_keep_192 : decode b_X_keep 192 = .ok (.goto (-43), 3) := by decide +kernel
theorem d_X_keep_195 : decode b_X_keep 195 = .ok (.aload_n 0, 1) := by decide +kernel
theorem d_X_keep_196 : decode b_X_keep 196 = .ok (.getfield 19, 3) := by decide +kernel
theorem d_X_keep_199 : decode b_X_keep 199 = .ok (.iconst 1, 1) := by decide +kernel
theorem d_X_keep_200 : decode b_X_keep 200 = .ok (.iload 4, 2) := by decide +kernel
theorem d_X_keep_202 : decode b_X_keep 202 = .ok (.iastore, 1) := by decide +kernel
theorem d_X_keep_203 : decode b_X_keep 203 = .ok (.aload_n 0, 1) := by decide +kernel
theorem d_X_keep_204 : decode b_X_keep 204 = .ok (.getfield 19, 3) := by decide +kernel
theorem d_X_keep_207 : decode b_X_keep 207 = .ok (.iconst 3, 1) := by decide +kernel
theorem d_X_keep_208 : decode b_X_keep 208 = .ok (.iload_n 2, 1) := by decide +kernel
theorem d_X_keep_209 : decode b_X_keep 209 = .ok (.iload_n 1, 1) := by decide +kernel
theorem d_X_keep_210 : decode b_X_keep 210 = .ok (.ifCond .eq 8, 3) := by decide +kernel
theorem d_X_keep_213 : decode b_X_keep 213 = .ok (.bipush 32, 2) := by decide +kernel
theorem d_X_keep_215 : decode b_X_keep 215 = .ok (.goto 4, 3) := by decide +kernel
theorem d_X_keep_218 : decode b_X_keep 218 = .ok (.iconst 0, 1) := by decide +kernel
theorem d_X_keep_219 : decode b_X_keep 219 = .ok (.iadd, 1) := by decide +kernel
theorem d_X_keep_220 : decode b_X_keep 220 = .ok (.sipush 256, 3) := by decide +kernel
theorem d_X_keep_223 : decode b_X_keep 223 = .ok (.aload_n 0, 1) := by decide +kernel
theorem d_X_keep_224 : decode b_X_keep 224 = .ok (.getfield 62, 3) := by decide +kernel
theorem d_X_keep_227 : decode b_X_keep 227 = .ok (.imul, 1) := by decide +kernel
theorem d_X_keep_228 : decode b_X_keep 228 = .ok (.iadd, 1) := by decide +kernel
theorem d_X_keep_229 : decode b_X_keep 229 = .ok (.aload_n 0, 1) := by decide +kernel
theorem d_X_keep_230 : decode b_X_keep 230 = .ok (.getfield 65, 3) := by decide +kernel
theorem d_X_keep_233 : decode b_X_keep 233 = .ok (.ifCond .eq 9, 3) := by decide +kernel
theorem d_X_keep_236 : decode b_X_keep 236 = .ok (.sipush 4096, 3) := by decide +kernel
theorem d_X_keep_239 : decode b_X_keep 239 = .ok (.goto 4, 3) := by decide +kernel
theorem d_X_keep_242 : decode b_X_keep 242 = .ok (.iconst 0, 1) := by decide +kernel
theorem d_X_keep_243 : decode b_X_keep 243 = .ok (.iadd, 1) := by decide +kernel
theorem d_X_keep_244 : decode b_X_keep 244 = .ok (.iastore, 1) := by decide +kernel
theorem d_X_keep_245 : decode b_X_keep 245 = .ok (.aload_n 0, 1) := by decide +kernel
theorem d_X_keep_246 : decode b_X_keep 246 = .ok (.aload_n 0, 1) := by decide +kernel
theorem d_X_keep_247 : decode b_X_keep 247 = .ok (.getfield 68, 3) := by decide +kernel
theorem d_X_keep_250 : decode b_X_keep 250 = .ok (.ifCond .ne 17, 3) := by decide +kernel
theorem d_X_keep_253 : decode b_X_keep 253 = .ok (.iload 4, 2) := by decide +kernel
theorem d_X_keep_255 : decode b_X_keep 255 = .ok (.bipush 31, 2) := by decide +kernel
theorem d_X_keep_257 : decode b_X_keep 257 = .ok (.iand, 1) := by decide +kernel
theorem d_X_keep_258 : decode b_X_keep 258 = .ok (.aload_n 0, 1) := by decide +kernel
theorem d_X_keep_259 : decode b_X_keep 259 = .ok (.getfield 19, 3) := by decide +kernel
theorem d_X_keep_262 : decode b_X_keep 262 = .ok (.iconst 2, 1) := by decide +kernel
theorem d_X_keep_263 : decode b_X_keep 263 = .ok (.iaload, 1) := by decide +kernel
theorem d_X_keep_264 : decode b_X_keep 264 = .ok (.if_icmp .ne 7, 3) := by decide +kernel
theorem d_X_keep_267 : decode b_X_keep 267 = .ok (.iconst 1, 1) := by decide +kernel
theorem d_X_keep_268 : decode b_X_keep 268 = .ok (.goto 4, 3) := by decide +kernel
theorem d_X_keep_271 : decode b_X_keep 271 = .ok (.iconst 0, 1) := by decide +kernel
theorem d_X_keep_272 : decode b_X_keep 272 = .ok (.putfield 68, 3) := by decide +kernel
theorem d_X_keep_275 : decode b_X_keep 275 = .ok (.iconst 1, 1) := by decide +kernel
theorem d_X_keep_276 : decode b_X_keep 276 = .ok (.ireturn, 1) := by decide +kernel
theorem d_X_list_0 : decode b_X_list 0 = .ok (.aload_n 0, 1) := by decide +kernel
theorem d_X_list_1 : decode b_X_list 1 = .ok (.iconst 0, 1) := by decide +kernel
theorem d_X_list_2 : decode b_X_list 2 = .ok (.putfield 38, 3) := by decide +kernel
theorem d_X_list_5 : decode b_X_list 5 = .ok (.iload_n 1, 1) := by decide +kernel
theorem d_X_list_6 : decode b_X_list 6 = .ok (.ifCond .lt 8, 3) := by decide +kernel
theorem d_X_list_9 : decode b_X_list 9 = .ok (.iload_n 1, 1) := by decide +kernel
theorem d_X_list_10 : decode b_X_list 10 = .ok (.iconst 1, 1) := by decide +kernel
theorem d_X_list_11 : decode b_X_list 11 = .ok (.if_icmp .le 5, 3) := by decide +kernel
theorem d_X_list_14 : decode b_X_list 14 = .ok (.iconst (-1), 1) := by decide +kernel
theorem d_X_list_15 : decode b_X_list 15 = .ok (.ireturn, 1) := by decide +kernel
theorem d_X_list_16 : decode b_X_list 16 = .ok (.aload_n 0, 1) := by decide +kernel
theorem d_X_list_17 : decode b_X_list 17 = .ok (.getfield 19, 3) := by decide +kernel
theorem d_X_list_20 : decode b_X_list 20 = .ok (.iload_n 1, 1) := by decide +kernel
theorem d_X_list_21 : decode b_X_list 21 = .ok (.ifCond .ne 7, 3) := by decide +kernel
theorem d_X_list_24 : decode b_X_list 24 = .ok (.iconst 1, 1) := by decide +kernel
theorem d_X_list_25 : decode b_X_list 25 = .ok (.goto 4, 3) := by decide +kernel
theorem d_X_list_28 : decode b_X_list 28 = .ok (.iconst 3, 1) := by decide +kernel
theorem d_X_list_29 : decode b_X_list 29 = .ok (.iaload, 1) := by decide +kernel
theorem d_X_list_30 : decode b_X_list 30 = .ok (.bipush 31, 2) := by decide +kernel
theorem d_X_list_32 : decode b_X_list 32 = .ok (.iand, 1) := by decide +kernel
theorem d_X_list_33 : decode b_X_list 33 = .ok (.istore_n 2, 1) := by decide +kernel
theorem d_X_list_34 : decode b_X_list 34 = .ok (.iconst 0, 1) := by decide +kernel
theorem d_X_list_35 : decode b_X_list 35 = .ok (.istore_n 3, 1) := by decide +kernel
theorem d_X_list_36 : decode b_X_list 36 = .ok (.iload_n 3, 1) := by decide +kernel
theorem d_X_list_37 : decode b_X_list 37 = .ok (.bipush 32, 2) := by decide +kernel
theorem d_X_list_39 : decode b_X_list 39 = .ok (.if_icmp .ge 29, 3) := by decide +kernel
theorem d_X_list_42 : decode b_X_list 42 = .ok (.iload_n 2, 1) := by decide +kernel
theorem d_X_list_43 : decode b_X_list 43 = .ok (.invokestatic 41, 3) := by decide +kernel
theorem d_X_list_46 : decode b_X_list 46 = .ok (.ifCond .eq 22, 3) := by decide +kernel
theorem d_X_list_49 : decode b_X_list 49 = .ok (.iinc 3 1, 3) := by decide +kernel
theorem d_X_list_52 : decode b_X_list 52 = .ok (.aload_n 0, 1) := by decide +kernel
theorem d_X_list_53 : decode b_X_list 53 = .ok (.getfield 7, 3) := by decide +kernel
theorem d_X_list_56 : decode b_X_list 56 = .ok (.iload_n 2, 1) := by decide +kernel
theorem d_X_list_57 : decode b_X_list 57 = .ok (.invokestatic 49, 3) := by decide +kernel
theorem d_X_list_60 : decode b_X_list 60 = .ok (.iaload, 1) := by decide +kernel
theorem d_X_list_61 : decode b_X_list 61 = .ok (.bipush 31, 2) := by decide +kernel
theorem d_X_list_63 : decode b_X_list 63 = .ok (.iand, 1) := by decide +kernel
theorem d_X_list_64 : decode b_X_list 64 = .ok (.istore_n 2, 1) := by decide +kernel
theorem d_X_list_65 : decode b_X_list 65 = .ok (.goto (-29), 3) := by decide +kernel
theorem d_X_list_68 : decode b_X_list 68 = .ok (.iload_n 3, 1) := by decide +kernel
theorem d_X_list_69 : decode b_X_list 69 = .ok (.ireturn, 1) := by decide +kernel
theorem d_X_look_0 : decode b_X_look 0 = .ok (.aload_n 0, 1) := by decide +kernel
theorem d_X_look_1 : decode b_X_look 1 = .ok (.iconst 0, 1) := by decide +kernel
theorem d_X_look_2 : decode b_X_look 2 = .ok (.putfield 38, 3) := by decide +kernel
theorem d_X_look_5 : decode b_X_look 5 = .ok (.iload_n 1, 1) := by decide +kernel
theorem d_X_look_6 : decode b_X_look 6 = .ok (.ifCond .le 17, 3) := by decide +kernel
theorem d_X_look_9 : decode b_X_look 9 = .ok (.iload_n 1, 1) := by decide +kernel
theorem d_X_look_10 : decode b_X_look 10 = .ok (.iconst 5, 1) := by decide +kernel
theorem d_X_look_11 : decode b_X_look 11 = .ok (.if_icmp .ge 12, 3) := by decide +kernel
theorem d_X_look_14 : decode b_X_look 14 = .ok (.aload_n 0, 1) := by decide +kernel
theorem d_X_look_15 : decode b_X_look 15 = .ok (.getfield 19, 3) := by decide +kernel
theorem d_X_look_18 : decode b_X_look 18 = .ok (.iload_n 1, 1) := by decide +kernel
theorem d_X_look_19 : decode b_X_look 19 = .ok (.iconst 1, 1) := by decide +kernel
theorem d_X_look_20 : decode b_X_look 20 = .ok (.isub, 1) := by decide +kernel
theorem d_X_look_21 : decode b_X_look 21 = .ok (.iaload, 1) := by decide +kernel
theorem d_X_look_22 : decode b_X_look 22 = .ok (.ireturn, 1) := by decide +kernel
theorem d_X_look_23 : decode b_X_look 23 = .ok (.iload_n 1, 1) := by decide +kernel
theorem d_X_look_24 : decode b_X_look 24 = .ok (.bipush 8, 2) := by decide +kernel
theorem d_X_look_26 : decode b_X_look 26 = .ok (.if_icmp .ge 85, 3) := by decide +kernel
theorem d_X_look_29 : decode b_X_look 29 = .ok (.iload_n 1, 1) := by decide +kernel
theorem d_X_look_30 : decode b_X_look 30 = .ok (.ifCond .ne 18, 3) := by decide +kernel
theorem d_X_look_33 : decode b_X_look 33 = .ok (.aload_n 0, 1) := by decide +kernel
theorem d_X_look_34 : decode b_X_look 34 = .ok (.getfield 45, 3) := by decide +kernel
theorem d_X_look_37 : decode b_X_look 37 = .ok (.ifCond .eq 7, 3) := by decide +kernel
theorem d_X_look_40 : decode b_X_look 40 = .ok (.iconst 1, 1) := by decide +kernel
theorem d_X_look_41 : decode b_X_look 41 = .ok (.goto 69, 3) := by decide +kernel
theorem d_X_look_44 : decode b_X_look 44 = .ok (.iconst 0, 1) := by decide +kernel
