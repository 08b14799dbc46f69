theorem d_P_amount_0 : decode b_P_amount 0 = .ok (.iload_n 0, 1) := by decide +kernel
theorem d_P_amount_1 : decode b_P_amount 1 = .ok (.bipush 16, 2) := by decide +kernel
theorem d_P_amount_3 : decode b_P_amount 3 = .ok (.ishr, 1) := by decide +kernel
theorem d_P_amount_4 : decode b_P_amount 4 = .ok (.ireturn, 1) := by decide +kernel
theorem d_P_bringLowerBack_0 : decode b_P_bringLowerBack 0 = .ok (.aload_n 0, 1) := by decide +kernel
theorem d_P_bringLowerBack_1 : decode b_P_bringLowerBack 1 = .ok (.getfield 21, 3) := by decide +kernel
theorem d_P_bringLowerBack_4 : decode b_P_bringLowerBack 4 = .ok (.iconst 0, 1) := by decide +kernel
theorem d_P_bringLowerBack_5 : decode b_P_bringLowerBack 5 = .ok (.invokevirtual 201, 3) := by decide +kernel
theorem d_P_bringLowerBack_8 : decode b_P_bringLowerBack 8 = .ok (.istore_n 1, 1) := by decide +kernel
theorem d_P_bringLowerBack_9 : decode b_P_bringLowerBack 9 = .ok (.iload_n 1, 1) := by decide +kernel
theorem d_P_bringLowerBack_10 : decode b_P_bringLowerBack 10 = .ok (.ifCond .ne 15, 3) := by decide +kernel
theorem d_P_bringLowerBack_13 : decode b_P_bringLowerBack 13 = .ok (.aload_n 0, 1) := by decide +kernel
theorem d_P_bringLowerBack_14 : decode b_P_bringLowerBack 14 = .ok (.getfield 21, 3) := by decide +kernel
theorem d_P_bringLowerBack_17 : decode b_P_bringLowerBack 17 = .ok (.aload_n 0, 1) := by decide +kernel
theorem d_P_bringLowerBack_18 : decode b_P_bringLowerBack 18 = .ok (.getfield 12, 3) := by decide +kernel
theorem d_P_bringLowerBack_21 : decode b_P_bringLowerBack 21 = .ok (.iconst 0, 1) := by decide +kernel
theorem d_P_bringLowerBack_22 : decode b_P_bringLowerBack 22 = .ok (.invokevirtual 207, 3) := by decide +kernel
theorem d_P_bringLowerBack_25 : decode b_P_bringLowerBack 25 = .ok (.iload_n 1, 1) := by decide +kernel
theorem d_P_bringLowerBack_26 : decode b_P_bringLowerBack 26 = .ok (.ireturn, 1) := by decide +kernel
theorem d_P_callDown_0 : decode b_P_callDown 0 = .ok (.aload_n 0, 1) := by decide +kernel
theorem d_P_callDown_1 : decode b_P_callDown 1 = .ok (.getfield 21, 3) := by decide +kernel
theorem d_P_callDown_4 : decode b_P_callDown 4 = .ok (.getfield 150, 3) := by decide +kernel
theorem d_P_callDown_7 : decode b_P_callDown 7 = .ok (.bipush 15, 2) := by decide +kernel
theorem d_P_callDown_9 : decode b_P_callDown 9 = .ok (.if_icmp .ne 7, 3) := by decide +kernel
theorem d_P_callDown_12 : decode b_P_callDown 12 = .ok (.sipush 770, 3) := by decide +kernel
theorem d_P_callDown_15 : decode b_P_callDown 15 = .ok (.ireturn, 1) := by decide +kernel
theorem d_P_callDown_16 : decode b_P_callDown 16 = .ok (.aload_n 0, 1) := by decide +kernel
theorem d_P_callDown_17 : decode b_P_callDown 17 = .ok (.getfield 21, 3) := by decide +kernel
theorem d_P_callDown_20 : decode b_P_callDown 20 = .ok (.aload_n 0, 1) := by decide +kernel
theorem d_P_callDown_21 : decode b_P_callDown 21 = .ok (.getfield 12, 3) := by decide +kernel
theorem d_P_callDown_24 : decode b_P_callDown 24 = .ok (.iconst 1, 1) := by decide +kernel
theorem d_P_callDown_25 : decode b_P_callDown 25 = .ok (.invokevirtual 87, 3) := by decide +kernel
theorem d_P_callDown_28 : decode b_P_callDown 28 = .ok (.ifCond .ne 5, 3) := by decide +kernel
theorem d_P_callDown_31 : decode b_P_callDown 31 = .ok (.iconst 2, 1) := by decide +kernel
theorem d_P_callDown_32 : decode b_P_callDown 32 = .ok (.ireturn, 1) := by decide +kernel
theorem d_P_callDown_33 : decode b_P_callDown 33 = .ok (.aload_n 0, 1) := by decide +kernel
theorem d_P_callDown_34 : decode b_P_callDown 34 = .ok (.getfield 21, 3) := by decide +kernel
theorem d_P_callDown_37 : decode b_P_callDown 37 = .ok (.getfield 172, 3) := by decide +kernel
theorem d_P_callDown_40 : decode b_P_callDown 40 = .ok (.bipush 7, 2) := by decide +kernel
theorem d_P_callDown_42 : decode b_P_callDown 42 = .ok (.aload_n 0, 1) := by decide +kernel
theorem d_P_callDown_43 : decode b_P_callDown 43 = .ok (.getfield 21, 3) := by decide +kernel
theorem d_P_callDown_46 : decode b_P_callDown 46 = .ok (.getfield 67, 3) := by decide +kernel
theorem d_P_callDown_49 : decode b_P_callDown 49 = .ok (.iconst 1, 1) := by decide +kernel
theorem d_P_callDown_50 : decode b_P_callDown 50 = .ok (.iadd, 1) := by decide +kernel
theorem d_P_callDown_51 : decode b_P_callDown 51 = .ok (.iastore, 1) := by decide +kernel
theorem d_P_callDown_52 : decode b_P_callDown 52 = .ok (.aload_n 0, 1) := by decide +kernel
theorem d_P_callDown_53 : decode b_P_callDown 53 = .ok (.getfield 21, 3) := by decide +kernel
theorem d_P_callDown_56 : decode b_P_callDown 56 = .ok (.dup, 1) := by decide +kernel
theorem d_P_callDown_57 : decode b_P_callDown 57 = .ok (.getfield 150, 3) := by decide +kernel
theorem d_P_callDown_60 : decode b_P_callDown 60 = .ok (.iconst 1, 1) := by decide +kernel
theorem d_P_callDown_61 : decode b_P_callDown 61 = .ok (.iadd, 1) := by decide +kernel
theorem d_P_callDown_62 : decode b_P_callDown 62 = .ok (.putfield 150, 3) := by decide +kernel
theorem d_P_callDown_65 : decode b_P_callDown 65 = .ok (.aload_n 0, 1) := by decide +kernel
theorem d_P_callDown_66 : decode b_P_callDown 66 = .ok (.getfield 21, 3) := by decide +kernel
theorem d_P_callDown_69 : decode b_P_callDown 69 = .ok (.dup, 1) := by decide +kernel
theorem d_P_callDown_70 : decode b_P_callDown 70 = .ok (.getfield 67, 3) := by decide +kernel
theorem d_P_callDown_73 : decode b_P_callDown 73 = .ok (.iload_n 1, 1) := by decide +kernel
theorem d_P_callDown_74 : decode b_P_callDown 74 = .ok (.iadd, 1) := by decide +kernel
theorem d_P_callDown_75 : decode b_P_callDown 75 = .ok (.putfield 67, 3) := by decide +kernel
theorem d_P_callDown_78 : decode b_P_callDown 78 = .ok (.iconst 1, 1) := by decide +kernel
theorem d_P_callDown_79 : decode b_P_callDown 79 = .ok (.ireturn, 1) := by decide +kernel
theorem d_P_changeLevel_0 : decode b_P_changeLevel 0 = .ok (.iload_n 1, 1) := by decide +kernel
theorem d_P_changeLevel_1 : decode b_P_changeLevel 1 = .ok (.aload_n 0, 1) := by decide +kernel
theorem d_P_changeLevel_2 : decode b_P_changeLevel 2 = .ok (.getfield 21, 3) := by decide +kernel
theorem d_P_changeLevel_5 : decode b_P_changeLevel 5 = .ok (.getfield 113, 3) := by decide +kernel
theorem d_P_changeLevel_8 : decode b_P_changeLevel 8 = .ok (.if_icmp .le 7, 3) := by decide +kernel
theorem d_P_changeLevel_11 : decode b_P_changeLevel 11 = .ok (.sipush 257, 3) := by decide +kernel
theorem d_P_changeLevel_14 : decode b_P_changeLevel 14 = .ok (.ireturn, 1) := by decide +kernel
theorem d_P_changeLevel_15 : decode b_P_changeLevel 15 = .ok (.aload_n 0, 1) := by decide +kernel
theorem d_P_changeLevel_16 : decode b_P_changeLevel 16 = .ok (.getfield 21, 3) := by decide +kernel
theorem d_P_changeLevel_19 : decode b_P_changeLevel 19 = .ok (.iload_n 1, 1) := by decide +kernel
theorem d_P_changeLevel_20 : decode b_P_changeLevel 20 = .ok (.putfield 113, 3) := by decide +kernel
theorem d_P_changeLevel_23 : decode b_P_changeLevel 23 = .ok (.iconst 0, 1) := by decide +kernel
theorem d_P_changeLevel_24 : decode b_P_changeLevel 24 = .ok (.ireturn, 1) := by decide +kernel
theorem d_P_compute_0 : decode b_P_compute 0 = .ok (.aload_n 0, 1) := by decide +kernel
theorem d_P_compute_1 : decode b_P_compute 1 = .ok (.getfield 21, 3) := by decide +kernel
theorem d_P_compute_4 : decode b_P_compute 4 = .ok (.getfield 103, 3) := by decide +kernel
theorem d_P_compute_7 : decode b_P_compute 7 = .ok (.astore_n 3, 1) := by decide +kernel
theorem d_P_compute_8 : decode b_P_compute 8 = .ok (.aload_n 0, 1) := by decide +kernel
theorem d_P_compute_9 : decode b_P_compute 9 = .ok (.getfield 21, 3) := by decide +kernel
theorem d_P_compute_12 : decode b_P_compute 12 = .ok (.getfield 172, 3) := by decide +kernel
theorem d_P_compute_15 : decode b_P_compute 15 = .ok (.astore 4, 2) := by decide +kernel
theorem d_P_compute_17 : decode b_P_compute 17 = .ok (.iload_n 2, 1) := by decide +kernel
theorem d_P_compute_18 : decode b_P_compute 18 = .ok (.invokestatic 175, 3) := by decide +kernel
theorem d_P_compute_21 : decode b_P_compute 21 = .ok (.istore 5, 2) := by decide +kernel
theorem d_P_compute_23 : decode b_P_compute 23 = .ok (.iload_n 2, 1) := by decide +kernel
theorem d_P_compute_24 : decode b_P_compute 24 = .ok (.invokestatic 178, 3) := by decide +kernel
theorem d_P_compute_27 : decode b_P_compute 27 = .ok (.istore 6, 2) := by decide +kernel
theorem d_P_compute_29 : decode b_P_compute 29 = .ok (.iload_n 2, 1) := by decide +kernel
theorem d_P_compute_30 : decode b_P_compute 30 = .ok (.invokestatic 181, 3) := by decide +kernel
theorem d_P_compute_33 : decode b_P_compute 33 = .ok (.istore 7, 2) := by decide +kernel
theorem d_P_compute_35 : decode b_P_compute 35 = .ok (.iload_n 2, 1) := by decide +kernel
theorem d_P_compute_36 : decode b_P_compute 36 = .ok (.invokestatic 131, 3) := by decide +kernel
theorem d_P_compute_39 : decode b_P_compute 39 = .ok (.istore 8, 2) := by decide +kernel
theorem d_P_compute_41 : decode b_P_compute 41 = .ok (.iload_n 1, 1) := by decide +kernel
theorem d_P_compute_42 : decode b_P_compute 42 = .ok (.tableswitch 229 1 11 #[58, 67, 81, 97, 113, 129, 145, 161, 191, 201, 217], 58) := by decide +kernel
theorem d_P_compute_100 : decode b_P_compute 100 = .ok (.aload_n 3, 1) := by decide +kernel
theorem d_P_compute_101 : decode b_P_compute 101 = .ok (.iload 5, 2) := by decide +kernel
theorem d_P_compute_103 : decode b_P_compute 103 = .ok (.iload 8, 2) := by decide +kernel
theorem d_P_compute_105 : decode b_P_compute 105 = .ok (.iastore, 1) := by decide +kernel
theorem d_P_compute_106 : decode b_P_compute 106 = .ok (.goto 174, 3) := by decide +kernel
theorem d_P_compute_109 : decode b_P_compute 109 = .ok (.aload_n 3, 1) := by decide +kernel
theorem d_P_compute_110 : decode b_P_compute 110 = .ok (.iload 5, 2) := by decide +kernel
theorem d_P_compute_112 : decode b_P_compute 112 = .ok (.aload_n 3, 1) := by decide +kernel
theorem d_P_compute_113 : decode b_P_compute 113 = .ok (.iload 6, 2) := by decide +kernel
theorem d_P_compute_115 : decode b_P_compute 115 = .ok (.iaload, 1) := by decide +kernel
theorem d_P_compute_116 : decode b_P_compute 116 = .ok (.iload 8, 2) := by decide +kernel
theorem d_P_compute_118 : decode b_P_compute 118 = .ok (.iadd, 1) := by decide +kernel
theorem d_P_compute_119 : decode b_P_compute 119 = .ok (.iastore, 1) := by decide +kernel
theorem d_P_compute_120 : decode b_P_compute 120 = .ok (.goto 160, 3) := by decide +kernel
theorem d_P_compute_123 : decode b_P_compute 123 = .ok (.aload_n 3, 1) := by decide +kernel
theorem d_P_compute_124 : decode b_P_compute 124 = .ok (.iload 5, 2) := by decide +kernel
theorem d_P_compute_126 : decode b_P_compute 126 = .ok (.aload_n 3, 1) := by decide +kernel
theorem d_P_compute_127 : decode b_P_compute 127 = .ok (.iload 6, 2) := by decide +kernel
theorem d_P_compute_129 : decode b_P_compute 129 = .ok (.iaload, 1) := by decide +kernel
theorem d_P_compute_130 : decode b_P_compute 130 = .ok (.aload_n 3, 1) := by decide +kernel
theorem d_P_compute_131 : decode b_P_compute 131 = .ok (.iload 7, 2) := by decide +kernel
theorem d_P_compute_133 : decode b_P_compute 133 = .ok (.iaload, 1) := by decide +kernel
theorem d_P_compute_134 : decode b_P_compute 134 = .ok (.iadd, 1) := by decide +kernel
theorem d_P_compute_135 : decode b_P_compute 135 = .ok (.iastore, 1) := by decide +kernel
theorem d_P_compute_136 : decode b_P_compute 136 = .ok (.goto 144, 3) := by decide +kernel
theorem d_P_compute_139 : decode b_P_compute 139 = .ok (.aload_n 3, 1) := by decide +kernel
theorem d_P_compute_140 : decode b_P_compute 140 = .ok (.iload 5, 2) := by decide +kernel
theorem d_P_compute_142 : decode b_P_compute 142 = .ok (.aload_n 3, 1) := by decide +kernel
theorem d_P_compute_143 : decode b_P_compute 143 = .ok (.iload 6, 2) := by decide +kernel
theorem d_P_compute_145 : decode b_P_compute 145 = .ok (.iaload, 1) := by decide +kernel
theorem d_P_compute_146 : decode b_P_compute 146 = .ok (.aload_n 3, 1) := by decide +kernel
theorem d_P_compute_147 : decode b_P_compute 147 = .ok (.iload 7, 2) := by decide +kernel
theorem d_P_compute_149 : decode b_P_compute 149 = .ok (.iaload, 1) := by decide +kernel
theorem d_P_compute_150 : decode b_P_compute 150 = .ok (.isub, 1) := by decide +kernel
theorem d_P_compute_151 : decode b_P_compute 151 = .ok (.iastore, 1) := by decide +kernel
theorem d_P_compute_152 : decode b_P_compute 152 = .ok (.goto 128, 3) := by decide +kernel
theorem d_P_compute_155 : decode b_P_compute 155 = .ok (.aload_n 3, 1) := by decide +kernel
theorem d_P_compute_156 : decode b_P_compute 156 = .ok (.iload 5, 2) := by decide +kernel
theorem d_P_compute_158 : decode b_P_compute 158 = .ok (.aload_n 3, 1) := by decide +kernel
theorem d_P_compute_159 : decode b_P_compute 159 = .ok (.iload 6, 2) := by decide +kernel
theorem d_P_compute_161 : decode b_P_compute 161 = .ok (.iaload, 1) := by decide +kernel
theorem d_P_compute_162 : decode b_P_compute 162 = .ok (.aload_n 3, 1) := by decide +kernel
theorem d_P_compute_163 : decode b_P_compute 163 = .ok (.iload 7, 2) := by decide +kernel
theorem d_P_compute_165 : decode b_P_compute 165 = .ok (.iaload, 1) := by decide +kernel
theorem d_P_compute_166 : decode b_P_compute 166 = .ok (.imul, 1) := by decide +kernel
theorem d_P_compute_167 : decode b_P_compute 167 = .ok (.iastore, 1) := by decide +kernel
theorem d_P_compute_168 : decode b_P_compute 168 = .ok (.goto 112, 3) := by decide +kernel
theorem d_P_compute_171 : decode b_P_compute 171 = .ok (.aload_n 3, 1) := by decide +kernel
theorem d_P_compute_172 : decode b_P_compute 172 = .ok (.iload 5, 2) := by decide +kernel
theorem d_P_compute_174 : decode b_P_compute 174 = .ok (.aload_n 3, 1) := by decide +kernel
theorem d_P_compute_175 : decode b_P_compute 175 = .ok (.iload 6, 2) := by decide +kernel
theorem d_P_compute_177 : decode b_P_compute 177 = .ok (.iaload, 1) := by decide +kernel
theorem d_P_compute_178 : decode b_P_compute 178 = .ok (.aload_n 3, 1) := by decide +kernel
theorem d_P_compute_179 : decode b_P_compute 179 = .ok (.iload 7, 2) := by decide +kernel
theorem d_P_compute_181 : decode b_P_compute 181 = .ok (.iaload, 1) := by decide +kernel
theorem d_P_compute_182 : decode b_P_compute 182 = .ok (.iand, 1) := by decide +kernel
theorem d_P_compute_183 : decode b_P_compute 183 = .ok (.iastore, 1) := by decide +kernel
theorem d_P_compute_184 : decode b_P_compute 184 = .ok (.goto 96, 3) := by decide +kernel
theorem d_P_compute_187 : decode b_P_compute 187 = .ok (.aload_n 3, 1) := by decide +kernel
theorem d_P_compute_188 : decode b_P_compute 188 = .ok (.iload 5, 2) := by decide +kernel
theorem d_P_compute_190 : decode b_P_compute 190 = .ok (.aload_n 3, 1) := by decide +kernel
theorem d_P_compute_191 : decode b_P_compute 191 = .ok (.iload 6, 2) := by decide +kernel
theorem d_P_compute_193 : decode b_P_compute 193 = .ok (.iaload, 1) := by decide +kernel
theorem d_P_compute_194 : decode b_P_compute 194 = .ok (.aload_n 3, 1) := by decide +kernel
theorem d_P_compute_195 : decode b_P_compute 195 = .ok (.iload 7, 2) := by decide +kernel
theorem d_P_compute_197 : decode b_P_compute 197 = .ok (.iaload, 1) := by decide +kernel
theorem d_P_compute_198 : decode b_P_compute 198 = .ok (.ixor, 1) := by decide +kernel
theorem d_P_compute_199 : decode b_P_compute 199 = .ok (.iastore, 1) := by decide +kernel
theorem d_P_compute_200 : decode b_P_compute 200 = .ok (.goto 80, 3) := by decide +kernel
theorem d_P_compute_203 : decode b_P_compute 203 = .ok (.aload_n 3, 1) := by decide +kernel
theorem d_P_compute_204 : decode b_P_compute 204 = .ok (.iload 5, 2) := by decide +kernel
theorem d_P_compute_206 : decode b_P_compute 206 = .ok (.iload 8, 2) := by decide +kernel
theorem d_P_compute_208 : decode b_P_compute 208 = .ok (.ifCond .ge 14, 3) := by decide +kernel
theorem d_P_compute_211 : decode b_P_compute 211 = .ok (.aload_n 3, 1) := by decide +kernel
theorem d_P_compute_212 : decode b_P_compute 212 = .ok (.iload 6, 2) := by decide +kernel
theorem d_P_compute_214 : decode b_P_compute 214 = .ok (.iaload, 1) := by decide +kernel
theorem d_P_compute_215 : decode b_P_compute 215 = .ok (.iload 8, 2) := by decide +kernel
theorem d_P_compute_217 : decode b_P_compute 217 = .ok (.ineg, 1) := by decide +kernel
theorem d_P_compute_218 : decode b_P_compute 218 = .ok (.ishr, 1) := by decide +kernel
theorem d_P_compute_219 : decode b_P_compute 219 = .ok (.goto 10, 3) := by decide +kernel
theorem d_P_compute_222 : decode b_P_compute 222 = .ok (.aload_n 3, 1) := by decide +kernel
theorem d_P_compute_223 : decode b_P_compute 223 = .ok (.iload 6, 2) := by decide +kernel
theorem d_P_compute_225 : decode b_P_compute 225 = .ok (.iaload, 1) := by decide +kernel
theorem d_P_compute_226 : decode b_P_compute 226 = .ok (.iload 8, 2) := by decide +kernel
theorem d_P_compute_228 : decode b_P_compute 228 = .ok (.ishl, 1) := by decide +kernel
theorem d_P_compute_229 : decode b_P_compute 229 = .ok (.iastore, 1) := by decide +kernel
theorem d_P_compute_230 : decode b_P_compute 230 = .ok (.goto 50, 3) := by decide +kernel
theorem d_P_compute_233 : decode b_P_compute 233 = .ok (.aload 4, 2) := by decide +kernel
theorem d_P_compute_235 : decode b_P_compute 235 = .ok (.iload 5, 2) := by decide +kernel
theorem d_P_compute_237 : decode b_P_compute 237 = .ok (.iload 8, 2) := by decide +kernel
theorem d_P_compute_239 : decode b_P_compute 239 = .ok (.iastore, 1) := by decide +kernel
theorem d_P_compute_240 : decode b_P_compute 240 = .ok (.goto 40, 3) := by decide +kernel
theorem d_P_compute_243 : decode b_P_compute 243 = .ok (.aload 4, 2) := by decide +kernel
theorem d_P_compute_245 : decode b_P_compute 245 = .ok (.iload 5, 2) := by decide +kernel
theorem d_P_compute_247 : decode b_P_compute 247 = .ok (.aload 4, 2) := by decide +kernel
theorem d_P_compute_249 : decode b_P_compute 249 = .ok (.iload 6, 2) := by decide +kernel
theorem d_P_compute_251 : decode b_P_compute 251 = .ok (.iaload, 1) := by decide +kernel
theorem d_P_compute_252 : decode b_P_compute 252 = .ok (.iload 8, 2) := by decide +kernel
theorem d_P_compute_254 : decode b_P_compute 254 = .ok (.iadd, 1) := by decide +kernel
theorem d_P_compute_255 : decode b_P_compute 255 = .ok (.iastore, 1) := by decide +kernel
theorem d_P_compute_256 : decode b_P_compute 256 = .ok (.goto 24, 3) := by decide +kernel
theorem d_P_compute_259 : decode b_P_compute 259 = .ok (.aload 4, 2) := by decide +kernel
theorem d_P_compute_261 : decode b_P_compute 261 = .ok (.iload 5, 2) := by decide +kernel
theorem d_P_compute_263 : decode b_P_compute 263 = .ok (.aload_n 3, 1) := by decide +kernel
theorem d_P_compute_264 : decode b_P_compute 264 = .ok (.iload 6, 2) := by decide +kernel
theorem d_P_compute_266 : decode b_P_compute 266 = .ok (.iaload, 1) := by decide +kernel
theorem d_P_compute_267 : decode b_P_compute 267 = .ok (.iastore, 1) := by decide +kernel
theorem d_P_compute_268 : decode b_P_compute 268 = .ok (.goto 12, 3) := by decide +kernel
theorem d_P_compute_271 : decode b_P_compute 271 = .ok (.aload_n 3, 1) := by decide +kernel
theorem d_P_compute_272 : decode b_P_compute 272 = .ok (.iload 5, 2) := by decide +kernel
theorem d_P_compute_274 : decode b_P_compute 274 = .ok (.aload 4, 2) := by decide +kernel
theorem d_P_compute_276 : decode b_P_compute 276 = .ok (.iload 6, 2) := by decide +kernel
theorem d_P_compute_278 : decode b_P_compute 278 = .ok (.iaload, 1) := by decide +kernel
theorem d_P_compute_279 : decode b_P_compute 279 = .ok (.iastore, 1) := by decide +kernel
theorem d_P_compute_280 : decode b_P_compute 280 = .ok (.iconst 0, 1) := by decide +kernel
theorem d_P_compute_281 : decode b_P_compute 281 = .ok (.ireturn, 1) := by decide +kernel
theorem d_P_fieldA_0 : decode b_P_fieldA 0 = .ok (.iload_n 0, 1) := by decide +kernel
theorem d_P_fieldA_1 : decode b_P_fieldA 1 = .ok (.iconst 5, 1) := by decide +kernel
theorem d_P_fieldA_2 : decode b_P_fieldA 2 = .ok (.ishr, 1) := by decide +kernel
theorem d_P_fieldA_3 : decode b_P_fieldA 3 = .ok (.bipush 7, 2) := by decide +kernel
theorem d_P_fieldA_5 : decode b_P_fieldA 5 = .ok (.iand, 1) := by decide +kernel
theorem d_P_fieldA_6 : decode b_P_fieldA 6 = .ok (.ireturn, 1) := by decide +kernel
theorem d_P_fieldB_0 : decode b_P_fieldB 0 = .ok (.iload_n 0, 1) := by decide +kernel
theorem d_P_fieldB_1 : decode b_P_fieldB 1 = .ok (.bipush 8, 2) := by decide +kernel
theorem d_P_fieldB_3 : decode b_P_fieldB 3 = .ok (.ishr, 1) := by decide +kernel
theorem d_P_fieldB_4 : decode b_P_fieldB 4 = .ok (.bipush 7, 2) := by decide +kernel
theorem d_P_fieldB_6 : decode b_P_fieldB 6 = .ok (.iand, 1) := by decide +kernel
theorem d_P_fieldB_7 : decode b_P_fieldB 7 = .ok (.ireturn, 1) := by decide +kernel
theorem d_P_fieldC_0 : decode b_P_fieldC 0 = .ok (.iload_n 0, 1) := by decide +kernel
theorem d_P_fieldC_1 : decode b_P_fieldC 1 = .ok (.bipush 11, 2) := by decide +kernel
theorem d_P_fieldC_3 : decode b_P_fieldC 3 = .ok (.ishr, 1) := by decide +kernel
theorem d_P_fieldC_4 : decode b_P_fieldC 4 = .ok (.bipush 7, 2) := by decide +kernel
theorem d_P_fieldC_6 : decode b_P_fieldC 6 = .ok (.iand, 1) := by decide +kernel
theorem d_P_fieldC_7 : decode b_P_fieldC 7 = .ok (.ireturn, 1) := by decide +kernel
theorem d_P_finish_0 : decode b_P_finish 0 = .ok (.iload_n 1, 1) := by decide +kernel
theorem d_P_finish_1 : decode b_P_finish 1 = .ok (.ifCond .ne 19, 3) := by decide +kernel
theorem d_P_finish_4 : decode b_P_finish 4 = .ok (.aload_n 0, 1) := by decide +kernel
theorem d_P_finish_5 : decode b_P_finish 5 = .ok (.getfield 21, 3) := by decide +kernel
theorem d_P_finish_8 : decode b_P_finish 8 = .ok (.dup, 1) := by decide +kernel
theorem d_P_finish_9 : decode b_P_finish 9 = .ok (.getfield 67, 3) := by decide +kernel
theorem d_P_finish_12 : decode b_P_finish 12 = .ok (.iconst 1, 1) := by decide +kernel
theorem d_P_finish_13 : decode b_P_finish 13 = .ok (.iadd, 1) := by decide +kernel
theorem d_P_finish_14 : decode b_P_finish 14 = .ok (.putfield 67, 3) := by decide +kernel
theorem d_P_finish_17 : decode b_P_finish 17 = .ok (.goto 54, 3) := by decide +kernel
theorem d_P_finish_20 : decode b_P_finish 20 = .ok (.iload_n 1, 1) := by decide +kernel
theorem d_P_finish_21 : decode b_P_finish 21 = .ok (.iconst 2, 1) := by decide +kernel
theorem d_P_finish_22 : decode b_P_finish 22 = .ok (.if_icmp .ne 11, 3) := by decide +kernel
theorem d_P_finish_25 : decode b_P_finish 25 = .ok (.aload_n 0, 1) := by decide +kernel
theorem d_P_finish_26 : decode b_P_finish 26 = .ok (.iconst 0, 1) := by decide +kernel
theorem d_P_finish_27 : decode b_P_finish 27 = .ok (.putfield 80, 3) := by decide +kernel
theorem d_P_finish_30 : decode b_P_finish 30 = .ok (.goto 41, 3) := by decide +kernel
theorem d_P_finish_33 : decode b_P_finish 33 = .ok (.iload_n 1, 1) := by decide +kernel
theorem d_P_finish_34 : decode b_P_finish 34 = .ok (.iconst 1, 1) := by decide +kernel
theorem d_P_finish_35 : decode b_P_finish 35 = .ok (.if_icmp .eq 36, 3) := by decide +kernel
theorem d_P_finish_38 : decode b_P_finish 38 = .ok (.aload_n 0, 1) := by decide +kernel
theorem d_P_finish_39 : decode b_P_finish 39 = .ok (.iload_n 1, 1) := by decide +kernel
theorem d_P_finish_40 : decode b_P_finish 40 = .ok (.iload_n 1, 1) := by decide +kernel
theorem d_P_finish_41 : decode b_P_finish 41 = .ok (.bipush 8, 2) := by decide +kernel
theorem d_P_finish_43 : decode b_P_finish 43 = .ok (.ishr, 1) := by decide +kernel
theorem d_P_finish_44 : decode b_P_finish 44 = .ok (.bipush 6, 2) := by decide +kernel
theorem d_P_finish_46 : decode b_P_finish 46 = .ok (.if_icmp .ne 15, 3) := by decide +kernel
theorem d_P_finish_49 : decode b_P_finish 49 = .ok (.aload_n 0, 1) := by decide +kernel
theorem d_P_finish_50 : decode b_P_finish 50 = .ok (.getfield 21, 3) := by decide +kernel
theorem d_P_finish_53 : decode b_P_finish 53 = .ok (.getfield 67, 3) := by decide +kernel
theorem d_P_finish_56 : decode b_P_finish 56 = .ok (.iconst 1, 1) := by decide +kernel
theorem d_P_finish_57 : decode b_P_finish 57 = .ok (.iadd, 1) := by decide +kernel
theorem d_P_finish_58 : decode b_P_finish 58 = .ok (.goto 10, 3) := by decide +kernel
theorem d_P_finish_61 : decode b_P_finish 61 = .ok (.aload_n 0, 1) := by decide +kernel
theorem d_P_finish_62 : decode b_P_finish 62 = .ok (.getfield 21, 3) := by decide +kernel
theorem d_P_finish_65 : decode b_P_finish 65 = .ok (.getfield 67, 3) := by decide +kernel
theorem d_P_finish_68 : decode b_P_finish 68 = .ok (.invokevirtual 83, 3) := by decide +kernel
theorem d_P_finish_71 : decode b_P_finish 71 = .ok (.return_, 1) := by decide +kernel
theorem d_P_goBack_0 : decode b_P_goBack 0 = .ok (.aload_n 0, 1) := by decide +kernel
theorem d_P_goBack_1 : decode b_P_goBack 1 = .ok (.getfield 21, 3) := by decide +kernel
theorem d_P_goBack_4 : decode b_P_goBack 4 = .ok (.iconst 1, 1) := by decide +kernel
theorem d_P_goBack_5 : decode b_P_goBack 5 = .ok (.invokevirtual 201, 3) := by decide +kernel
theorem d_P_goBack_8 : decode b_P_goBack 8 = .ok (.istore_n 2, 1) := by decide +kernel
theorem d_P_goBack_9 : decode b_P_goBack 9 = .ok (.iload_n 2, 1) := by decide +kernel
theorem d_P_goBack_10 : decode b_P_goBack 10 = .ok (.ifCond .eq 5, 3) := by decide +kernel
theorem d_P_goBack_13 : decode b_P_goBack 13 = .ok (.iload_n 2, 1) := by decide +kernel
theorem d_P_goBack_14 : decode b_P_goBack 14 = .ok (.ireturn, 1) := by decide +kernel
theorem d_P_goBack_15 : decode b_P_goBack 15 = .ok (.aload_n 0, 1) := by decide +kernel
theorem d_P_goBack_16 : decode b_P_goBack 16 = .ok (.getfield 21, 3) := by decide +kernel
theorem d_P_goBack_19 : decode b_P_goBack 19 = .ok (.aload_n 0, 1) := by decide +kernel
theorem d_P_goBack_20 : decode b_P_goBack 20 = .ok (.getfield 21, 3) := by decide +kernel
theorem d_P_goBack_23 : decode b_P_goBack 23 = .ok (.getfield 172, 3) := by decide +kernel
theorem d_P_goBack_26 : decode b_P_goBack 26 = .ok (.bipush 7, 2) := by decide +kernel
theorem d_P_goBack_28 : decode b_P_goBack 28 = .ok (.iaload, 1) := by decide +kernel
theorem d_P_goBack_29 : decode b_P_goBack 29 = .ok (.putfield 67, 3) := by decide +kernel
theorem d_P_goBack_32 : decode b_P_goBack 32 = .ok (.iload_n 1, 1) := by decide +kernel
theorem d_P_goBack_33 : decode b_P_goBack 33 = .ok (.ifCond .eq 49, 3) := by decide +kernel
theorem d_P_goBack_36 : decode b_P_goBack 36 = .ok (.aload_n 0, 1) := by decide +kernel
theorem d_P_goBack_37 : decode b_P_goBack 37 = .ok (.getfield 21, 3) := by decide +kernel
theorem d_P_goBack_40 : decode b_P_goBack 40 = .ok (.aload_n 0, 1) := by decide +kernel
theorem d_P_goBack_41 : decode b_P_goBack 41 = .ok (.getfield 21, 3) := by decide +kernel
theorem d_P_goBack_44 : decode b_P_goBack 44 = .ok (.getfield 204, 3) := by decide +kernel
theorem d_P_goBack_47 : decode b_P_goBack 47 = .ok (.bipush 8, 2) := by decide +kernel
theorem d_P_goBack_49 : decode b_P_goBack 49 = .ok (.ishr, 1) := by decide +kernel
theorem d_P_goBack_50 : decode b_P_goBack 50 = .ok (.bipush 15, 2) := by decide +kernel
theorem d_P_goBack_52 : decode b_P_goBack 52 = .ok (.iand, 1) := by decide +kernel
theorem d_P_goBack_53 : decode b_P_goBack 53 = .ok (.putfield 57, 3) := by decide +kernel
theorem d_P_goBack_56 : decode b_P_goBack 56 = .ok (.aload_n 0, 1) := by decide +kernel
theorem d_P_goBack_57 : decode b_P_goBack 57 = .ok (.getfield 21, 3) := by decide +kernel
theorem d_P_goBack_60 : decode b_P_goBack 60 = .ok (.aload_n 0, 1) := by decide +kernel
theorem d_P_goBack_61 : decode b_P_goBack 61 = .ok (.getfield 21, 3) := by decide +kernel
theorem d_P_goBack_64 : decode b_P_goBack 64 = .ok (.getfield 204, 3) := by decide +kernel
theorem d_P_goBack_67 : decode b_P_goBack 67 = .ok (.sipush 4096, 3) := by decide +kernel
theorem d_P_goBack_70 : decode b_P_goBack 70 = .ok (.iand, 1) := by decide +kernel
theorem d_P_goBack_71 : decode b_P_goBack 71 = .ok (.ifCond .eq 7, 3) := by decide +kernel
theorem d_P_goBack_74 : decode b_P_goBack 74 = .ok (.iconst 1, 1) := by decide +kernel
theorem d_P_goBack_75 : decode b_P_goBack 75 = .ok (.goto 4, 3) := by decide +kernel
theorem d_P_goBack_78 : decode b_P_goBack 78 = .ok (.iconst 0, 1) := by decide +kernel
theorem d_P_goBack_79 : decode b_P_goBack 79 = .ok (.putfield 50, 3) := by decide +kernel
theorem d_P_goBack_82 : decode b_P_goBack 82 = .ok (.aload_n 0, 1) := by decide +kernel
theorem d_P_goBack_83 : decode b_P_goBack 83 = .ok (.getfield 21, 3) := by decide +kernel
theorem d_P_goBack_86 : decode b_P_goBack 86 = .ok (.aload_n 0, 1) := by decide +kernel
theorem d_P_goBack_87 : decode b_P_goBack 87 = .ok (.getfield 12, 3) := by decide +kernel
theorem d_P_goBack_90 : decode b_P_goBack 90 = .ok (.iconst 1, 1) := by decide +kernel
theorem d_P_goBack_91 : decode b_P_goBack 91 = .ok (.invokevirtual 207, 3) := by decide +kernel
theorem d_P_goBack_94 : decode b_P_goBack 94 = .ok (.iconst 1, 1) := by decide +kernel
theorem d_P_goBack_95 : decode b_P_goBack 95 = .ok (.ireturn, 1) := by decide +kernel
theorem d_P_isGuarded_0 : decode b_P_isGuarded 0 = .ok (.aload_n 0, 1) := by decide +kernel
theorem d_P_isGuarded_1 : decode b_P_isGuarded 1 = .ok (.getfield 110, 3) := by decide +kernel
theorem d_P_isGuarded_4 : decode b_P_isGuarded 4 = .ok (.ifCond .eq 18, 3) := by decide +kernel
theorem d_P_isGuarded_7 : decode b_P_isGuarded 7 = .ok (.aload_n 0, 1) := by decide +kernel
theorem d_P_isGuarded_8 : decode b_P_isGuarded 8 = .ok (.getfield 21, 3) := by decide +kernel
theorem d_P_isGuarded_11 : decode b_P_isGuarded 11 = .ok (.getfield 113, 3) := by decide +kernel
theorem d_P_isGuarded_14 : decode b_P_isGuarded 14 = .ok (.iconst 2, 1) := by decide +kernel
theorem d_P_isGuarded_15 : decode b_P_isGuarded 15 = .ok (.if_icmp .eq 7, 3) := by decide +kernel
theorem d_P_isGuarded_18 : decode b_P_isGuarded 18 = .ok (.iconst 1, 1) := by decide +kernel
theorem d_P_isGuarded_19 : decode b_P_isGuarded 19 = .ok (.goto 4, 3) := by decide +kernel
theorem d_P_isGuarded_22 : decode b_P_isGuarded 22 = .ok (.iconst 0, 1) := by decide +kernel
theorem d_P_isGuarded_23 : decode b_P_isGuarded 23 = .ok (.ireturn, 1) := by decide +kernel
theorem d_P_jump_0 : decode b_P_jump 0 = .ok (.aload_n 0, 1) := by decide +kernel
theorem d_P_jump_1 : decode b_P_jump 1 = .ok (.getfield 21, 3) := by decide +kernel
theorem d_P_jump_4 : decode b_P_jump 4 = .ok (.getfield 103, 3) := by decide +kernel
theorem d_P_jump_7 : decode b_P_jump 7 = .ok (.iload_n 2, 1) := by decide +kernel
theorem d_P_jump_8 : decode b_P_jump 8 = .ok (.invokestatic 175, 3) := by decide +kernel
theorem d_P_jump_11 : decode b_P_jump 11 = .ok (.iaload, 1) := by decide +kernel
theorem d_P_jump_12 : decode b_P_jump 12 = .ok (.istore_n 3, 1) := by decide +kernel
theorem d_P_jump_13 : decode b_P_jump 13 = .ok (.aload_n 0, 1) := by decide +kernel
theorem d_P_jump_14 : decode b_P_jump 14 = .ok (.getfield 21, 3) := by decide +kernel
theorem d_P_jump_17 : decode b_P_jump 17 = .ok (.getfield 103, 3) := by decide +kernel
theorem d_P_jump_20 : decode b_P_jump 20 = .ok (.iload_n 2, 1) := by decide +kernel
theorem d_P_jump_21 : decode b_P_jump 21 = .ok (.invokestatic 178, 3) := by decide +kernel
theorem d_P_jump_24 : decode b_P_jump 24 = .ok (.iaload, 1) := by decide +kernel
theorem d_P_jump_25 : decode b_P_jump 25 = .ok (.istore 4, 2) := by decide +kernel
theorem d_P_jump_27 : decode b_P_jump 27 = .ok (.iload_n 1, 1) := by decide +kernel
theorem d_P_jump_28 : decode b_P_jump 28 = .ok (.bipush 18, 2) := by decide +kernel
theorem d_P_jump_30 : decode b_P_jump 30 = .ok (.if_icmp .eq 22, 3) := by decide +kernel
theorem d_P_jump_33 : decode b_P_jump 33 = .ok (.iload_n 1, 1) := by decide +kernel
theorem d_P_jump_34 : decode b_P_jump 34 = .ok (.bipush 19, 2) := by decide +kernel
theorem d_P_jump_36 : decode b_P_jump 36 = .ok (.if_icmp .ne 10, 3) := by decide +kernel
theorem d_P_jump_39 : decode b_P_jump 39 = .ok (.iload_n 3, 1) := by decide +kernel
theorem d_P_jump_40 : decode b_P_jump 40 = .ok (.ifCond .ne 16, 3) := by decide +kernel
theorem d_P_jump_43 : decode b_P_jump 43 = .ok (.goto 9, 3) := by decide +kernel
theorem d_P_jump_46 : decode b_P_jump 46 = .ok (.iload_n 3, 1) := by decide +kernel
theorem d_P_jump_47 : decode b_P_jump 47 = .ok (.iload 4, 2) := by decide +kernel
theorem d_P_jump_49 : decode b_P_jump 49 = .ok (.if_icmp .ge 7, 3) := by decide +kernel
theorem d_P_jump_52 : decode b_P_jump 52 = .ok (.iconst 1, 1) := by decide +kernel
theorem d_P_jump_53 : decode b_P_jump 53 = .ok (.goto 4, 3) := by decide +kernel
theorem d_P_jump_56 : decode b_P_jump 56 = .ok (.iconst 0, 1) := by decide +kernel
theorem d_P_jump_57 : decode b_P_jump 57 = .ok (.istore 5, 2) := by decide +kernel
theorem d_P_jump_59 : decode b_P_jump 59 = .ok (.iload 5, 2) := by decide +kernel
theorem d_P_jump_61 : decode b_P_jump 61 = .ok (.ifCond .ne 5, 3) := by decide +kernel
theorem d_P_jump_64 : decode b_P_jump 64 = .ok (.iconst 0, 1) := by decide +kernel
theorem d_P_jump_65 : decode b_P_jump 65 = .ok (.ireturn, 1) := by decide +kernel
theorem d_P_jump_66 : decode b_P_jump 66 = .ok (.aload_n 0, 1) := by decide +kernel
theorem d_P_jump_67 : decode b_P_jump 67 = .ok (.getfield 21, 3) := by decide +kernel
theorem d_P_jump_70 : decode b_P_jump 70 = .ok (.dup, 1) := by decide +kernel
theorem d_P_jump_71 : decode b_P_jump 71 = .ok (.getfield 67, 3) := by decide +kernel
theorem d_P_jump_74 : decode b_P_jump 74 = .ok (.iload_n 2, 1) := by decide +kernel
theorem d_P_jump_75 : decode b_P_jump 75 = .ok (.invokestatic 131, 3) := by decide +kernel
theorem d_P_jump_78 : decode b_P_jump 78 = .ok (.iadd, 1) := by decide +kernel
theorem d_P_jump_79 : decode b_P_jump 79 = .ok (.putfield 67, 3) := by decide +kernel
theorem d_P_jump_82 : decode b_P_jump 82 = .ok (.iconst 1, 1) := by decide +kernel
theorem d_P_jump_83 : decode b_P_jump 83 = .ok (.ireturn, 1) := by decide +kernel
theorem d_P_keepLower_0 : decode b_P_keepLower 0 = .ok (.aload_n 0, 1) := by decide +kernel
theorem d_P_keepLower_1 : decode b_P_keepLower 1 = .ok (.getfield 21, 3) := by decide +kernel
theorem d_P_keepLower_4 : decode b_P_keepLower 4 = .ok (.aload_n 0, 1) := by decide +kernel
theorem d_P_keepLower_5 : decode b_P_keepLower 5 = .ok (.getfield 12, 3) := by decide +kernel
theorem d_P_keepLower_8 : decode b_P_keepLower 8 = .ok (.iconst 0, 1) := by decide +kernel
theorem d_P_keepLower_9 : decode b_P_keepLower 9 = .ok (.invokevirtual 87, 3) := by decide +kernel
theorem d_P_keepLower_12 : decode b_P_keepLower 12 = .ok (.ifCond .eq 7, 3) := by decide +kernel
theorem d_P_keepLower_15 : decode b_P_keepLower 15 = .ok (.iconst 0, 1) := by decide +kernel
theorem d_P_keepLower_16 : decode b_P_keepLower 16 = .ok (.goto 4, 3) := by decide +kernel
theorem d_P_keepLower_19 : decode b_P_keepLower 19 = .ok (.iconst 2, 1) := by decide +kernel
theorem d_P_keepLower_20 : decode b_P_keepLower 20 = .ok (.ireturn, 1) := by decide +kernel
theorem d_P_moveWord_0 : decode b_P_moveWord 0 = .ok (.iload_n 2, 1) := by decide +kernel
theorem d_P_moveWord_1 : decode b_P_moveWord 1 = .ok (.invokestatic 178, 3) := by decide +kernel
theorem d_P_moveWord_4 : decode b_P_moveWord 4 = .ok (.istore_n 3, 1) := by decide +kernel
theorem d_P_moveWord_5 : decode b_P_moveWord 5 = .ok (.iload_n 2, 1) := by decide +kernel
theorem d_P_moveWord_6 : decode b_P_moveWord 6 = .ok (.invokestatic 131, 3) := by decide +kernel
theorem d_P_moveWord_9 : decode b_P_moveWord 9 = .ok (.istore 4, 2) := by decide +kernel
theorem d_P_moveWord_11 : decode b_P_moveWord 11 = .ok (.iload_n 1, 1) := by decide +kernel
theorem d_P_moveWord_12 : decode b_P_moveWord 12 = .ok (.bipush 14, 2) := by decide +kernel
theorem d_P_moveWord_14 : decode b_P_moveWord 14 = .ok (.if_icmp .eq 9, 3) := by decide +kernel
theorem d_P_moveWord_17 : decode b_P_moveWord 17 = .ok (.iload_n 1, 1) := by decide +kernel
theorem d_P_moveWord_18 : decode b_P_moveWord 18 = .ok (.bipush 16, 2) := by decide +kernel
theorem d_P_moveWord_20 : decode b_P_moveWord 20 = .ok (.if_icmp .ne 7, 3) := by decide +kernel
theorem d_P_moveWord_23 : decode b_P_moveWord 23 = .ok (.iconst 1, 1) := by decide +kernel
theorem d_P_moveWord_24 : decode b_P_moveWord 24 = .ok (.goto 4, 3) := by decide +kernel
theorem d_P_moveWord_27 : decode b_P_moveWord 27 = .ok (.iconst 0, 1) := by decide +kernel
theorem d_P_moveWord_28 : decode b_P_moveWord 28 = .ok (.istore 5, 2) := by decide +kernel
