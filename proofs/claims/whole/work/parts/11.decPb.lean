theorem d_P_moveWord_30 : decode b_P_moveWord 30 = .ok (.iload_n 1, 1) := by decide +kernel
theorem d_P_moveWord_31 : decode b_P_moveWord 31 = .ok (.bipush 15, 2) := by decide +kernel
theorem d_P_moveWord_33 : decode b_P_moveWord 33 = .ok (.if_icmp .lt 7, 3) := by decide +kernel
theorem d_P_moveWord_36 : decode b_P_moveWord 36 = .ok (.iconst 1, 1) := by decide +kernel
theorem d_P_moveWord_37 : decode b_P_moveWord 37 = .ok (.goto 4, 3) := by decide +kernel
theorem d_P_moveWord_40 : decode b_P_moveWord 40 = .ok (.iconst 0, 1) := by decide +kernel
theorem d_P_moveWord_41 : decode b_P_moveWord 41 = .ok (.istore 6, 2) := by decide +kernel
theorem d_P_moveWord_43 : decode b_P_moveWord 43 = .ok (.iload 6, 2) := by decide +kernel
theorem d_P_moveWord_45 : decode b_P_moveWord 45 = .ok (.ifCond .eq 15, 3) := by decide +kernel
theorem d_P_moveWord_48 : decode b_P_moveWord 48 = .ok (.aload_n 0, 1) := by decide +kernel
theorem d_P_moveWord_49 : decode b_P_moveWord 49 = .ok (.getfield 21, 3) := by decide +kernel
theorem d_P_moveWord_52 : decode b_P_moveWord 52 = .ok (.getfield 172, 3) := by decide +kernel
theorem d_P_moveWord_55 : decode b_P_moveWord 55 = .ok (.iload_n 3, 1) := by decide +kernel
theorem d_P_moveWord_56 : decode b_P_moveWord 56 = .ok (.iaload, 1) := by decide +kernel
theorem d_P_moveWord_57 : decode b_P_moveWord 57 = .ok (.goto 15, 3) := by decide +kernel
theorem d_P_moveWord_60 : decode b_P_moveWord 60 = .ok (.aload_n 0, 1) := by decide +kernel
theorem d_P_moveWord_61 : decode b_P_moveWord 61 = .ok (.getfield 21, 3) := by decide +kernel
theorem d_P_moveWord_64 : decode b_P_moveWord 64 = .ok (.getfield 172, 3) := by decide +kernel
theorem d_P_moveWord_67 : decode b_P_moveWord 67 = .ok (.iload_n 3, 1) := by decide +kernel
theorem d_P_moveWord_68 : decode b_P_moveWord 68 = .ok (.iaload, 1) := by decide +kernel
theorem d_P_moveWord_69 : decode b_P_moveWord 69 = .ok (.iload 4, 2) := by decide +kernel
theorem d_P_moveWord_71 : decode b_P_moveWord 71 = .ok (.iadd, 1) := by decide +kernel
theorem d_P_moveWord_72 : decode b_P_moveWord 72 = .ok (.istore 7, 2) := by decide +kernel
theorem d_P_moveWord_74 : decode b_P_moveWord 74 = .ok (.aload_n 0, 1) := by decide +kernel
theorem d_P_moveWord_75 : decode b_P_moveWord 75 = .ok (.iload 7, 2) := by decide +kernel
theorem d_P_moveWord_77 : decode b_P_moveWord 77 = .ok (.iload 5, 2) := by decide +kernel
theorem d_P_moveWord_79 : decode b_P_moveWord 79 = .ok (.ifCond .eq 7, 3) := by decide +kernel
theorem d_P_moveWord_82 : decode b_P_moveWord 82 = .ok (.iconst 2, 1) := by decide +kernel
theorem d_P_moveWord_83 : decode b_P_moveWord 83 = .ok (.goto 4, 3) := by decide +kernel
theorem d_P_moveWord_86 : decode b_P_moveWord 86 = .ok (.iconst 1, 1) := by decide +kernel
theorem d_P_moveWord_87 : decode b_P_moveWord 87 = .ok (.invokevirtual 188, 3) := by decide +kernel
theorem d_P_moveWord_90 : decode b_P_moveWord 90 = .ok (.istore 8, 2) := by decide +kernel
theorem d_P_moveWord_92 : decode b_P_moveWord 92 = .ok (.iload 8, 2) := by decide +kernel
theorem d_P_moveWord_94 : decode b_P_moveWord 94 = .ok (.ifCond .eq 6, 3) := by decide +kernel
theorem d_P_moveWord_97 : decode b_P_moveWord 97 = .ok (.iload 8, 2) := by decide +kernel
theorem d_P_moveWord_99 : decode b_P_moveWord 99 = .ok (.ireturn, 1) := by decide +kernel
theorem d_P_moveWord_100 : decode b_P_moveWord 100 = .ok (.iload 5, 2) := by decide +kernel
theorem d_P_moveWord_102 : decode b_P_moveWord 102 = .ok (.ifCond .eq 27, 3) := by decide +kernel
theorem d_P_moveWord_105 : decode b_P_moveWord 105 = .ok (.aload_n 0, 1) := by decide +kernel
theorem d_P_moveWord_106 : decode b_P_moveWord 106 = .ok (.getfield 12, 3) := by decide +kernel
theorem d_P_moveWord_109 : decode b_P_moveWord 109 = .ok (.iload 7, 2) := by decide +kernel
theorem d_P_moveWord_111 : decode b_P_moveWord 111 = .ok (.aload_n 0, 1) := by decide +kernel
theorem d_P_moveWord_112 : decode b_P_moveWord 112 = .ok (.getfield 21, 3) := by decide +kernel
theorem d_P_moveWord_115 : decode b_P_moveWord 115 = .ok (.getfield 103, 3) := by decide +kernel
theorem d_P_moveWord_118 : decode b_P_moveWord 118 = .ok (.iload_n 2, 1) := by decide +kernel
theorem d_P_moveWord_119 : decode b_P_moveWord 119 = .ok (.invokestatic 175, 3) := by decide +kernel
theorem d_P_moveWord_122 : decode b_P_moveWord 122 = .ok (.iaload, 1) := by decide +kernel
theorem d_P_moveWord_123 : decode b_P_moveWord 123 = .ok (.invokevirtual 191, 3) := by decide +kernel
theorem d_P_moveWord_126 : decode b_P_moveWord 126 = .ok (.goto 24, 3) := by decide +kernel
theorem d_P_moveWord_129 : decode b_P_moveWord 129 = .ok (.aload_n 0, 1) := by decide +kernel
theorem d_P_moveWord_130 : decode b_P_moveWord 130 = .ok (.getfield 21, 3) := by decide +kernel
theorem d_P_moveWord_133 : decode b_P_moveWord 133 = .ok (.getfield 103, 3) := by decide +kernel
theorem d_P_moveWord_136 : decode b_P_moveWord 136 = .ok (.iload_n 2, 1) := by decide +kernel
theorem d_P_moveWord_137 : decode b_P_moveWord 137 = .ok (.invokestatic 175, 3) := by decide +kernel
theorem d_P_moveWord_140 : decode b_P_moveWord 140 = .ok (.aload_n 0, 1) := by decide +kernel
theorem d_P_moveWord_141 : decode b_P_moveWord 141 = .ok (.getfield 12, 3) := by decide +kernel
theorem d_P_moveWord_144 : decode b_P_moveWord 144 = .ok (.iload 7, 2) := by decide +kernel
theorem d_P_moveWord_146 : decode b_P_moveWord 146 = .ok (.invokevirtual 70, 3) := by decide +kernel
theorem d_P_moveWord_149 : decode b_P_moveWord 149 = .ok (.iastore, 1) := by decide +kernel
theorem d_P_moveWord_150 : decode b_P_moveWord 150 = .ok (.iload 6, 2) := by decide +kernel
theorem d_P_moveWord_152 : decode b_P_moveWord 152 = .ok (.ifCond .eq 17, 3) := by decide +kernel
theorem d_P_moveWord_155 : decode b_P_moveWord 155 = .ok (.aload_n 0, 1) := by decide +kernel
theorem d_P_moveWord_156 : decode b_P_moveWord 156 = .ok (.getfield 21, 3) := by decide +kernel
theorem d_P_moveWord_159 : decode b_P_moveWord 159 = .ok (.getfield 172, 3) := by decide +kernel
theorem d_P_moveWord_162 : decode b_P_moveWord 162 = .ok (.iload_n 3, 1) := by decide +kernel
theorem d_P_moveWord_163 : decode b_P_moveWord 163 = .ok (.dup2, 1) := by decide +kernel
theorem d_P_moveWord_164 : decode b_P_moveWord 164 = .ok (.iaload, 1) := by decide +kernel
theorem d_P_moveWord_165 : decode b_P_moveWord 165 = .ok (.iload 4, 2) := by decide +kernel
theorem d_P_moveWord_167 : decode b_P_moveWord 167 = .ok (.iadd, 1) := by decide +kernel
theorem d_P_moveWord_168 : decode b_P_moveWord 168 = .ok (.iastore, 1) := by decide +kernel
theorem d_P_moveWord_169 : decode b_P_moveWord 169 = .ok (.iconst 0, 1) := by decide +kernel
theorem d_P_moveWord_170 : decode b_P_moveWord 170 = .ok (.ireturn, 1) := by decide +kernel
theorem d_P_needsTopLevel_0 : decode b_P_needsTopLevel 0 = .ok (.iload_n 0, 1) := by decide +kernel
theorem d_P_needsTopLevel_1 : decode b_P_needsTopLevel 1 = .ok (.bipush 25, 2) := by decide +kernel
theorem d_P_needsTopLevel_3 : decode b_P_needsTopLevel 3 = .ok (.if_icmp .eq 27, 3) := by decide +kernel
theorem d_P_needsTopLevel_6 : decode b_P_needsTopLevel 6 = .ok (.iload_n 0, 1) := by decide +kernel
theorem d_P_needsTopLevel_7 : decode b_P_needsTopLevel 7 = .ok (.bipush 26, 2) := by decide +kernel
theorem d_P_needsTopLevel_9 : decode b_P_needsTopLevel 9 = .ok (.if_icmp .eq 21, 3) := by decide +kernel
theorem d_P_needsTopLevel_12 : decode b_P_needsTopLevel 12 = .ok (.iload_n 0, 1) := by decide +kernel
theorem d_P_needsTopLevel_13 : decode b_P_needsTopLevel 13 = .ok (.bipush 28, 2) := by decide +kernel
theorem d_P_needsTopLevel_15 : decode b_P_needsTopLevel 15 = .ok (.if_icmp .eq 15, 3) := by decide +kernel
theorem d_P_needsTopLevel_18 : decode b_P_needsTopLevel 18 = .ok (.iload_n 0, 1) := by decide +kernel
theorem d_P_needsTopLevel_19 : decode b_P_needsTopLevel 19 = .ok (.bipush 29, 2) := by decide +kernel
theorem d_P_needsTopLevel_21 : decode b_P_needsTopLevel 21 = .ok (.if_icmp .eq 9, 3) := by decide +kernel
theorem d_P_needsTopLevel_24 : decode b_P_needsTopLevel 24 = .ok (.iload_n 0, 1) := by decide +kernel
theorem d_P_needsTopLevel_25 : decode b_P_needsTopLevel 25 = .ok (.bipush 31, 2) := by decide +kernel
theorem d_P_needsTopLevel_27 : decode b_P_needsTopLevel 27 = .ok (.if_icmp .ne 7, 3) := by decide +kernel
theorem d_P_needsTopLevel_30 : decode b_P_needsTopLevel 30 = .ok (.iconst 1, 1) := by decide +kernel
theorem d_P_needsTopLevel_31 : decode b_P_needsTopLevel 31 = .ok (.goto 4, 3) := by decide +kernel
theorem d_P_needsTopLevel_34 : decode b_P_needsTopLevel 34 = .ok (.iconst 0, 1) := by decide +kernel
theorem d_P_needsTopLevel_35 : decode b_P_needsTopLevel 35 = .ok (.ireturn, 1) := by decide +kernel
theorem d_P_openHandler_0 : decode b_P_openHandler 0 = .ok (.aload_n 0, 1) := by decide +kernel
theorem d_P_openHandler_1 : decode b_P_openHandler 1 = .ok (.getfield 21, 3) := by decide +kernel
theorem d_P_openHandler_4 : decode b_P_openHandler 4 = .ok (.aload_n 0, 1) := by decide +kernel
theorem d_P_openHandler_5 : decode b_P_openHandler 5 = .ok (.getfield 12, 3) := by decide +kernel
theorem d_P_openHandler_8 : decode b_P_openHandler 8 = .ok (.iconst 0, 1) := by decide +kernel
theorem d_P_openHandler_9 : decode b_P_openHandler 9 = .ok (.invokevirtual 87, 3) := by decide +kernel
theorem d_P_openHandler_12 : decode b_P_openHandler 12 = .ok (.ifCond .ne 5, 3) := by decide +kernel
theorem d_P_openHandler_15 : decode b_P_openHandler 15 = .ok (.iconst 2, 1) := by decide +kernel
theorem d_P_openHandler_16 : decode b_P_openHandler 16 = .ok (.ireturn, 1) := by decide +kernel
theorem d_P_openHandler_17 : decode b_P_openHandler 17 = .ok (.aload_n 0, 1) := by decide +kernel
theorem d_P_openHandler_18 : decode b_P_openHandler 18 = .ok (.getfield 21, 3) := by decide +kernel
theorem d_P_openHandler_21 : decode b_P_openHandler 21 = .ok (.iload_n 1, 1) := by decide +kernel
theorem d_P_openHandler_22 : decode b_P_openHandler 22 = .ok (.putfield 57, 3) := by decide +kernel
theorem d_P_openHandler_25 : decode b_P_openHandler 25 = .ok (.aload_n 0, 1) := by decide +kernel
theorem d_P_openHandler_26 : decode b_P_openHandler 26 = .ok (.getfield 21, 3) := by decide +kernel
theorem d_P_openHandler_29 : decode b_P_openHandler 29 = .ok (.iconst 1, 1) := by decide +kernel
theorem d_P_openHandler_30 : decode b_P_openHandler 30 = .ok (.putfield 50, 3) := by decide +kernel
theorem d_P_openHandler_33 : decode b_P_openHandler 33 = .ok (.iconst 0, 1) := by decide +kernel
theorem d_P_openHandler_34 : decode b_P_openHandler 34 = .ok (.ireturn, 1) := by decide +kernel
theorem d_P_perform_0 : decode b_P_perform 0 = .ok (.iload_n 1, 1) := by decide +kernel
theorem d_P_perform_1 : decode b_P_perform 1 = .ok (.bipush 31, 2) := by decide +kernel
theorem d_P_perform_3 : decode b_P_perform 3 = .ok (.iand, 1) := by decide +kernel
theorem d_P_perform_4 : decode b_P_perform 4 = .ok (.istore_n 2, 1) := by decide +kernel
theorem d_P_perform_5 : decode b_P_perform 5 = .ok (.iload_n 1, 1) := by decide +kernel
theorem d_P_perform_6 : decode b_P_perform 6 = .ok (.invokestatic 131, 3) := by decide +kernel
theorem d_P_perform_9 : decode b_P_perform 9 = .ok (.istore_n 3, 1) := by decide +kernel
theorem d_P_perform_10 : decode b_P_perform 10 = .ok (.iload_n 2, 1) := by decide +kernel
theorem d_P_perform_11 : decode b_P_perform 11 = .ok (.invokestatic 134, 3) := by decide +kernel
theorem d_P_perform_14 : decode b_P_perform 14 = .ok (.ifCond .eq 18, 3) := by decide +kernel
theorem d_P_perform_17 : decode b_P_perform 17 = .ok (.aload_n 0, 1) := by decide +kernel
theorem d_P_perform_18 : decode b_P_perform 18 = .ok (.getfield 21, 3) := by decide +kernel
theorem d_P_perform_21 : decode b_P_perform 21 = .ok (.getfield 113, 3) := by decide +kernel
theorem d_P_perform_24 : decode b_P_perform 24 = .ok (.iconst 2, 1) := by decide +kernel
theorem d_P_perform_25 : decode b_P_perform 25 = .ok (.if_icmp .eq 7, 3) := by decide +kernel
theorem d_P_perform_28 : decode b_P_perform 28 = .ok (.sipush 257, 3) := by decide +kernel
theorem d_P_perform_31 : decode b_P_perform 31 = .ok (.ireturn, 1) := by decide +kernel
theorem d_P_perform_32 : decode b_P_perform 32 = .ok (.iload_n 2, 1) := by decide +kernel
theorem d_P_perform_33 : decode b_P_perform 33 = .ok (.tableswitch 273 0 31 #[143, 273, 273, 273, 273, 273, 273, 273, 273, 273, 273, 273, 273, 147, 147, 147, 147, 154, 160, 160, 160, 167, 173, 195, 200, 205, 214, 220, 230, 251, 263, 271], 143) := by decide +kernel
theorem d_P_perform_176 : decode b_P_perform 176 = .ok (.sipush 513, 3) := by decide +kernel
theorem d_P_perform_179 : decode b_P_perform 179 = .ok (.ireturn, 1) := by decide +kernel
theorem d_P_perform_180 : decode b_P_perform 180 = .ok (.aload_n 0, 1) := by decide +kernel
theorem d_P_perform_181 : decode b_P_perform 181 = .ok (.iload_n 2, 1) := by decide +kernel
theorem d_P_perform_182 : decode b_P_perform 182 = .ok (.iload_n 1, 1) := by decide +kernel
theorem d_P_perform_183 : decode b_P_perform 183 = .ok (.invokevirtual 137, 3) := by decide +kernel
theorem d_P_perform_186 : decode b_P_perform 186 = .ok (.ireturn, 1) := by decide +kernel
theorem d_P_perform_187 : decode b_P_perform 187 = .ok (.aload_n 0, 1) := by decide +kernel
theorem d_P_perform_188 : decode b_P_perform 188 = .ok (.iload_n 1, 1) := by decide +kernel
theorem d_P_perform_189 : decode b_P_perform 189 = .ok (.invokevirtual 141, 3) := by decide +kernel
theorem d_P_perform_192 : decode b_P_perform 192 = .ok (.ireturn, 1) := by decide +kernel
theorem d_P_perform_193 : decode b_P_perform 193 = .ok (.aload_n 0, 1) := by decide +kernel
theorem d_P_perform_194 : decode b_P_perform 194 = .ok (.iload_n 2, 1) := by decide +kernel
theorem d_P_perform_195 : decode b_P_perform 195 = .ok (.iload_n 1, 1) := by decide +kernel
theorem d_P_perform_196 : decode b_P_perform 196 = .ok (.invokevirtual 144, 3) := by decide +kernel
theorem d_P_perform_199 : decode b_P_perform 199 = .ok (.ireturn, 1) := by decide +kernel
theorem d_P_perform_200 : decode b_P_perform 200 = .ok (.aload_n 0, 1) := by decide +kernel
theorem d_P_perform_201 : decode b_P_perform 201 = .ok (.iload_n 3, 1) := by decide +kernel
theorem d_P_perform_202 : decode b_P_perform 202 = .ok (.invokevirtual 147, 3) := by decide +kernel
theorem d_P_perform_205 : decode b_P_perform 205 = .ok (.ireturn, 1) := by decide +kernel
theorem d_P_perform_206 : decode b_P_perform 206 = .ok (.aload_n 0, 1) := by decide +kernel
theorem d_P_perform_207 : decode b_P_perform 207 = .ok (.getfield 21, 3) := by decide +kernel
theorem d_P_perform_210 : decode b_P_perform 210 = .ok (.getfield 150, 3) := by decide +kernel
theorem d_P_perform_213 : decode b_P_perform 213 = .ok (.ifCond .ne 9, 3) := by decide +kernel
theorem d_P_perform_216 : decode b_P_perform 216 = .ok (.sipush 771, 3) := by decide +kernel
theorem d_P_perform_219 : decode b_P_perform 219 = .ok (.goto 8, 3) := by decide +kernel
theorem d_P_perform_222 : decode b_P_perform 222 = .ok (.aload_n 0, 1) := by decide +kernel
theorem d_P_perform_223 : decode b_P_perform 223 = .ok (.iconst 0, 1) := by decide +kernel
theorem d_P_perform_224 : decode b_P_perform 224 = .ok (.invokevirtual 153, 3) := by decide +kernel
theorem d_P_perform_227 : decode b_P_perform 227 = .ok (.ireturn, 1) := by decide +kernel
theorem d_P_perform_228 : decode b_P_perform 228 = .ok (.aload_n 0, 1) := by decide +kernel
theorem d_P_perform_229 : decode b_P_perform 229 = .ok (.invokevirtual 157, 3) := by decide +kernel
theorem d_P_perform_232 : decode b_P_perform 232 = .ok (.ireturn, 1) := by decide +kernel
theorem d_P_perform_233 : decode b_P_perform 233 = .ok (.aload_n 0, 1) := by decide +kernel
theorem d_P_perform_234 : decode b_P_perform 234 = .ok (.invokevirtual 160, 3) := by decide +kernel
theorem d_P_perform_237 : decode b_P_perform 237 = .ok (.ireturn, 1) := by decide +kernel
theorem d_P_perform_238 : decode b_P_perform 238 = .ok (.aload_n 0, 1) := by decide +kernel
theorem d_P_perform_239 : decode b_P_perform 239 = .ok (.iload_n 3, 1) := by decide +kernel
theorem d_P_perform_240 : decode b_P_perform 240 = .ok (.bipush 15, 2) := by decide +kernel
theorem d_P_perform_242 : decode b_P_perform 242 = .ok (.iand, 1) := by decide +kernel
theorem d_P_perform_243 : decode b_P_perform 243 = .ok (.invokevirtual 163, 3) := by decide +kernel
theorem d_P_perform_246 : decode b_P_perform 246 = .ok (.ireturn, 1) := by decide +kernel
theorem d_P_perform_247 : decode b_P_perform 247 = .ok (.aload_n 0, 1) := by decide +kernel
theorem d_P_perform_248 : decode b_P_perform 248 = .ok (.iconst 1, 1) := by decide +kernel
theorem d_P_perform_249 : decode b_P_perform 249 = .ok (.invokevirtual 153, 3) := by decide +kernel
theorem d_P_perform_252 : decode b_P_perform 252 = .ok (.ireturn, 1) := by decide +kernel
theorem d_P_perform_253 : decode b_P_perform 253 = .ok (.sipush 1536, 3) := by decide +kernel
theorem d_P_perform_256 : decode b_P_perform 256 = .ok (.iload_n 3, 1) := by decide +kernel
theorem d_P_perform_257 : decode b_P_perform 257 = .ok (.sipush 255, 3) := by decide +kernel
theorem d_P_perform_260 : decode b_P_perform 260 = .ok (.iand, 1) := by decide +kernel
theorem d_P_perform_261 : decode b_P_perform 261 = .ok (.iadd, 1) := by decide +kernel
theorem d_P_perform_262 : decode b_P_perform 262 = .ok (.ireturn, 1) := by decide +kernel
theorem d_P_perform_263 : decode b_P_perform 263 = .ok (.aload_n 0, 1) := by decide +kernel
theorem d_P_perform_264 : decode b_P_perform 264 = .ok (.getfield 21, 3) := by decide +kernel
theorem d_P_perform_267 : decode b_P_perform 267 = .ok (.iload_n 3, 1) := by decide +kernel
theorem d_P_perform_268 : decode b_P_perform 268 = .ok (.iconst 1, 1) := by decide +kernel
theorem d_P_perform_269 : decode b_P_perform 269 = .ok (.iand, 1) := by decide +kernel
theorem d_P_perform_270 : decode b_P_perform 270 = .ok (.iconst 1, 1) := by decide +kernel
theorem d_P_perform_271 : decode b_P_perform 271 = .ok (.if_icmp .ne 7, 3) := by decide +kernel
theorem d_P_perform_274 : decode b_P_perform 274 = .ok (.iconst 1, 1) := by decide +kernel
theorem d_P_perform_275 : decode b_P_perform 275 = .ok (.goto 4, 3) := by decide +kernel
theorem d_P_perform_278 : decode b_P_perform 278 = .ok (.iconst 0, 1) := by decide +kernel
theorem d_P_perform_279 : decode b_P_perform 279 = .ok (.putfield 50, 3) := by decide +kernel
theorem d_P_perform_282 : decode b_P_perform 282 = .ok (.iconst 0, 1) := by decide +kernel
theorem d_P_perform_283 : decode b_P_perform 283 = .ok (.ireturn, 1) := by decide +kernel
theorem d_P_perform_284 : decode b_P_perform 284 = .ok (.aload_n 0, 1) := by decide +kernel
theorem d_P_perform_285 : decode b_P_perform 285 = .ok (.getfield 21, 3) := by decide +kernel
theorem d_P_perform_288 : decode b_P_perform 288 = .ok (.iload_n 3, 1) := by decide +kernel
theorem d_P_perform_289 : decode b_P_perform 289 = .ok (.iconst 1, 1) := by decide +kernel
theorem d_P_perform_290 : decode b_P_perform 290 = .ok (.iand, 1) := by decide +kernel
theorem d_P_perform_291 : decode b_P_perform 291 = .ok (.putfield 124, 3) := by decide +kernel
theorem d_P_perform_294 : decode b_P_perform 294 = .ok (.iconst 0, 1) := by decide +kernel
theorem d_P_perform_295 : decode b_P_perform 295 = .ok (.ireturn, 1) := by decide +kernel
theorem d_P_perform_296 : decode b_P_perform 296 = .ok (.aload_n 0, 1) := by decide +kernel
theorem d_P_perform_297 : decode b_P_perform 297 = .ok (.iload_n 3, 1) := by decide +kernel
theorem d_P_perform_298 : decode b_P_perform 298 = .ok (.iconst 1, 1) := by decide +kernel
theorem d_P_perform_299 : decode b_P_perform 299 = .ok (.iand, 1) := by decide +kernel
theorem d_P_perform_300 : decode b_P_perform 300 = .ok (.invokevirtual 166, 3) := by decide +kernel
theorem d_P_perform_303 : decode b_P_perform 303 = .ok (.ireturn, 1) := by decide +kernel
theorem d_P_perform_304 : decode b_P_perform 304 = .ok (.iconst 2, 1) := by decide +kernel
theorem d_P_perform_305 : decode b_P_perform 305 = .ok (.ireturn, 1) := by decide +kernel
theorem d_P_perform_306 : decode b_P_perform 306 = .ok (.aload_n 0, 1) := by decide +kernel
theorem d_P_perform_307 : decode b_P_perform 307 = .ok (.iload_n 2, 1) := by decide +kernel
theorem d_P_perform_308 : decode b_P_perform 308 = .ok (.iload_n 1, 1) := by decide +kernel
theorem d_P_perform_309 : decode b_P_perform 309 = .ok (.invokevirtual 169, 3) := by decide +kernel
theorem d_P_perform_312 : decode b_P_perform 312 = .ok (.ireturn, 1) := by decide +kernel
theorem d_P_readRing_0 : decode b_P_readRing 0 = .ok (.iload_n 1, 1) := by decide +kernel
theorem d_P_readRing_1 : decode b_P_readRing 1 = .ok (.invokestatic 178, 3) := by decide +kernel
theorem d_P_readRing_4 : decode b_P_readRing 4 = .ok (.istore_n 2, 1) := by decide +kernel
theorem d_P_readRing_5 : decode b_P_readRing 5 = .ok (.iload_n 2, 1) := by decide +kernel
theorem d_P_readRing_6 : decode b_P_readRing 6 = .ok (.iconst 1, 1) := by decide +kernel
theorem d_P_readRing_7 : decode b_P_readRing 7 = .ok (.iadd, 1) := by decide +kernel
theorem d_P_readRing_8 : decode b_P_readRing 8 = .ok (.bipush 7, 2) := by decide +kernel
theorem d_P_readRing_10 : decode b_P_readRing 10 = .ok (.iand, 1) := by decide +kernel
theorem d_P_readRing_11 : decode b_P_readRing 11 = .ok (.istore_n 3, 1) := by decide +kernel
theorem d_P_readRing_12 : decode b_P_readRing 12 = .ok (.aload_n 0, 1) := by decide +kernel
theorem d_P_readRing_13 : decode b_P_readRing 13 = .ok (.getfield 21, 3) := by decide +kernel
theorem d_P_readRing_16 : decode b_P_readRing 16 = .ok (.getfield 172, 3) := by decide +kernel
theorem d_P_readRing_19 : decode b_P_readRing 19 = .ok (.iload_n 3, 1) := by decide +kernel
theorem d_P_readRing_20 : decode b_P_readRing 20 = .ok (.iaload, 1) := by decide +kernel
theorem d_P_readRing_21 : decode b_P_readRing 21 = .ok (.ldc 194, 2) := by decide +kernel
theorem d_P_readRing_23 : decode b_P_readRing 23 = .ok (.iand, 1) := by decide +kernel
theorem d_P_readRing_24 : decode b_P_readRing 24 = .ok (.istore 4, 2) := by decide +kernel
theorem d_P_readRing_26 : decode b_P_readRing 26 = .ok (.aload_n 0, 1) := by decide +kernel
theorem d_P_readRing_27 : decode b_P_readRing 27 = .ok (.getfield 21, 3) := by decide +kernel
theorem d_P_readRing_30 : decode b_P_readRing 30 = .ok (.getfield 172, 3) := by decide +kernel
theorem d_P_readRing_33 : decode b_P_readRing 33 = .ok (.iload_n 3, 1) := by decide +kernel
theorem d_P_readRing_34 : decode b_P_readRing 34 = .ok (.iaload, 1) := by decide +kernel
theorem d_P_readRing_35 : decode b_P_readRing 35 = .ok (.bipush 16, 2) := by decide +kernel
theorem d_P_readRing_37 : decode b_P_readRing 37 = .ok (.iushr, 1) := by decide +kernel
theorem d_P_readRing_38 : decode b_P_readRing 38 = .ok (.istore 5, 2) := by decide +kernel
theorem d_P_readRing_40 : decode b_P_readRing 40 = .ok (.iload 5, 2) := by decide +kernel
theorem d_P_readRing_42 : decode b_P_readRing 42 = .ok (.ifCond .eq 10, 3) := by decide +kernel
theorem d_P_readRing_45 : decode b_P_readRing 45 = .ok (.iload 4, 2) := by decide +kernel
theorem d_P_readRing_47 : decode b_P_readRing 47 = .ok (.iload 5, 2) := by decide +kernel
theorem d_P_readRing_49 : decode b_P_readRing 49 = .ok (.if_icmp .lt 7, 3) := by decide +kernel
theorem d_P_readRing_52 : decode b_P_readRing 52 = .ok (.sipush 514, 3) := by decide +kernel
theorem d_P_readRing_55 : decode b_P_readRing 55 = .ok (.ireturn, 1) := by decide +kernel
theorem d_P_readRing_56 : decode b_P_readRing 56 = .ok (.aload_n 0, 1) := by decide +kernel
theorem d_P_readRing_57 : decode b_P_readRing 57 = .ok (.getfield 21, 3) := by decide +kernel
theorem d_P_readRing_60 : decode b_P_readRing 60 = .ok (.getfield 172, 3) := by decide +kernel
theorem d_P_readRing_63 : decode b_P_readRing 63 = .ok (.iload_n 2, 1) := by decide +kernel
theorem d_P_readRing_64 : decode b_P_readRing 64 = .ok (.iaload, 1) := by decide +kernel
theorem d_P_readRing_65 : decode b_P_readRing 65 = .ok (.iload 4, 2) := by decide +kernel
theorem d_P_readRing_67 : decode b_P_readRing 67 = .ok (.iadd, 1) := by decide +kernel
theorem d_P_readRing_68 : decode b_P_readRing 68 = .ok (.istore 6, 2) := by decide +kernel
theorem d_P_readRing_70 : decode b_P_readRing 70 = .ok (.aload_n 0, 1) := by decide +kernel
theorem d_P_readRing_71 : decode b_P_readRing 71 = .ok (.iload 6, 2) := by decide +kernel
theorem d_P_readRing_73 : decode b_P_readRing 73 = .ok (.iconst 1, 1) := by decide +kernel
theorem d_P_readRing_74 : decode b_P_readRing 74 = .ok (.invokevirtual 188, 3) := by decide +kernel
theorem d_P_readRing_77 : decode b_P_readRing 77 = .ok (.istore 7, 2) := by decide +kernel
theorem d_P_readRing_79 : decode b_P_readRing 79 = .ok (.iload 7, 2) := by decide +kernel
theorem d_P_readRing_81 : decode b_P_readRing 81 = .ok (.ifCond .eq 6, 3) := by decide +kernel
theorem d_P_readRing_84 : decode b_P_readRing 84 = .ok (.iload 7, 2) := by decide +kernel
theorem d_P_readRing_86 : decode b_P_readRing 86 = .ok (.ireturn, 1) := by decide +kernel
theorem d_P_readRing_87 : decode b_P_readRing 87 = .ok (.aload_n 0, 1) := by decide +kernel
theorem d_P_readRing_88 : decode b_P_readRing 88 = .ok (.getfield 21, 3) := by decide +kernel
theorem d_P_readRing_91 : decode b_P_readRing 91 = .ok (.getfield 103, 3) := by decide +kernel
theorem d_P_readRing_94 : decode b_P_readRing 94 = .ok (.iload_n 1, 1) := by decide +kernel
theorem d_P_readRing_95 : decode b_P_readRing 95 = .ok (.invokestatic 175, 3) := by decide +kernel
theorem d_P_readRing_98 : decode b_P_readRing 98 = .ok (.aload_n 0, 1) := by decide +kernel
theorem d_P_readRing_99 : decode b_P_readRing 99 = .ok (.getfield 12, 3) := by decide +kernel
theorem d_P_readRing_102 : decode b_P_readRing 102 = .ok (.iload 6, 2) := by decide +kernel
theorem d_P_readRing_104 : decode b_P_readRing 104 = .ok (.invokevirtual 70, 3) := by decide +kernel
theorem d_P_readRing_107 : decode b_P_readRing 107 = .ok (.iastore, 1) := by decide +kernel
theorem d_P_readRing_108 : decode b_P_readRing 108 = .ok (.aload_n 0, 1) := by decide +kernel
theorem d_P_readRing_109 : decode b_P_readRing 109 = .ok (.getfield 21, 3) := by decide +kernel
theorem d_P_readRing_112 : decode b_P_readRing 112 = .ok (.getfield 172, 3) := by decide +kernel
theorem d_P_readRing_115 : decode b_P_readRing 115 = .ok (.iload_n 3, 1) := by decide +kernel
theorem d_P_readRing_116 : decode b_P_readRing 116 = .ok (.iload 5, 2) := by decide +kernel
theorem d_P_readRing_118 : decode b_P_readRing 118 = .ok (.ldc 195, 2) := by decide +kernel
theorem d_P_readRing_120 : decode b_P_readRing 120 = .ok (.imul, 1) := by decide +kernel
theorem d_P_readRing_121 : decode b_P_readRing 121 = .ok (.iload 4, 2) := by decide +kernel
theorem d_P_readRing_123 : decode b_P_readRing 123 = .ok (.iload_n 1, 1) := by decide +kernel
theorem d_P_readRing_124 : decode b_P_readRing 124 = .ok (.invokestatic 131, 3) := by decide +kernel
theorem d_P_readRing_127 : decode b_P_readRing 127 = .ok (.iadd, 1) := by decide +kernel
theorem d_P_readRing_128 : decode b_P_readRing 128 = .ok (.iload 5, 2) := by decide +kernel
theorem d_P_readRing_130 : decode b_P_readRing 130 = .ok (.invokestatic 196, 3) := by decide +kernel
theorem d_P_readRing_133 : decode b_P_readRing 133 = .ok (.iadd, 1) := by decide +kernel
theorem d_P_readRing_134 : decode b_P_readRing 134 = .ok (.iastore, 1) := by decide +kernel
theorem d_P_readRing_135 : decode b_P_readRing 135 = .ok (.iconst 0, 1) := by decide +kernel
theorem d_P_readRing_136 : decode b_P_readRing 136 = .ok (.ireturn, 1) := by decide +kernel
theorem d_P_refuseFetch_0 : decode b_P_refuseFetch 0 = .ok (.aload_n 0, 1) := by decide +kernel
theorem d_P_refuseFetch_1 : decode b_P_refuseFetch 1 = .ok (.getfield 21, 3) := by decide +kernel
theorem d_P_refuseFetch_4 : decode b_P_refuseFetch 4 = .ok (.getfield 67, 3) := by decide +kernel
theorem d_P_refuseFetch_7 : decode b_P_refuseFetch 7 = .ok (.invokestatic 116, 3) := by decide +kernel
theorem d_P_refuseFetch_10 : decode b_P_refuseFetch 10 = .ok (.ifCond .ne 7, 3) := by decide +kernel
theorem d_P_refuseFetch_13 : decode b_P_refuseFetch 13 = .ok (.sipush 1025, 3) := by decide +kernel
theorem d_P_refuseFetch_16 : decode b_P_refuseFetch 16 = .ok (.ireturn, 1) := by decide +kernel
theorem d_P_refuseFetch_17 : decode b_P_refuseFetch 17 = .ok (.aload_n 0, 1) := by decide +kernel
theorem d_P_refuseFetch_18 : decode b_P_refuseFetch 18 = .ok (.invokevirtual 120, 3) := by decide +kernel
theorem d_P_refuseFetch_21 : decode b_P_refuseFetch 21 = .ok (.ifCond .eq 27, 3) := by decide +kernel
theorem d_P_refuseFetch_24 : decode b_P_refuseFetch 24 = .ok (.aload_n 0, 1) := by decide +kernel
theorem d_P_refuseFetch_25 : decode b_P_refuseFetch 25 = .ok (.getfield 28, 3) := by decide +kernel
theorem d_P_refuseFetch_28 : decode b_P_refuseFetch 28 = .ok (.aload_n 0, 1) := by decide +kernel
theorem d_P_refuseFetch_29 : decode b_P_refuseFetch 29 = .ok (.getfield 21, 3) := by decide +kernel
theorem d_P_refuseFetch_32 : decode b_P_refuseFetch 32 = .ok (.getfield 124, 3) := by decide +kernel
theorem d_P_refuseFetch_35 : decode b_P_refuseFetch 35 = .ok (.aload_n 0, 1) := by decide +kernel
theorem d_P_refuseFetch_36 : decode b_P_refuseFetch 36 = .ok (.getfield 21, 3) := by decide +kernel
theorem d_P_refuseFetch_39 : decode b_P_refuseFetch 39 = .ok (.getfield 67, 3) := by decide +kernel
theorem d_P_refuseFetch_42 : decode b_P_refuseFetch 42 = .ok (.invokevirtual 127, 3) := by decide +kernel
theorem d_P_refuseFetch_45 : decode b_P_refuseFetch 45 = .ok (.ifCond .eq 7, 3) := by decide +kernel
theorem d_P_refuseFetch_48 : decode b_P_refuseFetch 48 = .ok (.iconst 1, 1) := by decide +kernel
theorem d_P_refuseFetch_49 : decode b_P_refuseFetch 49 = .ok (.goto 4, 3) := by decide +kernel
theorem d_P_refuseFetch_52 : decode b_P_refuseFetch 52 = .ok (.iconst 0, 1) := by decide +kernel
theorem d_P_refuseFetch_53 : decode b_P_refuseFetch 53 = .ok (.istore_n 1, 1) := by decide +kernel
theorem d_P_refuseFetch_54 : decode b_P_refuseFetch 54 = .ok (.iload_n 1, 1) := by decide +kernel
theorem d_P_refuseFetch_55 : decode b_P_refuseFetch 55 = .ok (.ifCond .eq 7, 3) := by decide +kernel
theorem d_P_refuseFetch_58 : decode b_P_refuseFetch 58 = .ok (.iconst 0, 1) := by decide +kernel
theorem d_P_refuseFetch_59 : decode b_P_refuseFetch 59 = .ok (.goto 6, 3) := by decide +kernel
theorem d_P_refuseFetch_62 : decode b_P_refuseFetch 62 = .ok (.sipush 260, 3) := by decide +kernel
theorem d_P_refuseFetch_65 : decode b_P_refuseFetch 65 = .ok (.ireturn, 1) := by decide +kernel
theorem d_P_refuseWord_0 : decode b_P_refuseWord 0 = .ok (.iload_n 1, 1) := by decide +kernel
theorem d_P_refuseWord_1 : decode b_P_refuseWord 1 = .ok (.invokestatic 116, 3) := by decide +kernel
theorem d_P_refuseWord_4 : decode b_P_refuseWord 4 = .ok (.ifCond .ne 7, 3) := by decide +kernel
theorem d_P_refuseWord_7 : decode b_P_refuseWord 7 = .ok (.sipush 1025, 3) := by decide +kernel
theorem d_P_refuseWord_10 : decode b_P_refuseWord 10 = .ok (.ireturn, 1) := by decide +kernel
theorem d_P_refuseWord_11 : decode b_P_refuseWord 11 = .ok (.aload_n 0, 1) := by decide +kernel
theorem d_P_refuseWord_12 : decode b_P_refuseWord 12 = .ok (.invokevirtual 120, 3) := by decide +kernel
theorem d_P_refuseWord_15 : decode b_P_refuseWord 15 = .ok (.ifCond .eq 22, 3) := by decide +kernel
theorem d_P_refuseWord_18 : decode b_P_refuseWord 18 = .ok (.aload_n 0, 1) := by decide +kernel
theorem d_P_refuseWord_19 : decode b_P_refuseWord 19 = .ok (.getfield 28, 3) := by decide +kernel
theorem d_P_refuseWord_22 : decode b_P_refuseWord 22 = .ok (.aload_n 0, 1) := by decide +kernel
theorem d_P_refuseWord_23 : decode b_P_refuseWord 23 = .ok (.getfield 21, 3) := by decide +kernel
theorem d_P_refuseWord_26 : decode b_P_refuseWord 26 = .ok (.getfield 124, 3) := by decide +kernel
theorem d_P_refuseWord_29 : decode b_P_refuseWord 29 = .ok (.iload_n 1, 1) := by decide +kernel
theorem d_P_refuseWord_30 : decode b_P_refuseWord 30 = .ok (.iload_n 2, 1) := by decide +kernel
theorem d_P_refuseWord_31 : decode b_P_refuseWord 31 = .ok (.invokevirtual 184, 3) := by decide +kernel
theorem d_P_refuseWord_34 : decode b_P_refuseWord 34 = .ok (.ifCond .eq 5, 3) := by decide +kernel
theorem d_P_refuseWord_37 : decode b_P_refuseWord 37 = .ok (.iconst 0, 1) := by decide +kernel
theorem d_P_refuseWord_38 : decode b_P_refuseWord 38 = .ok (.ireturn, 1) := by decide +kernel
theorem d_P_refuseWord_39 : decode b_P_refuseWord 39 = .ok (.iload_n 2, 1) := by decide +kernel
theorem d_P_refuseWord_40 : decode b_P_refuseWord 40 = .ok (.iconst 1, 1) := by decide +kernel
theorem d_P_refuseWord_41 : decode b_P_refuseWord 41 = .ok (.if_icmp .ne 9, 3) := by decide +kernel
theorem d_P_refuseWord_44 : decode b_P_refuseWord 44 = .ok (.sipush 258, 3) := by decide +kernel
theorem d_P_refuseWord_47 : decode b_P_refuseWord 47 = .ok (.goto 6, 3) := by decide +kernel
theorem d_P_refuseWord_50 : decode b_P_refuseWord 50 = .ok (.sipush 259, 3) := by decide +kernel
theorem d_P_refuseWord_53 : decode b_P_refuseWord 53 = .ok (.ireturn, 1) := by decide +kernel
theorem d_P_step_0 : decode b_P_step 0 = .ok (.aload_n 0, 1) := by decide +kernel
theorem d_P_step_1 : decode b_P_step 1 = .ok (.getfield 35, 3) := by decide +kernel
theorem d_P_step_4 : decode b_P_step 4 = .ok (.invokevirtual 43, 3) := by decide +kernel
theorem d_P_step_7 : decode b_P_step 7 = .ok (.aload_n 0, 1) := by decide +kernel
theorem d_P_step_8 : decode b_P_step 8 = .ok (.getfield 21, 3) := by decide +kernel
theorem d_P_step_11 : decode b_P_step 11 = .ok (.iconst 0, 1) := by decide +kernel
theorem d_P_step_12 : decode b_P_step 12 = .ok (.putfield 46, 3) := by decide +kernel
theorem d_P_step_15 : decode b_P_step 15 = .ok (.aload_n 0, 1) := by decide +kernel
theorem d_P_step_16 : decode b_P_step 16 = .ok (.getfield 21, 3) := by decide +kernel
theorem d_P_step_19 : decode b_P_step 19 = .ok (.getfield 50, 3) := by decide +kernel
theorem d_P_step_22 : decode b_P_step 22 = .ok (.ifCond .eq 13, 3) := by decide +kernel
theorem d_P_step_25 : decode b_P_step 25 = .ok (.aload_n 0, 1) := by decide +kernel
theorem d_P_step_26 : decode b_P_step 26 = .ok (.getfield 35, 3) := by decide +kernel
theorem d_P_step_29 : decode b_P_step 29 = .ok (.invokevirtual 53, 3) := by decide +kernel
theorem d_P_step_32 : decode b_P_step 32 = .ok (.goto 4, 3) := by decide +kernel
theorem d_P_step_35 : decode b_P_step 35 = .ok (.iconst 0, 1) := by decide +kernel
theorem d_P_step_36 : decode b_P_step 36 = .ok (.istore_n 1, 1) := by decide +kernel
theorem d_P_step_37 : decode b_P_step 37 = .ok (.iload_n 1, 1) := by decide +kernel
theorem d_P_step_38 : decode b_P_step 38 = .ok (.aload_n 0, 1) := by decide +kernel
theorem d_P_step_39 : decode b_P_step 39 = .ok (.getfield 21, 3) := by decide +kernel
theorem d_P_step_42 : decode b_P_step 42 = .ok (.getfield 57, 3) := by decide +kernel
theorem d_P_step_45 : decode b_P_step 45 = .ok (.if_icmp .le 11, 3) := by decide +kernel
theorem d_P_step_48 : decode b_P_step 48 = .ok (.aload_n 0, 1) := by decide +kernel
theorem d_P_step_49 : decode b_P_step 49 = .ok (.iload_n 1, 1) := by decide +kernel
theorem d_P_step_50 : decode b_P_step 50 = .ok (.invokevirtual 60, 3) := by decide +kernel
theorem d_P_step_53 : decode b_P_step 53 = .ok (.goto 38, 3) := by decide +kernel
theorem d_P_step_56 : decode b_P_step 56 = .ok (.aload_n 0, 1) := by decide +kernel
theorem d_P_step_57 : decode b_P_step 57 = .ok (.invokevirtual 64, 3) := by decide +kernel
theorem d_P_step_60 : decode b_P_step 60 = .ok (.istore_n 2, 1) := by decide +kernel
theorem d_P_step_61 : decode b_P_step 61 = .ok (.aload_n 0, 1) := by decide +kernel
theorem d_P_step_62 : decode b_P_step 62 = .ok (.iload_n 2, 1) := by decide +kernel
theorem d_P_step_63 : decode b_P_step 63 = .ok (.ifCond .ne 24, 3) := by decide +kernel
theorem d_P_step_66 : decode b_P_step 66 = .ok (.aload_n 0, 1) := by decide +kernel
theorem d_P_step_67 : decode b_P_step 67 = .ok (.aload_n 0, 1) := by decide +kernel
theorem d_P_step_68 : decode b_P_step 68 = .ok (.getfield 12, 3) := by decide +kernel
theorem d_P_step_71 : decode b_P_step 71 = .ok (.aload_n 0, 1) := by decide +kernel
theorem d_P_step_72 : decode b_P_step 72 = .ok (.getfield 21, 3) := by decide +kernel
theorem d_P_step_75 : decode b_P_step 75 = .ok (.getfield 67, 3) := by decide +kernel
theorem d_P_step_78 : decode b_P_step 78 = .ok (.invokevirtual 70, 3) := by decide +kernel
theorem d_P_step_81 : decode b_P_step 81 = .ok (.invokevirtual 74, 3) := by decide +kernel
theorem d_P_step_84 : decode b_P_step 84 = .ok (.goto 4, 3) := by decide +kernel
theorem d_P_step_87 : decode b_P_step 87 = .ok (.iload_n 2, 1) := by decide +kernel
theorem d_P_step_88 : decode b_P_step 88 = .ok (.invokevirtual 77, 3) := by decide +kernel
theorem d_P_step_91 : decode b_P_step 91 = .ok (.aload_n 0, 1) := by decide +kernel
theorem d_P_step_92 : decode b_P_step 92 = .ok (.getfield 80, 3) := by decide +kernel
theorem d_P_step_95 : decode b_P_step 95 = .ok (.ifCond .eq 27, 3) := by decide +kernel
theorem d_P_step_98 : decode b_P_step 98 = .ok (.aload_n 0, 1) := by decide +kernel
theorem d_P_step_99 : decode b_P_step 99 = .ok (.getfield 21, 3) := by decide +kernel
theorem d_P_step_102 : decode b_P_step 102 = .ok (.getfield 46, 3) := by decide +kernel
theorem d_P_step_105 : decode b_P_step 105 = .ok (.ifCond .eq 17, 3) := by decide +kernel
theorem d_P_step_108 : decode b_P_step 108 = .ok (.aload_n 0, 1) := by decide +kernel
theorem d_P_step_109 : decode b_P_step 109 = .ok (.sipush 769, 3) := by decide +kernel
theorem d_P_step_112 : decode b_P_step 112 = .ok (.aload_n 0, 1) := by decide +kernel
