theorem d_X_step_234 : decode b_X_step 234 = .ok (.aload_n 0, 1) := by decide +kernel
theorem d_X_step_235 : decode b_X_step 235 = .ok (.aload_n 0, 1) := by decide +kernel
theorem d_X_step_236 : decode b_X_step 236 = .ok (.getfield 7, 3) := by decide +kernel
theorem d_X_step_239 : decode b_X_step 239 = .ok (.iload_n 2, 1) := by decide +kernel
theorem d_X_step_240 : decode b_X_step 240 = .ok (.iaload, 1) := by decide +kernel
theorem d_X_step_241 : decode b_X_step 241 = .ok (.invokevirtual 149, 3) := by decide +kernel
theorem d_X_step_244 : decode b_X_step 244 = .ok (.aload_n 0, 1) := by decide +kernel
theorem d_X_step_245 : decode b_X_step 245 = .ok (.getfield 71, 3) := by decide +kernel
theorem d_X_step_248 : decode b_X_step 248 = .ok (.ifCond .le 22, 3) := by decide +kernel
theorem d_X_step_251 : decode b_X_step 251 = .ok (.aload_n 0, 1) := by decide +kernel
theorem d_X_step_252 : decode b_X_step 252 = .ok (.aload_n 0, 1) := by decide +kernel
theorem d_X_step_253 : decode b_X_step 253 = .ok (.getfield 71, 3) := by decide +kernel
theorem d_X_step_256 : decode b_X_step 256 = .ok (.bipush 8, 2) := by decide +kernel
theorem d_X_step_258 : decode b_X_step 258 = .ok (.ishr, 1) := by decide +kernel
theorem d_X_step_259 : decode b_X_step 259 = .ok (.aload_n 0, 1) := by decide +kernel
theorem d_X_step_260 : decode b_X_step 260 = .ok (.getfield 71, 3) := by decide +kernel
theorem d_X_step_263 : decode b_X_step 263 = .ok (.sipush 255, 3) := by decide +kernel
theorem d_X_step_266 : decode b_X_step 266 = .ok (.iand, 1) := by decide +kernel
theorem d_X_step_267 : decode b_X_step 267 = .ok (.invokevirtual 146, 3) := by decide +kernel
theorem d_X_step_270 : decode b_X_step 270 = .ok (.aload_n 0, 1) := by decide +kernel
theorem d_X_step_271 : decode b_X_step 271 = .ok (.getfield 45, 3) := by decide +kernel
theorem d_X_step_274 : decode b_X_step 274 = .ok (.ifCond .eq 23, 3) := by decide +kernel
theorem d_X_step_277 : decode b_X_step 277 = .ok (.aload_n 0, 1) := by decide +kernel
theorem d_X_step_278 : decode b_X_step 278 = .ok (.getfield 68, 3) := by decide +kernel
theorem d_X_step_281 : decode b_X_step 281 = .ok (.ifCond .eq 16, 3) := by decide +kernel
theorem d_X_step_284 : decode b_X_step 284 = .ok (.aload_n 0, 1) := by decide +kernel
theorem d_X_step_285 : decode b_X_step 285 = .ok (.getfield 78, 3) := by decide +kernel
theorem d_X_step_288 : decode b_X_step 288 = .ok (.ifCond .ne 9, 3) := by decide +kernel
theorem d_X_step_291 : decode b_X_step 291 = .ok (.aload_n 0, 1) := by decide +kernel
theorem d_X_step_292 : decode b_X_step 292 = .ok (.iconst 3, 1) := by decide +kernel
theorem d_X_step_293 : decode b_X_step 293 = .ok (.iconst 1, 1) := by decide +kernel
theorem d_X_step_294 : decode b_X_step 294 = .ok (.invokevirtual 146, 3) := by decide +kernel
theorem d_X_step_297 : decode b_X_step 297 = .ok (.return_, 1) := by decide +kernel
theorem d_X_system_0 : decode b_X_system 0 = .ok (.iload_n 1, 1) := by decide +kernel
theorem d_X_system_1 : decode b_X_system 1 = .ok (.bipush 27, 2) := by decide +kernel
theorem d_X_system_3 : decode b_X_system 3 = .ok (.if_icmp .ne 19, 3) := by decide +kernel
theorem d_X_system_6 : decode b_X_system 6 = .ok (.aload_n 0, 1) := by decide +kernel
theorem d_X_system_7 : decode b_X_system 7 = .ok (.sipush 1536, 3) := by decide +kernel
theorem d_X_system_10 : decode b_X_system 10 = .ok (.iload_n 2, 1) := by decide +kernel
theorem d_X_system_11 : decode b_X_system 11 = .ok (.sipush 255, 3) := by decide +kernel
theorem d_X_system_14 : decode b_X_system 14 = .ok (.iand, 1) := by decide +kernel
theorem d_X_system_15 : decode b_X_system 15 = .ok (.iadd, 1) := by decide +kernel
theorem d_X_system_16 : decode b_X_system 16 = .ok (.putfield 71, 3) := by decide +kernel
theorem d_X_system_19 : decode b_X_system 19 = .ok (.goto 81, 3) := by decide +kernel
theorem d_X_system_22 : decode b_X_system 22 = .ok (.iload_n 1, 1) := by decide +kernel
theorem d_X_system_23 : decode b_X_system 23 = .ok (.bipush 28, 2) := by decide +kernel
theorem d_X_system_25 : decode b_X_system 25 = .ok (.if_icmp .ne 22, 3) := by decide +kernel
theorem d_X_system_28 : decode b_X_system 28 = .ok (.aload_n 0, 1) := by decide +kernel
theorem d_X_system_29 : decode b_X_system 29 = .ok (.iload_n 2, 1) := by decide +kernel
theorem d_X_system_30 : decode b_X_system 30 = .ok (.iconst 1, 1) := by decide +kernel
theorem d_X_system_31 : decode b_X_system 31 = .ok (.iand, 1) := by decide +kernel
theorem d_X_system_32 : decode b_X_system 32 = .ok (.iconst 1, 1) := by decide +kernel
theorem d_X_system_33 : decode b_X_system 33 = .ok (.if_icmp .ne 7, 3) := by decide +kernel
theorem d_X_system_36 : decode b_X_system 36 = .ok (.iconst 1, 1) := by decide +kernel
theorem d_X_system_37 : decode b_X_system 37 = .ok (.goto 4, 3) := by decide +kernel
theorem d_X_system_40 : decode b_X_system 40 = .ok (.iconst 0, 1) := by decide +kernel
theorem d_X_system_41 : decode b_X_system 41 = .ok (.putfield 65, 3) := by decide +kernel
theorem d_X_system_44 : decode b_X_system 44 = .ok (.goto 56, 3) := by decide +kernel
theorem d_X_system_47 : decode b_X_system 47 = .ok (.iload_n 1, 1) := by decide +kernel
theorem d_X_system_48 : decode b_X_system 48 = .ok (.bipush 29, 2) := by decide +kernel
theorem d_X_system_50 : decode b_X_system 50 = .ok (.if_icmp .ne 13, 3) := by decide +kernel
theorem d_X_system_53 : decode b_X_system 53 = .ok (.aload_n 0, 1) := by decide +kernel
theorem d_X_system_54 : decode b_X_system 54 = .ok (.iload_n 2, 1) := by decide +kernel
theorem d_X_system_55 : decode b_X_system 55 = .ok (.iconst 1, 1) := by decide +kernel
theorem d_X_system_56 : decode b_X_system 56 = .ok (.iand, 1) := by decide +kernel
theorem d_X_system_57 : decode b_X_system 57 = .ok (.putfield 56, 3) := by decide +kernel
theorem d_X_system_60 : decode b_X_system 60 = .ok (.goto 40, 3) := by decide +kernel
theorem d_X_system_63 : decode b_X_system 63 = .ok (.iload_n 1, 1) := by decide +kernel
theorem d_X_system_64 : decode b_X_system 64 = .ok (.bipush 30, 2) := by decide +kernel
theorem d_X_system_66 : decode b_X_system 66 = .ok (.if_icmp .ne 13, 3) := by decide +kernel
theorem d_X_system_69 : decode b_X_system 69 = .ok (.aload_n 0, 1) := by decide +kernel
theorem d_X_system_70 : decode b_X_system 70 = .ok (.iload_n 2, 1) := by decide +kernel
theorem d_X_system_71 : decode b_X_system 71 = .ok (.iconst 1, 1) := by decide +kernel
theorem d_X_system_72 : decode b_X_system 72 = .ok (.iand, 1) := by decide +kernel
theorem d_X_system_73 : decode b_X_system 73 = .ok (.putfield 53, 3) := by decide +kernel
theorem d_X_system_76 : decode b_X_system 76 = .ok (.goto 24, 3) := by decide +kernel
theorem d_X_system_79 : decode b_X_system 79 = .ok (.iload_n 1, 1) := by decide +kernel
theorem d_X_system_80 : decode b_X_system 80 = .ok (.bipush 31, 2) := by decide +kernel
theorem d_X_system_82 : decode b_X_system 82 = .ok (.if_icmp .ne 11, 3) := by decide +kernel
theorem d_X_system_85 : decode b_X_system 85 = .ok (.aload_n 0, 1) := by decide +kernel
theorem d_X_system_86 : decode b_X_system 86 = .ok (.iconst 0, 1) := by decide +kernel
theorem d_X_system_87 : decode b_X_system 87 = .ok (.putfield 45, 3) := by decide +kernel
theorem d_X_system_90 : decode b_X_system 90 = .ok (.goto 10, 3) := by decide +kernel
theorem d_X_system_93 : decode b_X_system 93 = .ok (.aload_n 0, 1) := by decide +kernel
theorem d_X_system_94 : decode b_X_system 94 = .ok (.sipush 513, 3) := by decide +kernel
theorem d_X_system_97 : decode b_X_system 97 = .ok (.putfield 71, 3) := by decide +kernel
theorem d_X_system_100 : decode b_X_system 100 = .ok (.return_, 1) := by decide +kernel
theorem d_X_tables_0 : decode b_X_tables 0 = .ok (.aload_n 0, 1) := by decide +kernel
theorem d_X_tables_1 : decode b_X_tables 1 = .ok (.iconst 0, 1) := by decide +kernel
theorem d_X_tables_2 : decode b_X_tables 2 = .ok (.putfield 38, 3) := by decide +kernel
theorem d_X_tables_5 : decode b_X_tables 5 = .ok (.aload_n 0, 1) := by decide +kernel
theorem d_X_tables_6 : decode b_X_tables 6 = .ok (.iload_n 1, 1) := by decide +kernel
theorem d_X_tables_7 : decode b_X_tables 7 = .ok (.putfield 81, 3) := by decide +kernel
theorem d_X_tables_10 : decode b_X_tables 10 = .ok (.aload_n 0, 1) := by decide +kernel
theorem d_X_tables_11 : decode b_X_tables 11 = .ok (.iload_n 2, 1) := by decide +kernel
theorem d_X_tables_12 : decode b_X_tables 12 = .ok (.putfield 140, 3) := by decide +kernel
theorem d_X_tables_15 : decode b_X_tables 15 = .ok (.return_, 1) := by decide +kernel
theorem d_X_take_0 : decode b_X_take 0 = .ok (.aload_n 0, 1) := by decide +kernel
theorem d_X_take_1 : decode b_X_take 1 = .ok (.aload_n 0, 1) := by decide +kernel
theorem d_X_take_2 : decode b_X_take 2 = .ok (.getfield 78, 3) := by decide +kernel
theorem d_X_take_5 : decode b_X_take 5 = .ok (.ifCond .ne 8, 3) := by decide +kernel
theorem d_X_take_8 : decode b_X_take 8 = .ok (.iload_n 1, 1) := by decide +kernel
theorem d_X_take_9 : decode b_X_take 9 = .ok (.iconst 3, 1) := by decide +kernel
theorem d_X_take_10 : decode b_X_take 10 = .ok (.if_icmp .ne 7, 3) := by decide +kernel
theorem d_X_take_13 : decode b_X_take 13 = .ok (.iconst 1, 1) := by decide +kernel
theorem d_X_take_14 : decode b_X_take 14 = .ok (.goto 4, 3) := by decide +kernel
theorem d_X_take_17 : decode b_X_take 17 = .ok (.iconst 0, 1) := by decide +kernel
theorem d_X_take_18 : decode b_X_take 18 = .ok (.putfield 78, 3) := by decide +kernel
theorem d_X_take_21 : decode b_X_take 21 = .ok (.aload_n 0, 1) := by decide +kernel
theorem d_X_take_22 : decode b_X_take 22 = .ok (.iload_n 1, 1) := by decide +kernel
theorem d_X_take_23 : decode b_X_take 23 = .ok (.bipush 6, 2) := by decide +kernel
theorem d_X_take_25 : decode b_X_take 25 = .ok (.if_icmp .ne 14, 3) := by decide +kernel
theorem d_X_take_28 : decode b_X_take 28 = .ok (.aload_n 0, 1) := by decide +kernel
theorem d_X_take_29 : decode b_X_take 29 = .ok (.getfield 19, 3) := by decide +kernel
theorem d_X_take_32 : decode b_X_take 32 = .ok (.iconst 0, 1) := by decide +kernel
theorem d_X_take_33 : decode b_X_take 33 = .ok (.iaload, 1) := by decide +kernel
theorem d_X_take_34 : decode b_X_take 34 = .ok (.iconst 1, 1) := by decide +kernel
theorem d_X_take_35 : decode b_X_take 35 = .ok (.iadd, 1) := by decide +kernel
theorem d_X_take_36 : decode b_X_take 36 = .ok (.goto 9, 3) := by decide +kernel
theorem d_X_take_39 : decode b_X_take 39 = .ok (.aload_n 0, 1) := by decide +kernel
theorem d_X_take_40 : decode b_X_take 40 = .ok (.getfield 19, 3) := by decide +kernel
theorem d_X_take_43 : decode b_X_take 43 = .ok (.iconst 0, 1) := by decide +kernel
theorem d_X_take_44 : decode b_X_take 44 = .ok (.iaload, 1) := by decide +kernel
theorem d_X_take_45 : decode b_X_take 45 = .ok (.aload_n 0, 1) := by decide +kernel
theorem d_X_take_46 : decode b_X_take 46 = .ok (.getfield 81, 3) := by decide +kernel
theorem d_X_take_49 : decode b_X_take 49 = .ok (.iconst 4, 1) := by decide +kernel
theorem d_X_take_50 : decode b_X_take 50 = .ok (.iload_n 1, 1) := by decide +kernel
theorem d_X_take_51 : decode b_X_take 51 = .ok (.imul, 1) := by decide +kernel
theorem d_X_take_52 : decode b_X_take 52 = .ok (.iadd, 1) := by decide +kernel
theorem d_X_take_53 : decode b_X_take 53 = .ok (.invokevirtual 84, 3) := by decide +kernel
theorem d_X_take_56 : decode b_X_take 56 = .ok (.ifCond .eq 34, 3) := by decide +kernel
theorem d_X_take_59 : decode b_X_take 59 = .ok (.aload_n 0, 1) := by decide +kernel
theorem d_X_take_60 : decode b_X_take 60 = .ok (.getfield 13, 3) := by decide +kernel
theorem d_X_take_63 : decode b_X_take 63 = .ok (.bipush 7, 2) := by decide +kernel
theorem d_X_take_65 : decode b_X_take 65 = .ok (.iload_n 2, 1) := by decide +kernel
theorem d_X_take_66 : decode b_X_take 66 = .ok (.iastore, 1) := by decide +kernel
theorem d_X_take_67 : decode b_X_take 67 = .ok (.aload_n 0, 1) := by decide +kernel
theorem d_X_take_68 : decode b_X_take 68 = .ok (.dup, 1) := by decide +kernel
theorem d_X_take_69 : decode b_X_take 69 = .ok (.getfield 88, 3) := by decide +kernel
theorem d_X_take_72 : decode b_X_take 72 = .ok (.iconst 1, 1) := by decide +kernel
theorem d_X_take_73 : decode b_X_take 73 = .ok (.iadd, 1) := by decide +kernel
theorem d_X_take_74 : decode b_X_take 74 = .ok (.putfield 88, 3) := by decide +kernel
theorem d_X_take_77 : decode b_X_take 77 = .ok (.aload_n 0, 1) := by decide +kernel
theorem d_X_take_78 : decode b_X_take 78 = .ok (.bipush 16, 2) := by decide +kernel
theorem d_X_take_80 : decode b_X_take 80 = .ok (.iload_n 1, 1) := by decide +kernel
theorem d_X_take_81 : decode b_X_take 81 = .ok (.imul, 1) := by decide +kernel
theorem d_X_take_82 : decode b_X_take 82 = .ok (.iload_n 2, 1) := by decide +kernel
theorem d_X_take_83 : decode b_X_take 83 = .ok (.bipush 15, 2) := by decide +kernel
theorem d_X_take_85 : decode b_X_take 85 = .ok (.iand, 1) := by decide +kernel
theorem d_X_take_86 : decode b_X_take 86 = .ok (.iadd, 1) := by decide +kernel
theorem d_X_take_87 : decode b_X_take 87 = .ok (.putfield 35, 3) := by decide +kernel
theorem d_X_take_90 : decode b_X_take 90 = .ok (.return_, 1) := by decide +kernel
theorem d_X_thrown_0 : decode b_X_thrown 0 = .ok (.aload_n 0, 1) := by decide +kernel
theorem d_X_thrown_1 : decode b_X_thrown 1 = .ok (.getfield 38, 3) := by decide +kernel
theorem d_X_thrown_4 : decode b_X_thrown 4 = .ok (.ireturn, 1) := by decide +kernel
theorem d_X_timer_0 : decode b_X_timer 0 = .ok (.aload_n 0, 1) := by decide +kernel
theorem d_X_timer_1 : decode b_X_timer 1 = .ok (.iload_n 1, 1) := by decide +kernel
theorem d_X_timer_2 : decode b_X_timer 2 = .ok (.ifCond .lt 14, 3) := by decide +kernel
theorem d_X_timer_5 : decode b_X_timer 5 = .ok (.iload_n 2, 1) := by decide +kernel
theorem d_X_timer_6 : decode b_X_timer 6 = .ok (.iconst 1, 1) := by decide +kernel
theorem d_X_timer_7 : decode b_X_timer 7 = .ok (.if_icmp .lt 9, 3) := by decide +kernel
theorem d_X_timer_10 : decode b_X_timer 10 = .ok (.iload_n 2, 1) := by decide +kernel
theorem d_X_timer_11 : decode b_X_timer 11 = .ok (.bipush 15, 2) := by decide +kernel
theorem d_X_timer_13 : decode b_X_timer 13 = .ok (.if_icmp .le 7, 3) := by decide +kernel
theorem d_X_timer_16 : decode b_X_timer 16 = .ok (.iconst 1, 1) := by decide +kernel
theorem d_X_timer_17 : decode b_X_timer 17 = .ok (.goto 4, 3) := by decide +kernel
theorem d_X_timer_20 : decode b_X_timer 20 = .ok (.iconst 0, 1) := by decide +kernel
theorem d_X_timer_21 : decode b_X_timer 21 = .ok (.putfield 38, 3) := by decide +kernel
theorem d_X_timer_24 : decode b_X_timer 24 = .ok (.aload_n 0, 1) := by decide +kernel
theorem d_X_timer_25 : decode b_X_timer 25 = .ok (.getfield 38, 3) := by decide +kernel
theorem d_X_timer_28 : decode b_X_timer 28 = .ok (.ifCond .ne 13, 3) := by decide +kernel
theorem d_X_timer_31 : decode b_X_timer 31 = .ok (.aload_n 0, 1) := by decide +kernel
theorem d_X_timer_32 : decode b_X_timer 32 = .ok (.iload_n 1, 1) := by decide +kernel
theorem d_X_timer_33 : decode b_X_timer 33 = .ok (.putfield 134, 3) := by decide +kernel
theorem d_X_timer_36 : decode b_X_timer 36 = .ok (.aload_n 0, 1) := by decide +kernel
theorem d_X_timer_37 : decode b_X_timer 37 = .ok (.iload_n 2, 1) := by decide +kernel
theorem d_X_timer_38 : decode b_X_timer 38 = .ok (.putfield 22, 3) := by decide +kernel
theorem d_X_timer_41 : decode b_X_timer 41 = .ok (.return_, 1) := by decide +kernel
theorem d_X_word_0 : decode b_X_word 0 = .ok (.aload_n 0, 1) := by decide +kernel
theorem d_X_word_1 : decode b_X_word 1 = .ok (.iconst 0, 1) := by decide +kernel
theorem d_X_word_2 : decode b_X_word 2 = .ok (.putfield 38, 3) := by decide +kernel
theorem d_X_word_5 : decode b_X_word 5 = .ok (.iload_n 1, 1) := by decide +kernel
theorem d_X_word_6 : decode b_X_word 6 = .ok (.ifCond .lt 10, 3) := by decide +kernel
theorem d_X_word_9 : decode b_X_word 9 = .ok (.iload_n 1, 1) := by decide +kernel
theorem d_X_word_10 : decode b_X_word 10 = .ok (.sipush 512, 3) := by decide +kernel
theorem d_X_word_13 : decode b_X_word 13 = .ok (.if_icmp .lt 7, 3) := by decide +kernel
theorem d_X_word_16 : decode b_X_word 16 = .ok (.iconst 0, 1) := by decide +kernel
theorem d_X_word_17 : decode b_X_word 17 = .ok (.goto 9, 3) := by decide +kernel
theorem d_X_word_20 : decode b_X_word 20 = .ok (.aload_n 0, 1) := by decide +kernel
theorem d_X_word_21 : decode b_X_word 21 = .ok (.getfield 7, 3) := by decide +kernel
theorem d_X_word_24 : decode b_X_word 24 = .ok (.iload_n 1, 1) := by decide +kernel
theorem d_X_word_25 : decode b_X_word 25 = .ok (.iaload, 1) := by decide +kernel
theorem d_X_word_26 : decode b_X_word 26 = .ok (.ireturn, 1) := by decide +kernel
theorem d_X_wordsOf_0 : decode b_X_wordsOf 0 = .ok (.sipush 248, 3) := by decide +kernel
theorem d_X_wordsOf_3 : decode b_X_wordsOf 3 = .ok (.bipush 8, 2) := by decide +kernel
theorem d_X_wordsOf_5 : decode b_X_wordsOf 5 = .ok (.iload_n 0, 1) := by decide +kernel
theorem d_X_wordsOf_6 : decode b_X_wordsOf 6 = .ok (.imul, 1) := by decide +kernel
theorem d_X_wordsOf_7 : decode b_X_wordsOf 7 = .ok (.iadd, 1) := by decide +kernel
theorem d_X_wordsOf_8 : decode b_X_wordsOf 8 = .ok (.ireturn, 1) := by decide +kernel
