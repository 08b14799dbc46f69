theorem d_R_keep_175 : decode b_R_keep 175 = .ok (.ifCond .eq 8, 3) := by decide +kernel
theorem d_R_keep_178 : decode b_R_keep 178 = .ok (.bipush 32, 2) := by decide +kernel
theorem d_R_keep_180 : decode b_R_keep 180 = .ok (.goto 4, 3) := by decide +kernel
theorem d_R_keep_183 : decode b_R_keep 183 = .ok (.iconst 0, 1) := by decide +kernel
theorem d_R_keep_184 : decode b_R_keep 184 = .ok (.iadd, 1) := by decide +kernel
theorem d_R_keep_185 : decode b_R_keep 185 = .ok (.sipush 256, 3) := by decide +kernel
theorem d_R_keep_188 : decode b_R_keep 188 = .ok (.aload_n 0, 1) := by decide +kernel
theorem d_R_keep_189 : decode b_R_keep 189 = .ok (.getfield 31, 3) := by decide +kernel
theorem d_R_keep_192 : decode b_R_keep 192 = .ok (.imul, 1) := by decide +kernel
theorem d_R_keep_193 : decode b_R_keep 193 = .ok (.iadd, 1) := by decide +kernel
theorem d_R_keep_194 : decode b_R_keep 194 = .ok (.aload_n 0, 1) := by decide +kernel
theorem d_R_keep_195 : decode b_R_keep 195 = .ok (.getfield 34, 3) := by decide +kernel
theorem d_R_keep_198 : decode b_R_keep 198 = .ok (.ifCond .eq 9, 3) := by decide +kernel
theorem d_R_keep_201 : decode b_R_keep 201 = .ok (.sipush 4096, 3) := by decide +kernel
theorem d_R_keep_204 : decode b_R_keep 204 = .ok (.goto 4, 3) := by decide +kernel
theorem d_R_keep_207 : decode b_R_keep 207 = .ok (.iconst 0, 1) := by decide +kernel
theorem d_R_keep_208 : decode b_R_keep 208 = .ok (.iadd, 1) := by decide +kernel
theorem d_R_keep_209 : decode b_R_keep 209 = .ok (.putfield 54, 3) := by decide +kernel
theorem d_R_keep_212 : decode b_R_keep 212 = .ok (.aload_n 0, 1) := by decide +kernel
theorem d_R_keep_213 : decode b_R_keep 213 = .ok (.getfield 38, 3) := by decide +kernel
theorem d_R_keep_216 : decode b_R_keep 216 = .ok (.bipush 31, 2) := by decide +kernel
theorem d_R_keep_218 : decode b_R_keep 218 = .ok (.iand, 1) := by decide +kernel
theorem d_R_keep_219 : decode b_R_keep 219 = .ok (.aload_n 0, 1) := by decide +kernel
theorem d_R_keep_220 : decode b_R_keep 220 = .ok (.getfield 65, 3) := by decide +kernel
theorem d_R_keep_223 : decode b_R_keep 223 = .ok (.if_icmp .ne 8, 3) := by decide +kernel
theorem d_R_keep_226 : decode b_R_keep 226 = .ok (.aload_n 0, 1) := by decide +kernel
theorem d_R_keep_227 : decode b_R_keep 227 = .ok (.iconst 1, 1) := by decide +kernel
theorem d_R_keep_228 : decode b_R_keep 228 = .ok (.putfield 68, 3) := by decide +kernel
theorem d_R_keep_231 : decode b_R_keep 231 = .ok (.iconst 1, 1) := by decide +kernel
theorem d_R_keep_232 : decode b_R_keep 232 = .ok (.ireturn, 1) := by decide +kernel
theorem d_R_refuseBack_0 : decode b_R_refuseBack 0 = .ok (.aload_n 0, 1) := by decide +kernel
theorem d_R_refuseBack_1 : decode b_R_refuseBack 1 = .ok (.getfield 54, 3) := by decide +kernel
theorem d_R_refuseBack_4 : decode b_R_refuseBack 4 = .ok (.bipush 31, 2) := by decide +kernel
theorem d_R_refuseBack_6 : decode b_R_refuseBack 6 = .ok (.iand, 1) := by decide +kernel
theorem d_R_refuseBack_7 : decode b_R_refuseBack 7 = .ok (.invokestatic 41, 3) := by decide +kernel
theorem d_R_refuseBack_10 : decode b_R_refuseBack 10 = .ok (.ifCond .ne 5, 3) := by decide +kernel
theorem d_R_refuseBack_13 : decode b_R_refuseBack 13 = .ok (.iconst 2, 1) := by decide +kernel
theorem d_R_refuseBack_14 : decode b_R_refuseBack 14 = .ok (.ireturn, 1) := by decide +kernel
theorem d_R_refuseBack_15 : decode b_R_refuseBack 15 = .ok (.aload_n 0, 1) := by decide +kernel
theorem d_R_refuseBack_16 : decode b_R_refuseBack 16 = .ok (.getfield 54, 3) := by decide +kernel
theorem d_R_refuseBack_19 : decode b_R_refuseBack 19 = .ok (.bipush 32, 2) := by decide +kernel
theorem d_R_refuseBack_21 : decode b_R_refuseBack 21 = .ok (.iand, 1) := by decide +kernel
theorem d_R_refuseBack_22 : decode b_R_refuseBack 22 = .ok (.ifCond .eq 7, 3) := by decide +kernel
theorem d_R_refuseBack_25 : decode b_R_refuseBack 25 = .ok (.iconst 1, 1) := by decide +kernel
theorem d_R_refuseBack_26 : decode b_R_refuseBack 26 = .ok (.goto 4, 3) := by decide +kernel
theorem d_R_refuseBack_29 : decode b_R_refuseBack 29 = .ok (.iconst 0, 1) := by decide +kernel
theorem d_R_refuseBack_30 : decode b_R_refuseBack 30 = .ok (.istore_n 2, 1) := by decide +kernel
theorem d_R_refuseBack_31 : decode b_R_refuseBack 31 = .ok (.iload_n 2, 1) := by decide +kernel
theorem d_R_refuseBack_32 : decode b_R_refuseBack 32 = .ok (.iload_n 1, 1) := by decide +kernel
theorem d_R_refuseBack_33 : decode b_R_refuseBack 33 = .ok (.if_icmp .ne 7, 3) := by decide +kernel
theorem d_R_refuseBack_36 : decode b_R_refuseBack 36 = .ok (.iconst 0, 1) := by decide +kernel
theorem d_R_refuseBack_37 : decode b_R_refuseBack 37 = .ok (.goto 6, 3) := by decide +kernel
theorem d_R_refuseBack_40 : decode b_R_refuseBack 40 = .ok (.sipush 772, 3) := by decide +kernel
theorem d_R_refuseBack_43 : decode b_R_refuseBack 43 = .ok (.ireturn, 1) := by decide +kernel
theorem d_R_state_0 : decode b_R_state 0 = .ok (.aload_n 0, 1) := by decide +kernel
theorem d_R_state_1 : decode b_R_state 1 = .ok (.getfield 18, 3) := by decide +kernel
theorem d_R_state_4 : decode b_R_state 4 = .ok (.iconst 4, 1) := by decide +kernel
theorem d_R_state_5 : decode b_R_state 5 = .ok (.aload_n 0, 1) := by decide +kernel
theorem d_R_state_6 : decode b_R_state 6 = .ok (.getfield 22, 3) := by decide +kernel
theorem d_R_state_9 : decode b_R_state 9 = .ok (.imul, 1) := by decide +kernel
theorem d_R_state_10 : decode b_R_state 10 = .ok (.iadd, 1) := by decide +kernel
theorem d_R_state_11 : decode b_R_state 11 = .ok (.bipush 8, 2) := by decide +kernel
theorem d_R_state_13 : decode b_R_state 13 = .ok (.aload_n 0, 1) := by decide +kernel
theorem d_R_state_14 : decode b_R_state 14 = .ok (.getfield 25, 3) := by decide +kernel
theorem d_R_state_17 : decode b_R_state 17 = .ok (.imul, 1) := by decide +kernel
theorem d_R_state_18 : decode b_R_state 18 = .ok (.iadd, 1) := by decide +kernel
theorem d_R_state_19 : decode b_R_state 19 = .ok (.ireturn, 1) := by decide +kernel
theorem d_R_takeState_0 : decode b_R_takeState 0 = .ok (.aload_n 0, 1) := by decide +kernel
theorem d_R_takeState_1 : decode b_R_takeState 1 = .ok (.iload_n 1, 1) := by decide +kernel
theorem d_R_takeState_2 : decode b_R_takeState 2 = .ok (.iconst 3, 1) := by decide +kernel
theorem d_R_takeState_3 : decode b_R_takeState 3 = .ok (.iand, 1) := by decide +kernel
theorem d_R_takeState_4 : decode b_R_takeState 4 = .ok (.iconst 2, 1) := by decide +kernel
theorem d_R_takeState_5 : decode b_R_takeState 5 = .ok (.if_icmp .le 7, 3) := by decide +kernel
theorem d_R_takeState_8 : decode b_R_takeState 8 = .ok (.iconst 2, 1) := by decide +kernel
theorem d_R_takeState_9 : decode b_R_takeState 9 = .ok (.goto 6, 3) := by decide +kernel
theorem d_R_takeState_12 : decode b_R_takeState 12 = .ok (.iload_n 1, 1) := by decide +kernel
theorem d_R_takeState_13 : decode b_R_takeState 13 = .ok (.iconst 3, 1) := by decide +kernel
theorem d_R_takeState_14 : decode b_R_takeState 14 = .ok (.iand, 1) := by decide +kernel
theorem d_R_takeState_15 : decode b_R_takeState 15 = .ok (.putfield 18, 3) := by decide +kernel
theorem d_R_takeState_18 : decode b_R_takeState 18 = .ok (.aload_n 0, 1) := by decide +kernel
theorem d_R_takeState_19 : decode b_R_takeState 19 = .ok (.iload_n 1, 1) := by decide +kernel
theorem d_R_takeState_20 : decode b_R_takeState 20 = .ok (.iconst 2, 1) := by decide +kernel
theorem d_R_takeState_21 : decode b_R_takeState 21 = .ok (.ishr, 1) := by decide +kernel
theorem d_R_takeState_22 : decode b_R_takeState 22 = .ok (.iconst 1, 1) := by decide +kernel
theorem d_R_takeState_23 : decode b_R_takeState 23 = .ok (.iand, 1) := by decide +kernel
theorem d_R_takeState_24 : decode b_R_takeState 24 = .ok (.putfield 22, 3) := by decide +kernel
theorem d_R_takeState_27 : decode b_R_takeState 27 = .ok (.aload_n 0, 1) := by decide +kernel
theorem d_R_takeState_28 : decode b_R_takeState 28 = .ok (.iload_n 1, 1) := by decide +kernel
theorem d_R_takeState_29 : decode b_R_takeState 29 = .ok (.iconst 3, 1) := by decide +kernel
theorem d_R_takeState_30 : decode b_R_takeState 30 = .ok (.ishr, 1) := by decide +kernel
theorem d_R_takeState_31 : decode b_R_takeState 31 = .ok (.bipush 15, 2) := by decide +kernel
theorem d_R_takeState_33 : decode b_R_takeState 33 = .ok (.iand, 1) := by decide +kernel
theorem d_R_takeState_34 : decode b_R_takeState 34 = .ok (.putfield 25, 3) := by decide +kernel
theorem d_R_takeState_37 : decode b_R_takeState 37 = .ok (.return_, 1) := by decide +kernel
theorem d_T_ask_0 : decode b_T_ask 0 = .ok (.aload_n 0, 1) := by decide +kernel
theorem d_T_ask_1 : decode b_T_ask 1 = .ok (.dup, 1) := by decide +kernel
theorem d_T_ask_2 : decode b_T_ask 2 = .ok (.getfield 9, 3) := by decide +kernel
theorem d_T_ask_5 : decode b_T_ask 5 = .ok (.iconst 1, 1) := by decide +kernel
theorem d_T_ask_6 : decode b_T_ask 6 = .ok (.iload_n 1, 1) := by decide +kernel
theorem d_T_ask_7 : decode b_T_ask 7 = .ok (.ishl, 1) := by decide +kernel
theorem d_T_ask_8 : decode b_T_ask 8 = .ok (.ior, 1) := by decide +kernel
theorem d_T_ask_9 : decode b_T_ask 9 = .ok (.putfield 9, 3) := by decide +kernel
theorem d_T_ask_12 : decode b_T_ask 12 = .ok (.return_, 1) := by decide +kernel
theorem d_T_greatest_0 : decode b_T_greatest 0 = .ok (.bipush 15, 2) := by decide +kernel
theorem d_T_greatest_2 : decode b_T_greatest 2 = .ok (.istore_n 1, 1) := by decide +kernel
theorem d_T_greatest_3 : decode b_T_greatest 3 = .ok (.iload_n 1, 1) := by decide +kernel
theorem d_T_greatest_4 : decode b_T_greatest 4 = .ok (.ifCond .le 17, 3) := by decide +kernel
theorem d_T_greatest_7 : decode b_T_greatest 7 = .ok (.aload_n 0, 1) := by decide +kernel
theorem d_T_greatest_8 : decode b_T_greatest 8 = .ok (.iload_n 1, 1) := by decide +kernel
theorem d_T_greatest_9 : decode b_T_greatest 9 = .ok (.invokevirtual 28, 3) := by decide +kernel
theorem d_T_greatest_12 : decode b_T_greatest 12 = .ok (.ifCond .ne 9, 3) := by decide +kernel
theorem d_T_greatest_15 : decode b_T_greatest 15 = .ok (.iinc 1 (-1), 3) := by decide +kernel
theorem d_T_greatest_18 : decode b_T_greatest 18 = .ok (.goto (-15), 3) := by decide +kernel
theorem d_T_greatest_21 : decode b_T_greatest 21 = .ok (.iload_n 1, 1) := by decide +kernel
theorem d_T_greatest_22 : decode b_T_greatest 22 = .ok (.ireturn, 1) := by decide +kernel
theorem d_T_has_0 : decode b_T_has 0 = .ok (.iload_n 0, 1) := by decide +kernel
theorem d_T_has_1 : decode b_T_has 1 = .ok (.iconst 1, 1) := by decide +kernel
theorem d_T_has_2 : decode b_T_has 2 = .ok (.if_icmp .lt 13, 3) := by decide +kernel
theorem d_T_has_5 : decode b_T_has 5 = .ok (.iload_n 0, 1) := by decide +kernel
theorem d_T_has_6 : decode b_T_has 6 = .ok (.bipush 15, 2) := by decide +kernel
theorem d_T_has_8 : decode b_T_has 8 = .ok (.if_icmp .gt 7, 3) := by decide +kernel
theorem d_T_has_11 : decode b_T_has 11 = .ok (.iconst 1, 1) := by decide +kernel
theorem d_T_has_12 : decode b_T_has 12 = .ok (.goto 4, 3) := by decide +kernel
theorem d_T_has_15 : decode b_T_has 15 = .ok (.iconst 0, 1) := by decide +kernel
theorem d_T_has_16 : decode b_T_has 16 = .ok (.ireturn, 1) := by decide +kernel
theorem d_T_isPending_0 : decode b_T_isPending 0 = .ok (.aload_n 0, 1) := by decide +kernel
theorem d_T_isPending_1 : decode b_T_isPending 1 = .ok (.getfield 9, 3) := by decide +kernel
theorem d_T_isPending_4 : decode b_T_isPending 4 = .ok (.iload_n 1, 1) := by decide +kernel
theorem d_T_isPending_5 : decode b_T_isPending 5 = .ok (.ishr, 1) := by decide +kernel
theorem d_T_isPending_6 : decode b_T_isPending 6 = .ok (.iconst 1, 1) := by decide +kernel
theorem d_T_isPending_7 : decode b_T_isPending 7 = .ok (.iand, 1) := by decide +kernel
theorem d_T_isPending_8 : decode b_T_isPending 8 = .ok (.iconst 1, 1) := by decide +kernel
theorem d_T_isPending_9 : decode b_T_isPending 9 = .ok (.if_icmp .ne 7, 3) := by decide +kernel
theorem d_T_isPending_12 : decode b_T_isPending 12 = .ok (.iconst 1, 1) := by decide +kernel
theorem d_T_isPending_13 : decode b_T_isPending 13 = .ok (.goto 4, 3) := by decide +kernel
theorem d_T_isPending_16 : decode b_T_isPending 16 = .ok (.iconst 0, 1) := by decide +kernel
theorem d_T_isPending_17 : decode b_T_isPending 17 = .ok (.ireturn, 1) := by decide +kernel
theorem d_T_take_0 : decode b_T_take 0 = .ok (.aload_n 0, 1) := by decide +kernel
theorem d_T_take_1 : decode b_T_take 1 = .ok (.dup, 1) := by decide +kernel
theorem d_T_take_2 : decode b_T_take 2 = .ok (.getfield 9, 3) := by decide +kernel
theorem d_T_take_5 : decode b_T_take 5 = .ok (.iconst 1, 1) := by decide +kernel
theorem d_T_take_6 : decode b_T_take 6 = .ok (.iload_n 1, 1) := by decide +kernel
theorem d_T_take_7 : decode b_T_take 7 = .ok (.ishl, 1) := by decide +kernel
theorem d_T_take_8 : decode b_T_take 8 = .ok (.iconst (-1), 1) := by decide +kernel
theorem d_T_take_9 : decode b_T_take 9 = .ok (.ixor, 1) := by decide +kernel
theorem d_T_take_10 : decode b_T_take 10 = .ok (.iand, 1) := by decide +kernel
theorem d_T_take_11 : decode b_T_take 11 = .ok (.putfield 9, 3) := by decide +kernel
theorem d_T_take_14 : decode b_T_take 14 = .ok (.aload_n 0, 1) := by decide +kernel
theorem d_T_take_15 : decode b_T_take 15 = .ok (.dup, 1) := by decide +kernel
theorem d_T_take_16 : decode b_T_take 16 = .ok (.getfield 32, 3) := by decide +kernel
theorem d_T_take_19 : decode b_T_take 19 = .ok (.iconst 1, 1) := by decide +kernel
theorem d_T_take_20 : decode b_T_take 20 = .ok (.iadd, 1) := by decide +kernel
theorem d_T_take_21 : decode b_T_take 21 = .ok (.putfield 32, 3) := by decide +kernel
theorem d_T_take_24 : decode b_T_take 24 = .ok (.return_, 1) := by decide +kernel
theorem d_T_tick_0 : decode b_T_tick 0 = .ok (.aload_n 0, 1) := by decide +kernel
theorem d_T_tick_1 : decode b_T_tick 1 = .ok (.dup, 1) := by decide +kernel
theorem d_T_tick_2 : decode b_T_tick 2 = .ok (.getfield 15, 3) := by decide +kernel
theorem d_T_tick_5 : decode b_T_tick 5 = .ok (.iconst 1, 1) := by decide +kernel
theorem d_T_tick_6 : decode b_T_tick 6 = .ok (.iadd, 1) := by decide +kernel
theorem d_T_tick_7 : decode b_T_tick 7 = .ok (.putfield 15, 3) := by decide +kernel
theorem d_T_tick_10 : decode b_T_tick 10 = .ok (.aload_n 0, 1) := by decide +kernel
theorem d_T_tick_11 : decode b_T_tick 11 = .ok (.getfield 18, 3) := by decide +kernel
theorem d_T_tick_14 : decode b_T_tick 14 = .ok (.ifCond .le 23, 3) := by decide +kernel
theorem d_T_tick_17 : decode b_T_tick 17 = .ok (.aload_n 0, 1) := by decide +kernel
theorem d_T_tick_18 : decode b_T_tick 18 = .ok (.getfield 15, 3) := by decide +kernel
theorem d_T_tick_21 : decode b_T_tick 21 = .ok (.aload_n 0, 1) := by decide +kernel
theorem d_T_tick_22 : decode b_T_tick 22 = .ok (.getfield 18, 3) := by decide +kernel
theorem d_T_tick_25 : decode b_T_tick 25 = .ok (.irem, 1) := by decide +kernel
theorem d_T_tick_26 : decode b_T_tick 26 = .ok (.ifCond .ne 11, 3) := by decide +kernel
theorem d_T_tick_29 : decode b_T_tick 29 = .ok (.aload_n 0, 1) := by decide +kernel
theorem d_T_tick_30 : decode b_T_tick 30 = .ok (.aload_n 0, 1) := by decide +kernel
theorem d_T_tick_31 : decode b_T_tick 31 = .ok (.getfield 21, 3) := by decide +kernel
theorem d_T_tick_34 : decode b_T_tick 34 = .ok (.invokevirtual 24, 3) := by decide +kernel
theorem d_T_tick_37 : decode b_T_tick 37 = .ok (.return_, 1) := by decide +kernel
