theorem d_C_guard_0 : decode b_C_guard 0 = .ok (.aload_n 0, 1) := by decide +kernel
theorem d_C_guard_1 : decode b_C_guard 1 = .ok (.getfield 10, 3) := by decide +kernel
theorem d_C_guard_4 : decode b_C_guard 4 = .ok (.iload_n 1, 1) := by decide +kernel
theorem d_C_guard_5 : decode b_C_guard 5 = .ok (.putfield 86, 3) := by decide +kernel
theorem d_C_guard_8 : decode b_C_guard 8 = .ok (.return_, 1) := by decide +kernel
theorem d_C_halt_0 : decode b_C_halt 0 = .ok (.aload_n 0, 1) := by decide +kernel
theorem d_C_halt_1 : decode b_C_halt 1 = .ok (.getfield 10, 3) := by decide +kernel
theorem d_C_halt_4 : decode b_C_halt 4 = .ok (.getfield 37, 3) := by decide +kernel
theorem d_C_halt_7 : decode b_C_halt 7 = .ok (.istore_n 1, 1) := by decide +kernel
theorem d_C_halt_8 : decode b_C_halt 8 = .ok (.aload_n 0, 1) := by decide +kernel
theorem d_C_halt_9 : decode b_C_halt 9 = .ok (.getfield 10, 3) := by decide +kernel
theorem d_C_halt_12 : decode b_C_halt 12 = .ok (.iconst 0, 1) := by decide +kernel
theorem d_C_halt_13 : decode b_C_halt 13 = .ok (.putfield 37, 3) := by decide +kernel
theorem d_C_halt_16 : decode b_C_halt 16 = .ok (.iload_n 1, 1) := by decide +kernel
theorem d_C_halt_17 : decode b_C_halt 17 = .ok (.ireturn, 1) := by decide +kernel
theorem d_C_list_0 : decode b_C_list 0 = .ok (.iload_n 1, 1) := by decide +kernel
theorem d_C_list_1 : decode b_C_list 1 = .ok (.ifCond .lt 8, 3) := by decide +kernel
theorem d_C_list_4 : decode b_C_list 4 = .ok (.iload_n 1, 1) := by decide +kernel
theorem d_C_list_5 : decode b_C_list 5 = .ok (.iconst 1, 1) := by decide +kernel
theorem d_C_list_6 : decode b_C_list 6 = .ok (.if_icmp .le 5, 3) := by decide +kernel
theorem d_C_list_9 : decode b_C_list 9 = .ok (.iconst (-1), 1) := by decide +kernel
theorem d_C_list_10 : decode b_C_list 10 = .ok (.ireturn, 1) := by decide +kernel
theorem d_C_list_11 : decode b_C_list 11 = .ok (.aload_n 0, 1) := by decide +kernel
theorem d_C_list_12 : decode b_C_list 12 = .ok (.getfield 10, 3) := by decide +kernel
theorem d_C_list_15 : decode b_C_list 15 = .ok (.getfield 22, 3) := by decide +kernel
theorem d_C_list_18 : decode b_C_list 18 = .ok (.iload_n 1, 1) := by decide +kernel
theorem d_C_list_19 : decode b_C_list 19 = .ok (.ifCond .ne 16, 3) := by decide +kernel
theorem d_C_list_22 : decode b_C_list 22 = .ok (.aload_n 0, 1) := by decide +kernel
theorem d_C_list_23 : decode b_C_list 23 = .ok (.getfield 10, 3) := by decide +kernel
theorem d_C_list_26 : decode b_C_list 26 = .ok (.getfield 50, 3) := by decide +kernel
theorem d_C_list_29 : decode b_C_list 29 = .ok (.getfield 54, 3) := by decide +kernel
theorem d_C_list_32 : decode b_C_list 32 = .ok (.goto 13, 3) := by decide +kernel
theorem d_C_list_35 : decode b_C_list 35 = .ok (.aload_n 0, 1) := by decide +kernel
theorem d_C_list_36 : decode b_C_list 36 = .ok (.getfield 10, 3) := by decide +kernel
theorem d_C_list_39 : decode b_C_list 39 = .ok (.getfield 50, 3) := by decide +kernel
theorem d_C_list_42 : decode b_C_list 42 = .ok (.getfield 63, 3) := by decide +kernel
theorem d_C_list_45 : decode b_C_list 45 = .ok (.invokevirtual 165, 3) := by decide +kernel
theorem d_C_list_48 : decode b_C_list 48 = .ok (.ireturn, 1) := by decide +kernel
theorem d_C_look_0 : decode b_C_look 0 = .ok (.aload_n 0, 1) := by decide +kernel
theorem d_C_look_1 : decode b_C_look 1 = .ok (.getfield 10, 3) := by decide +kernel
theorem d_C_look_4 : decode b_C_look 4 = .ok (.getfield 50, 3) := by decide +kernel
theorem d_C_look_7 : decode b_C_look 7 = .ok (.astore_n 2, 1) := by decide +kernel
theorem d_C_look_8 : decode b_C_look 8 = .ok (.iload_n 1, 1) := by decide +kernel
theorem d_C_look_9 : decode b_C_look 9 = .ok (.tableswitch 175 0 12 #[67, 83, 88, 93, 98, 103, 108, 113, 126, 137, 148, 156, 164], 67) := by decide +kernel
theorem d_C_look_76 : decode b_C_look 76 = .ok (.aload_n 0, 1) := by decide +kernel
theorem d_C_look_77 : decode b_C_look 77 = .ok (.getfield 10, 3) := by decide +kernel
theorem d_C_look_80 : decode b_C_look 80 = .ok (.getfield 37, 3) := by decide +kernel
theorem d_C_look_83 : decode b_C_look 83 = .ok (.ifCond .eq 7, 3) := by decide +kernel
theorem d_C_look_86 : decode b_C_look 86 = .ok (.iconst 1, 1) := by decide +kernel
theorem d_C_look_87 : decode b_C_look 87 = .ok (.goto 4, 3) := by decide +kernel
theorem d_C_look_90 : decode b_C_look 90 = .ok (.iconst 0, 1) := by decide +kernel
theorem d_C_look_91 : decode b_C_look 91 = .ok (.ireturn, 1) := by decide +kernel
theorem d_C_look_92 : decode b_C_look 92 = .ok (.aload_n 2, 1) := by decide +kernel
theorem d_C_look_93 : decode b_C_look 93 = .ok (.getfield 137, 3) := by decide +kernel
theorem d_C_look_96 : decode b_C_look 96 = .ok (.ireturn, 1) := by decide +kernel
theorem d_C_look_97 : decode b_C_look 97 = .ok (.aload_n 2, 1) := by decide +kernel
theorem d_C_look_98 : decode b_C_look 98 = .ok (.getfield 54, 3) := by decide +kernel
theorem d_C_look_101 : decode b_C_look 101 = .ok (.ireturn, 1) := by decide +kernel
theorem d_C_look_102 : decode b_C_look 102 = .ok (.aload_n 2, 1) := by decide +kernel
theorem d_C_look_103 : decode b_C_look 103 = .ok (.getfield 60, 3) := by decide +kernel
theorem d_C_look_106 : decode b_C_look 106 = .ok (.ireturn, 1) := by decide +kernel
theorem d_C_look_107 : decode b_C_look 107 = .ok (.aload_n 2, 1) := by decide +kernel
theorem d_C_look_108 : decode b_C_look 108 = .ok (.getfield 63, 3) := by decide +kernel
theorem d_C_look_111 : decode b_C_look 111 = .ok (.ireturn, 1) := by decide +kernel
theorem d_C_look_112 : decode b_C_look 112 = .ok (.aload_n 2, 1) := by decide +kernel
theorem d_C_look_113 : decode b_C_look 113 = .ok (.invokevirtual 140, 3) := by decide +kernel
theorem d_C_look_116 : decode b_C_look 116 = .ok (.ireturn, 1) := by decide +kernel
theorem d_C_look_117 : decode b_C_look 117 = .ok (.aload_n 2, 1) := by decide +kernel
theorem d_C_look_118 : decode b_C_look 118 = .ok (.getfield 144, 3) := by decide +kernel
theorem d_C_look_121 : decode b_C_look 121 = .ok (.ireturn, 1) := by decide +kernel
theorem d_C_look_122 : decode b_C_look 122 = .ok (.aload_n 2, 1) := by decide +kernel
theorem d_C_look_123 : decode b_C_look 123 = .ok (.getfield 147, 3) := by decide +kernel
theorem d_C_look_126 : decode b_C_look 126 = .ok (.ifCond .eq 7, 3) := by decide +kernel
theorem d_C_look_129 : decode b_C_look 129 = .ok (.iconst 1, 1) := by decide +kernel
theorem d_C_look_130 : decode b_C_look 130 = .ok (.goto 4, 3) := by decide +kernel
theorem d_C_look_133 : decode b_C_look 133 = .ok (.iconst 0, 1) := by decide +kernel
theorem d_C_look_134 : decode b_C_look 134 = .ok (.ireturn, 1) := by decide +kernel
theorem d_C_look_135 : decode b_C_look 135 = .ok (.aload_n 0, 1) := by decide +kernel
theorem d_C_look_136 : decode b_C_look 136 = .ok (.getfield 10, 3) := by decide +kernel
theorem d_C_look_139 : decode b_C_look 139 = .ok (.getfield 94, 3) := by decide +kernel
theorem d_C_look_142 : decode b_C_look 142 = .ok (.getfield 150, 3) := by decide +kernel
theorem d_C_look_145 : decode b_C_look 145 = .ok (.ireturn, 1) := by decide +kernel
theorem d_C_look_146 : decode b_C_look 146 = .ok (.aload_n 0, 1) := by decide +kernel
theorem d_C_look_147 : decode b_C_look 147 = .ok (.getfield 10, 3) := by decide +kernel
theorem d_C_look_150 : decode b_C_look 150 = .ok (.getfield 94, 3) := by decide +kernel
theorem d_C_look_153 : decode b_C_look 153 = .ok (.getfield 153, 3) := by decide +kernel
theorem d_C_look_156 : decode b_C_look 156 = .ok (.ireturn, 1) := by decide +kernel
theorem d_C_look_157 : decode b_C_look 157 = .ok (.aload_n 0, 1) := by decide +kernel
theorem d_C_look_158 : decode b_C_look 158 = .ok (.getfield 10, 3) := by decide +kernel
theorem d_C_look_161 : decode b_C_look 161 = .ok (.getfield 156, 3) := by decide +kernel
theorem d_C_look_164 : decode b_C_look 164 = .ok (.ireturn, 1) := by decide +kernel
theorem d_C_look_165 : decode b_C_look 165 = .ok (.aload_n 0, 1) := by decide +kernel
theorem d_C_look_166 : decode b_C_look 166 = .ok (.getfield 10, 3) := by decide +kernel
theorem d_C_look_169 : decode b_C_look 169 = .ok (.getfield 159, 3) := by decide +kernel
theorem d_C_look_172 : decode b_C_look 172 = .ok (.ireturn, 1) := by decide +kernel
theorem d_C_look_173 : decode b_C_look 173 = .ok (.aload_n 0, 1) := by decide +kernel
theorem d_C_look_174 : decode b_C_look 174 = .ok (.getfield 10, 3) := by decide +kernel
theorem d_C_look_177 : decode b_C_look 177 = .ok (.getfield 94, 3) := by decide +kernel
theorem d_C_look_180 : decode b_C_look 180 = .ok (.getfield 162, 3) := by decide +kernel
theorem d_C_look_183 : decode b_C_look 183 = .ok (.ireturn, 1) := by decide +kernel
theorem d_C_look_184 : decode b_C_look 184 = .ok (.iconst (-1), 1) := by decide +kernel
theorem d_C_look_185 : decode b_C_look 185 = .ok (.ireturn, 1) := by decide +kernel
theorem d_C_pool_0 : decode b_C_pool 0 = .ok (.iload_n 1, 1) := by decide +kernel
theorem d_C_pool_1 : decode b_C_pool 1 = .ok (.ifCond .lt 19, 3) := by decide +kernel
theorem d_C_pool_4 : decode b_C_pool 4 = .ok (.iload_n 1, 1) := by decide +kernel
theorem d_C_pool_5 : decode b_C_pool 5 = .ok (.bipush 24, 2) := by decide +kernel
theorem d_C_pool_7 : decode b_C_pool 7 = .ok (.if_icmp .gt 13, 3) := by decide +kernel
theorem d_C_pool_10 : decode b_C_pool 10 = .ok (.iload_n 2, 1) := by decide +kernel
theorem d_C_pool_11 : decode b_C_pool 11 = .ok (.ifCond .lt 9, 3) := by decide +kernel
theorem d_C_pool_14 : decode b_C_pool 14 = .ok (.iload_n 2, 1) := by decide +kernel
theorem d_C_pool_15 : decode b_C_pool 15 = .ok (.bipush 31, 2) := by decide +kernel
theorem d_C_pool_17 : decode b_C_pool 17 = .ok (.if_icmp .le 13, 3) := by decide +kernel
theorem d_C_pool_20 : decode b_C_pool 20 = .ok (.new 30, 3) := by decide +kernel
theorem d_C_pool_30 : decode b_C_pool 30 = .ok (.aload_n 0, 1) := by decide +kernel
theorem d_C_pool_31 : decode b_C_pool 31 = .ok (.getfield 10, 3) := by decide +kernel
theorem d_C_pool_34 : decode b_C_pool 34 = .ok (.getfield 37, 3) := by decide +kernel
theorem d_C_pool_37 : decode b_C_pool 37 = .ok (.ifCond .eq 13, 3) := by decide +kernel
theorem d_C_pool_40 : decode b_C_pool 40 = .ok (.new 41, 3) := by decide +kernel
theorem d_C_pool_50 : decode b_C_pool 50 = .ok (.aload_n 0, 1) := by decide +kernel
theorem d_C_pool_51 : decode b_C_pool 51 = .ok (.getfield 10, 3) := by decide +kernel
theorem d_C_pool_54 : decode b_C_pool 54 = .ok (.getfield 22, 3) := by decide +kernel
theorem d_C_pool_57 : decode b_C_pool 57 = .ok (.iload_n 1, 1) := by decide +kernel
theorem d_C_pool_58 : decode b_C_pool 58 = .ok (.invokevirtual 46, 3) := by decide +kernel
theorem d_C_pool_61 : decode b_C_pool 61 = .ok (.aload_n 0, 1) := by decide +kernel
theorem d_C_pool_62 : decode b_C_pool 62 = .ok (.getfield 10, 3) := by decide +kernel
theorem d_C_pool_65 : decode b_C_pool 65 = .ok (.getfield 50, 3) := by decide +kernel
theorem d_C_pool_68 : decode b_C_pool 68 = .ok (.iload_n 1, 1) := by decide +kernel
theorem d_C_pool_69 : decode b_C_pool 69 = .ok (.ifCond .ne 7, 3) := by decide +kernel
theorem d_C_pool_72 : decode b_C_pool 72 = .ok (.iconst 0, 1) := by decide +kernel
theorem d_C_pool_73 : decode b_C_pool 73 = .ok (.goto 4, 3) := by decide +kernel
theorem d_C_pool_76 : decode b_C_pool 76 = .ok (.iconst 1, 1) := by decide +kernel
theorem d_C_pool_77 : decode b_C_pool 77 = .ok (.putfield 54, 3) := by decide +kernel
theorem d_C_pool_80 : decode b_C_pool 80 = .ok (.aload_n 0, 1) := by decide +kernel
theorem d_C_pool_81 : decode b_C_pool 81 = .ok (.getfield 10, 3) := by decide +kernel
theorem d_C_pool_84 : decode b_C_pool 84 = .ok (.getfield 50, 3) := by decide +kernel
theorem d_C_pool_87 : decode b_C_pool 87 = .ok (.iload_n 2, 1) := by decide +kernel
theorem d_C_pool_88 : decode b_C_pool 88 = .ok (.putfield 60, 3) := by decide +kernel
theorem d_C_pool_91 : decode b_C_pool 91 = .ok (.aload_n 0, 1) := by decide +kernel
theorem d_C_pool_92 : decode b_C_pool 92 = .ok (.getfield 10, 3) := by decide +kernel
theorem d_C_pool_95 : decode b_C_pool 95 = .ok (.getfield 50, 3) := by decide +kernel
theorem d_C_pool_98 : decode b_C_pool 98 = .ok (.iconst 0, 1) := by decide +kernel
theorem d_C_pool_99 : decode b_C_pool 99 = .ok (.putfield 63, 3) := by decide +kernel
theorem d_C_pool_102 : decode b_C_pool 102 = .ok (.return_, 1) := by decide +kernel
theorem d_C_put_0 : decode b_C_put 0 = .ok (.iload_n 1, 1) := by decide +kernel
theorem d_C_put_1 : decode b_C_put 1 = .ok (.invokestatic 16, 3) := by decide +kernel
theorem d_C_put_4 : decode b_C_put 4 = .ok (.ifCond .ne 5, 3) := by decide +kernel
theorem d_C_put_7 : decode b_C_put 7 = .ok (.iconst 0, 1) := by decide +kernel
theorem d_C_put_8 : decode b_C_put 8 = .ok (.ireturn, 1) := by decide +kernel
theorem d_C_put_9 : decode b_C_put 9 = .ok (.aload_n 0, 1) := by decide +kernel
theorem d_C_put_10 : decode b_C_put 10 = .ok (.getfield 10, 3) := by decide +kernel
theorem d_C_put_13 : decode b_C_put 13 = .ok (.getfield 22, 3) := by decide +kernel
theorem d_C_put_16 : decode b_C_put 16 = .ok (.iload_n 1, 1) := by decide +kernel
theorem d_C_put_17 : decode b_C_put 17 = .ok (.iload_n 2, 1) := by decide +kernel
theorem d_C_put_18 : decode b_C_put 18 = .ok (.invokevirtual 26, 3) := by decide +kernel
theorem d_C_put_21 : decode b_C_put 21 = .ok (.iconst 1, 1) := by decide +kernel
theorem d_C_put_22 : decode b_C_put 22 = .ok (.ireturn, 1) := by decide +kernel
theorem d_C_range_0 : decode b_C_range 0 = .ok (.iload_n 1, 1) := by decide +kernel
theorem d_C_range_1 : decode b_C_range 1 = .ok (.ifCond .lt 17, 3) := by decide +kernel
theorem d_C_range_4 : decode b_C_range 4 = .ok (.iload_n 1, 1) := by decide +kernel
theorem d_C_range_5 : decode b_C_range 5 = .ok (.iconst 2, 1) := by decide +kernel
theorem d_C_range_6 : decode b_C_range 6 = .ok (.if_icmp .ge 12, 3) := by decide +kernel
theorem d_C_range_9 : decode b_C_range 9 = .ok (.iload_n 2, 1) := by decide +kernel
theorem d_C_range_10 : decode b_C_range 10 = .ok (.ifCond .lt 8, 3) := by decide +kernel
theorem d_C_range_13 : decode b_C_range 13 = .ok (.iload_n 2, 1) := by decide +kernel
theorem d_C_range_14 : decode b_C_range 14 = .ok (.iconst 3, 1) := by decide +kernel
theorem d_C_range_15 : decode b_C_range 15 = .ok (.if_icmp .lt 13, 3) := by decide +kernel
theorem d_C_range_18 : decode b_C_range 18 = .ok (.new 30, 3) := by decide +kernel
theorem d_C_range_28 : decode b_C_range 28 = .ok (.iload 5, 2) := by decide +kernel
theorem d_C_range_30 : decode b_C_range 30 = .ok (.ifCond .lt 9, 3) := by decide +kernel
theorem d_C_range_33 : decode b_C_range 33 = .ok (.iload 5, 2) := by decide +kernel
theorem d_C_range_35 : decode b_C_range 35 = .ok (.iconst 3, 1) := by decide +kernel
theorem d_C_range_36 : decode b_C_range 36 = .ok (.if_icmp .le 13, 3) := by decide +kernel
theorem d_C_range_39 : decode b_C_range 39 = .ok (.new 30, 3) := by decide +kernel
theorem d_C_range_49 : decode b_C_range 49 = .ok (.aload_n 0, 1) := by decide +kernel
theorem d_C_range_50 : decode b_C_range 50 = .ok (.getfield 10, 3) := by decide +kernel
theorem d_C_range_53 : decode b_C_range 53 = .ok (.getfield 76, 3) := by decide +kernel
theorem d_C_range_56 : decode b_C_range 56 = .ok (.iload_n 1, 1) := by decide +kernel
theorem d_C_range_57 : decode b_C_range 57 = .ok (.iconst 3, 1) := by decide +kernel
theorem d_C_range_58 : decode b_C_range 58 = .ok (.imul, 1) := by decide +kernel
theorem d_C_range_59 : decode b_C_range 59 = .ok (.iload_n 2, 1) := by decide +kernel
theorem d_C_range_60 : decode b_C_range 60 = .ok (.iadd, 1) := by decide +kernel
theorem d_C_range_61 : decode b_C_range 61 = .ok (.iload_n 3, 1) := by decide +kernel
theorem d_C_range_62 : decode b_C_range 62 = .ok (.iload 4, 2) := by decide +kernel
theorem d_C_range_64 : decode b_C_range 64 = .ok (.iload 5, 2) := by decide +kernel
theorem d_C_range_66 : decode b_C_range 66 = .ok (.invokevirtual 80, 3) := by decide +kernel
theorem d_C_range_69 : decode b_C_range 69 = .ok (.return_, 1) := by decide +kernel
theorem d_C_register_0 : decode b_C_register 0 = .ok (.iload_n 1, 1) := by decide +kernel
theorem d_C_register_1 : decode b_C_register 1 = .ok (.ifCond .lt 18, 3) := by decide +kernel
theorem d_C_register_4 : decode b_C_register 4 = .ok (.iload_n 1, 1) := by decide +kernel
theorem d_C_register_5 : decode b_C_register 5 = .ok (.iconst 1, 1) := by decide +kernel
theorem d_C_register_6 : decode b_C_register 6 = .ok (.if_icmp .gt 13, 3) := by decide +kernel
theorem d_C_register_9 : decode b_C_register 9 = .ok (.iload_n 2, 1) := by decide +kernel
theorem d_C_register_10 : decode b_C_register 10 = .ok (.ifCond .lt 9, 3) := by decide +kernel
theorem d_C_register_13 : decode b_C_register 13 = .ok (.iload_n 2, 1) := by decide +kernel
theorem d_C_register_14 : decode b_C_register 14 = .ok (.bipush 7, 2) := by decide +kernel
theorem d_C_register_16 : decode b_C_register 16 = .ok (.if_icmp .le 13, 3) := by decide +kernel
theorem d_C_register_19 : decode b_C_register 19 = .ok (.new 121, 3) := by decide +kernel
theorem d_C_register_29 : decode b_C_register 29 = .ok (.iload_n 1, 1) := by decide +kernel
theorem d_C_register_30 : decode b_C_register 30 = .ok (.ifCond .ne 18, 3) := by decide +kernel
theorem d_C_register_33 : decode b_C_register 33 = .ok (.aload_n 0, 1) := by decide +kernel
theorem d_C_register_34 : decode b_C_register 34 = .ok (.getfield 10, 3) := by decide +kernel
theorem d_C_register_37 : decode b_C_register 37 = .ok (.getfield 50, 3) := by decide +kernel
theorem d_C_register_40 : decode b_C_register 40 = .ok (.getfield 126, 3) := by decide +kernel
theorem d_C_register_43 : decode b_C_register 43 = .ok (.iload_n 2, 1) := by decide +kernel
theorem d_C_register_44 : decode b_C_register 44 = .ok (.iaload, 1) := by decide +kernel
theorem d_C_register_45 : decode b_C_register 45 = .ok (.goto 15, 3) := by decide +kernel
theorem d_C_register_48 : decode b_C_register 48 = .ok (.aload_n 0, 1) := by decide +kernel
theorem d_C_register_49 : decode b_C_register 49 = .ok (.getfield 10, 3) := by decide +kernel
theorem d_C_register_52 : decode b_C_register 52 = .ok (.getfield 50, 3) := by decide +kernel
theorem d_C_register_55 : decode b_C_register 55 = .ok (.getfield 130, 3) := by decide +kernel
theorem d_C_register_58 : decode b_C_register 58 = .ok (.iload_n 2, 1) := by decide +kernel
theorem d_C_register_59 : decode b_C_register 59 = .ok (.iaload, 1) := by decide +kernel
theorem d_C_register_60 : decode b_C_register 60 = .ok (.ireturn, 1) := by decide +kernel
theorem d_C_request_0 : decode b_C_request 0 = .ok (.iload_n 1, 1) := by decide +kernel
theorem d_C_request_1 : decode b_C_request 1 = .ok (.invokestatic 89, 3) := by decide +kernel
theorem d_C_request_4 : decode b_C_request 4 = .ok (.ifCond .eq 17, 3) := by decide +kernel
theorem d_C_request_7 : decode b_C_request 7 = .ok (.aload_n 0, 1) := by decide +kernel
theorem d_C_request_8 : decode b_C_request 8 = .ok (.getfield 10, 3) := by decide +kernel
theorem d_C_request_11 : decode b_C_request 11 = .ok (.getfield 94, 3) := by decide +kernel
theorem d_C_request_14 : decode b_C_request 14 = .ok (.iload_n 1, 1) := by decide +kernel
theorem d_C_request_15 : decode b_C_request 15 = .ok (.invokevirtual 104, 3) := by decide +kernel
theorem d_C_request_18 : decode b_C_request 18 = .ok (.ifCond .eq 5, 3) := by decide +kernel
theorem d_C_request_21 : decode b_C_request 21 = .ok (.iconst 0, 1) := by decide +kernel
theorem d_C_request_22 : decode b_C_request 22 = .ok (.ireturn, 1) := by decide +kernel
theorem d_C_request_23 : decode b_C_request 23 = .ok (.aload_n 0, 1) := by decide +kernel
theorem d_C_request_24 : decode b_C_request 24 = .ok (.getfield 10, 3) := by decide +kernel
theorem d_C_request_27 : decode b_C_request 27 = .ok (.getfield 94, 3) := by decide +kernel
theorem d_C_request_30 : decode b_C_request 30 = .ok (.iload_n 1, 1) := by decide +kernel
theorem d_C_request_31 : decode b_C_request 31 = .ok (.invokevirtual 107, 3) := by decide +kernel
theorem d_C_request_34 : decode b_C_request 34 = .ok (.iconst 1, 1) := by decide +kernel
theorem d_C_request_35 : decode b_C_request 35 = .ok (.ireturn, 1) := by decide +kernel
theorem d_C_run_0 : decode b_C_run 0 = .ok (.iload_n 1, 1) := by decide +kernel
theorem d_C_run_1 : decode b_C_run 1 = .ok (.ifCond .lt 10, 3) := by decide +kernel
theorem d_C_run_4 : decode b_C_run 4 = .ok (.iload_n 1, 1) := by decide +kernel
theorem d_C_run_5 : decode b_C_run 5 = .ok (.sipush 300, 3) := by decide +kernel
theorem d_C_run_8 : decode b_C_run 8 = .ok (.if_icmp .le 13, 3) := by decide +kernel
theorem d_C_run_11 : decode b_C_run 11 = .ok (.new 30, 3) := by decide +kernel
theorem d_C_run_21 : decode b_C_run 21 = .ok (.iconst 0, 1) := by decide +kernel
theorem d_C_run_22 : decode b_C_run 22 = .ok (.istore_n 2, 1) := by decide +kernel
theorem d_C_run_23 : decode b_C_run 23 = .ok (.iload_n 2, 1) := by decide +kernel
theorem d_C_run_24 : decode b_C_run 24 = .ok (.iload_n 1, 1) := by decide +kernel
theorem d_C_run_25 : decode b_C_run 25 = .ok (.if_icmp .ge 26, 3) := by decide +kernel
theorem d_C_run_28 : decode b_C_run 28 = .ok (.aload_n 0, 1) := by decide +kernel
theorem d_C_run_29 : decode b_C_run 29 = .ok (.getfield 10, 3) := by decide +kernel
theorem d_C_run_32 : decode b_C_run 32 = .ok (.getfield 37, 3) := by decide +kernel
theorem d_C_run_35 : decode b_C_run 35 = .ok (.ifCond .eq 16, 3) := by decide +kernel
theorem d_C_run_38 : decode b_C_run 38 = .ok (.aload_n 0, 1) := by decide +kernel
theorem d_C_run_39 : decode b_C_run 39 = .ok (.getfield 10, 3) := by decide +kernel
theorem d_C_run_42 : decode b_C_run 42 = .ok (.invokevirtual 118, 3) := by decide +kernel
theorem d_C_run_45 : decode b_C_run 45 = .ok (.iinc 2 1, 3) := by decide +kernel
theorem d_C_run_48 : decode b_C_run 48 = .ok (.goto (-25), 3) := by decide +kernel
theorem d_C_run_51 : decode b_C_run 51 = .ok (.iload_n 2, 1) := by decide +kernel
theorem d_C_run_52 : decode b_C_run 52 = .ok (.ireturn, 1) := by decide +kernel
theorem d_C_start_0 : decode b_C_start 0 = .ok (.iload_n 2, 1) := by decide +kernel
theorem d_C_start_1 : decode b_C_start 1 = .ok (.ifCond .lt 8, 3) := by decide +kernel
theorem d_C_start_4 : decode b_C_start 4 = .ok (.iload_n 2, 1) := by decide +kernel
theorem d_C_start_5 : decode b_C_start 5 = .ok (.iconst 2, 1) := by decide +kernel
theorem d_C_start_6 : decode b_C_start 6 = .ok (.if_icmp .le 13, 3) := by decide +kernel
theorem d_C_start_9 : decode b_C_start 9 = .ok (.new 30, 3) := by decide +kernel
theorem d_C_start_19 : decode b_C_start 19 = .ok (.aload_n 0, 1) := by decide +kernel
theorem d_C_start_20 : decode b_C_start 20 = .ok (.getfield 10, 3) := by decide +kernel
theorem d_C_start_23 : decode b_C_start 23 = .ok (.getfield 37, 3) := by decide +kernel
theorem d_C_start_26 : decode b_C_start 26 = .ok (.ifCond .eq 13, 3) := by decide +kernel
theorem d_C_start_29 : decode b_C_start 29 = .ok (.new 41, 3) := by decide +kernel
theorem d_C_start_39 : decode b_C_start 39 = .ok (.aload_n 0, 1) := by decide +kernel
theorem d_C_start_40 : decode b_C_start 40 = .ok (.getfield 10, 3) := by decide +kernel
theorem d_C_start_43 : decode b_C_start 43 = .ok (.getfield 50, 3) := by decide +kernel
theorem d_C_start_46 : decode b_C_start 46 = .ok (.iload_n 1, 1) := by decide +kernel
theorem d_C_start_47 : decode b_C_start 47 = .ok (.iload_n 2, 1) := by decide +kernel
theorem d_C_start_48 : decode b_C_start 48 = .ok (.iload_n 3, 1) := by decide +kernel
theorem d_C_start_49 : decode b_C_start 49 = .ok (.invokevirtual 112, 3) := by decide +kernel
theorem d_C_start_52 : decode b_C_start 52 = .ok (.aload_n 0, 1) := by decide +kernel
theorem d_C_start_53 : decode b_C_start 53 = .ok (.getfield 10, 3) := by decide +kernel
theorem d_C_start_56 : decode b_C_start 56 = .ok (.iconst 1, 1) := by decide +kernel
theorem d_C_start_57 : decode b_C_start 57 = .ok (.putfield 37, 3) := by decide +kernel
theorem d_C_start_60 : decode b_C_start 60 = .ok (.return_, 1) := by decide +kernel
theorem d_C_tables_0 : decode b_C_tables 0 = .ok (.aload_n 0, 1) := by decide +kernel
theorem d_C_tables_1 : decode b_C_tables 1 = .ok (.getfield 10, 3) := by decide +kernel
theorem d_C_tables_4 : decode b_C_tables 4 = .ok (.iload_n 1, 1) := by decide +kernel
theorem d_C_tables_5 : decode b_C_tables 5 = .ok (.putfield 66, 3) := by decide +kernel
theorem d_C_tables_8 : decode b_C_tables 8 = .ok (.aload_n 0, 1) := by decide +kernel
theorem d_C_tables_9 : decode b_C_tables 9 = .ok (.getfield 10, 3) := by decide +kernel
theorem d_C_tables_12 : decode b_C_tables 12 = .ok (.iload_n 2, 1) := by decide +kernel
theorem d_C_tables_13 : decode b_C_tables 13 = .ok (.putfield 69, 3) := by decide +kernel
theorem d_C_tables_16 : decode b_C_tables 16 = .ok (.return_, 1) := by decide +kernel
theorem d_C_timer_0 : decode b_C_timer 0 = .ok (.iload_n 1, 1) := by decide +kernel
theorem d_C_timer_1 : decode b_C_timer 1 = .ok (.ifCond .lt 10, 3) := by decide +kernel
theorem d_C_timer_4 : decode b_C_timer 4 = .ok (.iload_n 2, 1) := by decide +kernel
theorem d_C_timer_5 : decode b_C_timer 5 = .ok (.invokestatic 89, 3) := by decide +kernel
theorem d_C_timer_8 : decode b_C_timer 8 = .ok (.ifCond .ne 13, 3) := by decide +kernel
theorem d_C_timer_11 : decode b_C_timer 11 = .ok (.new 30, 3) := by decide +kernel
theorem d_C_timer_21 : decode b_C_timer 21 = .ok (.aload_n 0, 1) := by decide +kernel
theorem d_C_timer_22 : decode b_C_timer 22 = .ok (.getfield 10, 3) := by decide +kernel
theorem d_C_timer_25 : decode b_C_timer 25 = .ok (.getfield 94, 3) := by decide +kernel
theorem d_C_timer_28 : decode b_C_timer 28 = .ok (.iload_n 1, 1) := by decide +kernel
theorem d_C_timer_29 : decode b_C_timer 29 = .ok (.putfield 98, 3) := by decide +kernel
theorem d_C_timer_32 : decode b_C_timer 32 = .ok (.aload_n 0, 1) := by decide +kernel
theorem d_C_timer_33 : decode b_C_timer 33 = .ok (.getfield 10, 3) := by decide +kernel
theorem d_C_timer_36 : decode b_C_timer 36 = .ok (.getfield 94, 3) := by decide +kernel
theorem d_C_timer_39 : decode b_C_timer 39 = .ok (.iload_n 2, 1) := by decide +kernel
theorem d_C_timer_40 : decode b_C_timer 40 = .ok (.putfield 101, 3) := by decide +kernel
theorem d_C_timer_43 : decode b_C_timer 43 = .ok (.return_, 1) := by decide +kernel
theorem d_C_word_0 : decode b_C_word 0 = .ok (.aload_n 0, 1) := by decide +kernel
theorem d_C_word_1 : decode b_C_word 1 = .ok (.getfield 10, 3) := by decide +kernel
theorem d_C_word_4 : decode b_C_word 4 = .ok (.getfield 22, 3) := by decide +kernel
theorem d_C_word_7 : decode b_C_word 7 = .ok (.iload_n 1, 1) := by decide +kernel
theorem d_C_word_8 : decode b_C_word 8 = .ok (.invokevirtual 133, 3) := by decide +kernel
theorem d_C_word_11 : decode b_C_word 11 = .ok (.ireturn, 1) := by decide +kernel
