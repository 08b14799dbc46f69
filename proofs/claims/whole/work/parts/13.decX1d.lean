theorem d_X_range_61 : decode b_X_range 61 = .ok (.iconst 3, 1) := by decide +kernel
theorem d_X_range_62 : decode b_X_range 62 = .ok (.iload_n 1, 1) := by decide +kernel
theorem d_X_range_63 : decode b_X_range 63 = .ok (.imul, 1) := by decide +kernel
theorem d_X_range_64 : decode b_X_range 64 = .ok (.iload_n 2, 1) := by decide +kernel
theorem d_X_range_65 : decode b_X_range 65 = .ok (.iadd, 1) := by decide +kernel
theorem d_X_range_66 : decode b_X_range 66 = .ok (.iload 4, 2) := by decide +kernel
theorem d_X_range_68 : decode b_X_range 68 = .ok (.iastore, 1) := by decide +kernel
theorem d_X_range_69 : decode b_X_range 69 = .ok (.aload_n 0, 1) := by decide +kernel
theorem d_X_range_70 : decode b_X_range 70 = .ok (.getfield 32, 3) := by decide +kernel
theorem d_X_range_73 : decode b_X_range 73 = .ok (.iconst 3, 1) := by decide +kernel
theorem d_X_range_74 : decode b_X_range 74 = .ok (.iload_n 1, 1) := by decide +kernel
theorem d_X_range_75 : decode b_X_range 75 = .ok (.imul, 1) := by decide +kernel
theorem d_X_range_76 : decode b_X_range 76 = .ok (.iload_n 2, 1) := by decide +kernel
theorem d_X_range_77 : decode b_X_range 77 = .ok (.iadd, 1) := by decide +kernel
theorem d_X_range_78 : decode b_X_range 78 = .ok (.iload 5, 2) := by decide +kernel
theorem d_X_range_80 : decode b_X_range 80 = .ok (.iastore, 1) := by decide +kernel
theorem d_X_range_81 : decode b_X_range 81 = .ok (.return_, 1) := by decide +kernel
theorem d_X_reckon_0 : decode b_X_reckon 0 = .ok (.aload_n 0, 1) := by decide +kernel
theorem d_X_reckon_1 : decode b_X_reckon 1 = .ok (.getfield 13, 3) := by decide +kernel
theorem d_X_reckon_4 : decode b_X_reckon 4 = .ok (.iload_n 3, 1) := by decide +kernel
theorem d_X_reckon_5 : decode b_X_reckon 5 = .ok (.iaload, 1) := by decide +kernel
theorem d_X_reckon_6 : decode b_X_reckon 6 = .ok (.istore 6, 2) := by decide +kernel
theorem d_X_reckon_8 : decode b_X_reckon 8 = .ok (.aload_n 0, 1) := by decide +kernel
theorem d_X_reckon_9 : decode b_X_reckon 9 = .ok (.getfield 13, 3) := by decide +kernel
theorem d_X_reckon_12 : decode b_X_reckon 12 = .ok (.iload 4, 2) := by decide +kernel
theorem d_X_reckon_14 : decode b_X_reckon 14 = .ok (.iaload, 1) := by decide +kernel
theorem d_X_reckon_15 : decode b_X_reckon 15 = .ok (.istore 7, 2) := by decide +kernel
theorem d_X_reckon_17 : decode b_X_reckon 17 = .ok (.iload_n 1, 1) := by decide +kernel
theorem d_X_reckon_18 : decode b_X_reckon 18 = .ok (.bipush 8, 2) := by decide +kernel
theorem d_X_reckon_20 : decode b_X_reckon 20 = .ok (.if_icmp .ne 31, 3) := by decide +kernel
theorem d_X_reckon_23 : decode b_X_reckon 23 = .ok (.aload_n 0, 1) := by decide +kernel
theorem d_X_reckon_24 : decode b_X_reckon 24 = .ok (.getfield 13, 3) := by decide +kernel
theorem d_X_reckon_27 : decode b_X_reckon 27 = .ok (.iload_n 2, 1) := by decide +kernel
theorem d_X_reckon_28 : decode b_X_reckon 28 = .ok (.iload 5, 2) := by decide +kernel
theorem d_X_reckon_30 : decode b_X_reckon 30 = .ok (.ifCond .ge 12, 3) := by decide +kernel
theorem d_X_reckon_33 : decode b_X_reckon 33 = .ok (.iload 6, 2) := by decide +kernel
theorem d_X_reckon_35 : decode b_X_reckon 35 = .ok (.iload 5, 2) := by decide +kernel
theorem d_X_reckon_37 : decode b_X_reckon 37 = .ok (.ineg, 1) := by decide +kernel
theorem d_X_reckon_38 : decode b_X_reckon 38 = .ok (.ishr, 1) := by decide +kernel
theorem d_X_reckon_39 : decode b_X_reckon 39 = .ok (.goto 8, 3) := by decide +kernel
theorem d_X_reckon_42 : decode b_X_reckon 42 = .ok (.iload 6, 2) := by decide +kernel
theorem d_X_reckon_44 : decode b_X_reckon 44 = .ok (.iload 5, 2) := by decide +kernel
theorem d_X_reckon_46 : decode b_X_reckon 46 = .ok (.ishl, 1) := by decide +kernel
theorem d_X_reckon_47 : decode b_X_reckon 47 = .ok (.iastore, 1) := by decide +kernel
theorem d_X_reckon_48 : decode b_X_reckon 48 = .ok (.goto 157, 3) := by decide +kernel
theorem d_X_reckon_51 : decode b_X_reckon 51 = .ok (.iload_n 1, 1) := by decide +kernel
theorem d_X_reckon_52 : decode b_X_reckon 52 = .ok (.bipush 8, 2) := by decide +kernel
theorem d_X_reckon_54 : decode b_X_reckon 54 = .ok (.if_icmp .ge 93, 3) := by decide +kernel
theorem d_X_reckon_57 : decode b_X_reckon 57 = .ok (.aload_n 0, 1) := by decide +kernel
theorem d_X_reckon_58 : decode b_X_reckon 58 = .ok (.getfield 13, 3) := by decide +kernel
theorem d_X_reckon_61 : decode b_X_reckon 61 = .ok (.iload_n 2, 1) := by decide +kernel
theorem d_X_reckon_62 : decode b_X_reckon 62 = .ok (.iload_n 1, 1) := by decide +kernel
theorem d_X_reckon_63 : decode b_X_reckon 63 = .ok (.iconst 1, 1) := by decide +kernel
theorem d_X_reckon_64 : decode b_X_reckon 64 = .ok (.if_icmp .ne 8, 3) := by decide +kernel
theorem d_X_reckon_67 : decode b_X_reckon 67 = .ok (.iload 5, 2) := by decide +kernel
theorem d_X_reckon_69 : decode b_X_reckon 69 = .ok (.goto 74, 3) := by decide +kernel
theorem d_X_reckon_72 : decode b_X_reckon 72 = .ok (.iload_n 1, 1) := by decide +kernel
theorem d_X_reckon_73 : decode b_X_reckon 73 = .ok (.iconst 2, 1) := by decide +kernel
theorem d_X_reckon_74 : decode b_X_reckon 74 = .ok (.if_icmp .ne 11, 3) := by decide +kernel
theorem d_X_reckon_77 : decode b_X_reckon 77 = .ok (.iload 6, 2) := by decide +kernel
theorem d_X_reckon_79 : decode b_X_reckon 79 = .ok (.iload 5, 2) := by decide +kernel
theorem d_X_reckon_81 : decode b_X_reckon 81 = .ok (.iadd, 1) := by decide +kernel
theorem d_X_reckon_82 : decode b_X_reckon 82 = .ok (.goto 61, 3) := by decide +kernel
theorem d_X_reckon_85 : decode b_X_reckon 85 = .ok (.iload_n 1, 1) := by decide +kernel
theorem d_X_reckon_86 : decode b_X_reckon 86 = .ok (.iconst 3, 1) := by decide +kernel
theorem d_X_reckon_87 : decode b_X_reckon 87 = .ok (.if_icmp .ne 11, 3) := by decide +kernel
theorem d_X_reckon_90 : decode b_X_reckon 90 = .ok (.iload 6, 2) := by decide +kernel
theorem d_X_reckon_92 : decode b_X_reckon 92 = .ok (.iload 7, 2) := by decide +kernel
theorem d_X_reckon_94 : decode b_X_reckon 94 = .ok (.iadd, 1) := by decide +kernel
theorem d_X_reckon_95 : decode b_X_reckon 95 = .ok (.goto 48, 3) := by decide +kernel
theorem d_X_reckon_98 : decode b_X_reckon 98 = .ok (.iload_n 1, 1) := by decide +kernel
theorem d_X_reckon_99 : decode b_X_reckon 99 = .ok (.iconst 4, 1) := by decide +kernel
theorem d_X_reckon_100 : decode b_X_reckon 100 = .ok (.if_icmp .ne 11, 3) := by decide +kernel
theorem d_X_reckon_103 : decode b_X_reckon 103 = .ok (.iload 6, 2) := by decide +kernel
theorem d_X_reckon_105 : decode b_X_reckon 105 = .ok (.iload 7, 2) := by decide +kernel
theorem d_X_reckon_107 : decode b_X_reckon 107 = .ok (.isub, 1) := by decide +kernel
theorem d_X_reckon_108 : decode b_X_reckon 108 = .ok (.goto 35, 3) := by decide +kernel
theorem d_X_reckon_111 : decode b_X_reckon 111 = .ok (.iload_n 1, 1) := by decide +kernel
theorem d_X_reckon_112 : decode b_X_reckon 112 = .ok (.iconst 5, 1) := by decide +kernel
theorem d_X_reckon_113 : decode b_X_reckon 113 = .ok (.if_icmp .ne 11, 3) := by decide +kernel
theorem d_X_reckon_116 : decode b_X_reckon 116 = .ok (.iload 6, 2) := by decide +kernel
theorem d_X_reckon_118 : decode b_X_reckon 118 = .ok (.iload 7, 2) := by decide +kernel
theorem d_X_reckon_120 : decode b_X_reckon 120 = .ok (.imul, 1) := by decide +kernel
theorem d_X_reckon_121 : decode b_X_reckon 121 = .ok (.goto 22, 3) := by decide +kernel
theorem d_X_reckon_124 : decode b_X_reckon 124 = .ok (.iload_n 1, 1) := by decide +kernel
theorem d_X_reckon_125 : decode b_X_reckon 125 = .ok (.bipush 6, 2) := by decide +kernel
theorem d_X_reckon_127 : decode b_X_reckon 127 = .ok (.if_icmp .ne 11, 3) := by decide +kernel
theorem d_X_reckon_130 : decode b_X_reckon 130 = .ok (.iload 6, 2) := by decide +kernel
theorem d_X_reckon_132 : decode b_X_reckon 132 = .ok (.iload 7, 2) := by decide +kernel
theorem d_X_reckon_134 : decode b_X_reckon 134 = .ok (.iand, 1) := by decide +kernel
theorem d_X_reckon_135 : decode b_X_reckon 135 = .ok (.goto 8, 3) := by decide +kernel
theorem d_X_reckon_138 : decode b_X_reckon 138 = .ok (.iload 6, 2) := by decide +kernel
theorem d_X_reckon_140 : decode b_X_reckon 140 = .ok (.iload 7, 2) := by decide +kernel
theorem d_X_reckon_142 : decode b_X_reckon 142 = .ok (.ixor, 1) := by decide +kernel
theorem d_X_reckon_143 : decode b_X_reckon 143 = .ok (.iastore, 1) := by decide +kernel
theorem d_X_reckon_144 : decode b_X_reckon 144 = .ok (.goto 61, 3) := by decide +kernel
theorem d_X_reckon_147 : decode b_X_reckon 147 = .ok (.iload_n 1, 1) := by decide +kernel
theorem d_X_reckon_148 : decode b_X_reckon 148 = .ok (.bipush 12, 2) := by decide +kernel
theorem d_X_reckon_150 : decode b_X_reckon 150 = .ok (.if_icmp .ne 18, 3) := by decide +kernel
theorem d_X_reckon_153 : decode b_X_reckon 153 = .ok (.aload_n 0, 1) := by decide +kernel
theorem d_X_reckon_154 : decode b_X_reckon 154 = .ok (.getfield 13, 3) := by decide +kernel
theorem d_X_reckon_157 : decode b_X_reckon 157 = .ok (.iload_n 2, 1) := by decide +kernel
theorem d_X_reckon_158 : decode b_X_reckon 158 = .ok (.aload_n 0, 1) := by decide +kernel
theorem d_X_reckon_159 : decode b_X_reckon 159 = .ok (.getfield 16, 3) := by decide +kernel
theorem d_X_reckon_162 : decode b_X_reckon 162 = .ok (.iload_n 3, 1) := by decide +kernel
theorem d_X_reckon_163 : decode b_X_reckon 163 = .ok (.iaload, 1) := by decide +kernel
theorem d_X_reckon_164 : decode b_X_reckon 164 = .ok (.iastore, 1) := by decide +kernel
theorem d_X_reckon_165 : decode b_X_reckon 165 = .ok (.goto 40, 3) := by decide +kernel
theorem d_X_reckon_168 : decode b_X_reckon 168 = .ok (.aload_n 0, 1) := by decide +kernel
theorem d_X_reckon_169 : decode b_X_reckon 169 = .ok (.getfield 16, 3) := by decide +kernel
theorem d_X_reckon_172 : decode b_X_reckon 172 = .ok (.iload_n 2, 1) := by decide +kernel
theorem d_X_reckon_173 : decode b_X_reckon 173 = .ok (.iload_n 1, 1) := by decide +kernel
theorem d_X_reckon_174 : decode b_X_reckon 174 = .ok (.bipush 9, 2) := by decide +kernel
theorem d_X_reckon_176 : decode b_X_reckon 176 = .ok (.if_icmp .ne 8, 3) := by decide +kernel
theorem d_X_reckon_179 : decode b_X_reckon 179 = .ok (.iload 5, 2) := by decide +kernel
theorem d_X_reckon_181 : decode b_X_reckon 181 = .ok (.goto 23, 3) := by decide +kernel
theorem d_X_reckon_184 : decode b_X_reckon 184 = .ok (.iload_n 1, 1) := by decide +kernel
theorem d_X_reckon_185 : decode b_X_reckon 185 = .ok (.bipush 10, 2) := by decide +kernel
theorem d_X_reckon_187 : decode b_X_reckon 187 = .ok (.if_icmp .ne 15, 3) := by decide +kernel
theorem d_X_reckon_190 : decode b_X_reckon 190 = .ok (.aload_n 0, 1) := by decide +kernel
theorem d_X_reckon_191 : decode b_X_reckon 191 = .ok (.getfield 16, 3) := by decide +kernel
theorem d_X_reckon_194 : decode b_X_reckon 194 = .ok (.iload_n 3, 1) := by decide +kernel
theorem d_X_reckon_195 : decode b_X_reckon 195 = .ok (.iaload, 1) := by decide +kernel
theorem d_X_reckon_196 : decode b_X_reckon 196 = .ok (.iload 5, 2) := by decide +kernel
theorem d_X_reckon_198 : decode b_X_reckon 198 = .ok (.iadd, 1) := by decide +kernel
theorem d_X_reckon_199 : decode b_X_reckon 199 = .ok (.goto 5, 3) := by decide +kernel
theorem d_X_reckon_202 : decode b_X_reckon 202 = .ok (.iload 6, 2) := by decide +kernel
theorem d_X_reckon_204 : decode b_X_reckon 204 = .ok (.iastore, 1) := by decide +kernel
theorem d_X_reckon_205 : decode b_X_reckon 205 = .ok (.return_, 1) := by decide +kernel
theorem d_X_register_0 : decode b_X_register 0 = .ok (.aload_n 0, 1) := by decide +kernel
theorem d_X_register_1 : decode b_X_register 1 = .ok (.iload_n 1, 1) := by decide +kernel
theorem d_X_register_2 : decode b_X_register 2 = .ok (.ifCond .lt 18, 3) := by decide +kernel
theorem d_X_register_5 : decode b_X_register 5 = .ok (.iload_n 1, 1) := by decide +kernel
theorem d_X_register_6 : decode b_X_register 6 = .ok (.iconst 1, 1) := by decide +kernel
theorem d_X_register_7 : decode b_X_register 7 = .ok (.if_icmp .gt 13, 3) := by decide +kernel
theorem d_X_register_10 : decode b_X_register 10 = .ok (.iload_n 2, 1) := by decide +kernel
theorem d_X_register_11 : decode b_X_register 11 = .ok (.ifCond .lt 9, 3) := by decide +kernel
theorem d_X_register_14 : decode b_X_register 14 = .ok (.iload_n 2, 1) := by decide +kernel
theorem d_X_register_15 : decode b_X_register 15 = .ok (.bipush 7, 2) := by decide +kernel
theorem d_X_register_17 : decode b_X_register 17 = .ok (.if_icmp .le 7, 3) := by decide +kernel
theorem d_X_register_20 : decode b_X_register 20 = .ok (.iconst 1, 1) := by decide +kernel
theorem d_X_register_21 : decode b_X_register 21 = .ok (.goto 4, 3) := by decide +kernel
theorem d_X_register_24 : decode b_X_register 24 = .ok (.iconst 0, 1) := by decide +kernel
theorem d_X_register_25 : decode b_X_register 25 = .ok (.putfield 38, 3) := by decide +kernel
theorem d_X_register_28 : decode b_X_register 28 = .ok (.aload_n 0, 1) := by decide +kernel
theorem d_X_register_29 : decode b_X_register 29 = .ok (.getfield 38, 3) := by decide +kernel
theorem d_X_register_32 : decode b_X_register 32 = .ok (.ifCond .le 7, 3) := by decide +kernel
theorem d_X_register_35 : decode b_X_register 35 = .ok (.iconst 0, 1) := by decide +kernel
theorem d_X_register_36 : decode b_X_register 36 = .ok (.goto 22, 3) := by decide +kernel
theorem d_X_register_39 : decode b_X_register 39 = .ok (.iload_n 1, 1) := by decide +kernel
theorem d_X_register_40 : decode b_X_register 40 = .ok (.ifCond .ne 12, 3) := by decide +kernel
theorem d_X_register_43 : decode b_X_register 43 = .ok (.aload_n 0, 1) := by decide +kernel
theorem d_X_register_44 : decode b_X_register 44 = .ok (.getfield 13, 3) := by decide +kernel
theorem d_X_register_47 : decode b_X_register 47 = .ok (.iload_n 2, 1) := by decide +kernel
theorem d_X_register_48 : decode b_X_register 48 = .ok (.iaload, 1) := by decide +kernel
theorem d_X_register_49 : decode b_X_register 49 = .ok (.goto 9, 3) := by decide +kernel
theorem d_X_register_52 : decode b_X_register 52 = .ok (.aload_n 0, 1) := by decide +kernel
theorem d_X_register_53 : decode b_X_register 53 = .ok (.getfield 16, 3) := by decide +kernel
theorem d_X_register_56 : decode b_X_register 56 = .ok (.iload_n 2, 1) := by decide +kernel
theorem d_X_register_57 : decode b_X_register 57 = .ok (.iaload, 1) := by decide +kernel
theorem d_X_register_58 : decode b_X_register 58 = .ok (.ireturn, 1) := by decide +kernel
theorem d_X_request_0 : decode b_X_request 0 = .ok (.aload_n 0, 1) := by decide +kernel
theorem d_X_request_1 : decode b_X_request 1 = .ok (.iconst 0, 1) := by decide +kernel
theorem d_X_request_2 : decode b_X_request 2 = .ok (.putfield 38, 3) := by decide +kernel
theorem d_X_request_5 : decode b_X_request 5 = .ok (.iload_n 1, 1) := by decide +kernel
theorem d_X_request_6 : decode b_X_request 6 = .ok (.iconst 1, 1) := by decide +kernel
theorem d_X_request_7 : decode b_X_request 7 = .ok (.if_icmp .lt 9, 3) := by decide +kernel
theorem d_X_request_10 : decode b_X_request 10 = .ok (.iload_n 1, 1) := by decide +kernel
theorem d_X_request_11 : decode b_X_request 11 = .ok (.bipush 15, 2) := by decide +kernel
theorem d_X_request_13 : decode b_X_request 13 = .ok (.if_icmp .le 5, 3) := by decide +kernel
theorem d_X_request_16 : decode b_X_request 16 = .ok (.iconst 0, 1) := by decide +kernel
theorem d_X_request_17 : decode b_X_request 17 = .ok (.ireturn, 1) := by decide +kernel
theorem d_X_request_18 : decode b_X_request 18 = .ok (.aload_n 0, 1) := by decide +kernel
theorem d_X_request_19 : decode b_X_request 19 = .ok (.getfield 137, 3) := by decide +kernel
theorem d_X_request_22 : decode b_X_request 22 = .ok (.iload_n 1, 1) := by decide +kernel
theorem d_X_request_23 : decode b_X_request 23 = .ok (.ishr, 1) := by decide +kernel
theorem d_X_request_24 : decode b_X_request 24 = .ok (.iconst 1, 1) := by decide +kernel
theorem d_X_request_25 : decode b_X_request 25 = .ok (.iand, 1) := by decide +kernel
theorem d_X_request_26 : decode b_X_request 26 = .ok (.iconst 1, 1) := by decide +kernel
theorem d_X_request_27 : decode b_X_request 27 = .ok (.if_icmp .ne 7, 3) := by decide +kernel
theorem d_X_request_30 : decode b_X_request 30 = .ok (.iconst 1, 1) := by decide +kernel
theorem d_X_request_31 : decode b_X_request 31 = .ok (.goto 4, 3) := by decide +kernel
theorem d_X_request_34 : decode b_X_request 34 = .ok (.iconst 0, 1) := by decide +kernel
theorem d_X_request_35 : decode b_X_request 35 = .ok (.istore_n 2, 1) := by decide +kernel
theorem d_X_request_36 : decode b_X_request 36 = .ok (.aload_n 0, 1) := by decide +kernel
theorem d_X_request_37 : decode b_X_request 37 = .ok (.aload_n 0, 1) := by decide +kernel
theorem d_X_request_38 : decode b_X_request 38 = .ok (.getfield 137, 3) := by decide +kernel
theorem d_X_request_41 : decode b_X_request 41 = .ok (.iconst 1, 1) := by decide +kernel
theorem d_X_request_42 : decode b_X_request 42 = .ok (.iload_n 1, 1) := by decide +kernel
theorem d_X_request_43 : decode b_X_request 43 = .ok (.ishl, 1) := by decide +kernel
theorem d_X_request_44 : decode b_X_request 44 = .ok (.ior, 1) := by decide +kernel
theorem d_X_request_45 : decode b_X_request 45 = .ok (.putfield 137, 3) := by decide +kernel
theorem d_X_request_48 : decode b_X_request 48 = .ok (.iload_n 2, 1) := by decide +kernel
theorem d_X_request_49 : decode b_X_request 49 = .ok (.ifCond .ne 7, 3) := by decide +kernel
theorem d_X_request_52 : decode b_X_request 52 = .ok (.iconst 1, 1) := by decide +kernel
theorem d_X_request_53 : decode b_X_request 53 = .ok (.goto 4, 3) := by decide +kernel
theorem d_X_request_56 : decode b_X_request 56 = .ok (.iconst 0, 1) := by decide +kernel
theorem d_X_request_57 : decode b_X_request 57 = .ok (.ireturn, 1) := by decide +kernel
theorem d_X_run_0 : decode b_X_run 0 = .ok (.aload_n 0, 1) := by decide +kernel
theorem d_X_run_1 : decode b_X_run 1 = .ok (.iload_n 1, 1) := by decide +kernel
theorem d_X_run_2 : decode b_X_run 2 = .ok (.ifCond .lt 10, 3) := by decide +kernel
theorem d_X_run_5 : decode b_X_run 5 = .ok (.iload_n 1, 1) := by decide +kernel
theorem d_X_run_6 : decode b_X_run 6 = .ok (.sipush 300, 3) := by decide +kernel
theorem d_X_run_9 : decode b_X_run 9 = .ok (.if_icmp .le 7, 3) := by decide +kernel
theorem d_X_run_12 : decode b_X_run 12 = .ok (.iconst 1, 1) := by decide +kernel
theorem d_X_run_13 : decode b_X_run 13 = .ok (.goto 4, 3) := by decide +kernel
theorem d_X_run_16 : decode b_X_run 16 = .ok (.iconst 0, 1) := by decide +kernel
theorem d_X_run_17 : decode b_X_run 17 = .ok (.putfield 38, 3) := by decide +kernel
theorem d_X_run_20 : decode b_X_run 20 = .ok (.iconst 0, 1) := by decide +kernel
theorem d_X_run_21 : decode b_X_run 21 = .ok (.istore_n 2, 1) := by decide +kernel
theorem d_X_run_22 : decode b_X_run 22 = .ok (.aload_n 0, 1) := by decide +kernel
theorem d_X_run_23 : decode b_X_run 23 = .ok (.getfield 38, 3) := by decide +kernel
theorem d_X_run_26 : decode b_X_run 26 = .ok (.ifCond .ne 25, 3) := by decide +kernel
theorem d_X_run_29 : decode b_X_run 29 = .ok (.iload_n 2, 1) := by decide +kernel
theorem d_X_run_30 : decode b_X_run 30 = .ok (.iload_n 1, 1) := by decide +kernel
theorem d_X_run_31 : decode b_X_run 31 = .ok (.if_icmp .ge 20, 3) := by decide +kernel
theorem d_X_run_34 : decode b_X_run 34 = .ok (.aload_n 0, 1) := by decide +kernel
theorem d_X_run_35 : decode b_X_run 35 = .ok (.getfield 45, 3) := by decide +kernel
theorem d_X_run_38 : decode b_X_run 38 = .ok (.ifCond .eq 13, 3) := by decide +kernel
theorem d_X_run_41 : decode b_X_run 41 = .ok (.aload_n 0, 1) := by decide +kernel
theorem d_X_run_42 : decode b_X_run 42 = .ok (.invokevirtual 153, 3) := by decide +kernel
theorem d_X_run_45 : decode b_X_run 45 = .ok (.iinc 2 1, 3) := by decide +kernel
theorem d_X_run_48 : decode b_X_run 48 = .ok (.goto (-26), 3) := by decide +kernel
theorem d_X_run_51 : decode b_X_run 51 = .ok (.iload_n 2, 1) := by decide +kernel
theorem d_X_run_52 : decode b_X_run 52 = .ok (.ireturn, 1) := by decide +kernel
theorem d_X_start_0 : decode b_X_start 0 = .ok (.aload_n 0, 1) := by decide +kernel
theorem d_X_start_1 : decode b_X_start 1 = .ok (.iload_n 2, 1) := by decide +kernel
theorem d_X_start_2 : decode b_X_start 2 = .ok (.ifCond .lt 8, 3) := by decide +kernel
theorem d_X_start_5 : decode b_X_start 5 = .ok (.iload_n 2, 1) := by decide +kernel
theorem d_X_start_6 : decode b_X_start 6 = .ok (.iconst 2, 1) := by decide +kernel
theorem d_X_start_7 : decode b_X_start 7 = .ok (.if_icmp .le 7, 3) := by decide +kernel
theorem d_X_start_10 : decode b_X_start 10 = .ok (.iconst 1, 1) := by decide +kernel
theorem d_X_start_11 : decode b_X_start 11 = .ok (.goto 15, 3) := by decide +kernel
theorem d_X_start_14 : decode b_X_start 14 = .ok (.aload_n 0, 1) := by decide +kernel
theorem d_X_start_15 : decode b_X_start 15 = .ok (.getfield 45, 3) := by decide +kernel
theorem d_X_start_18 : decode b_X_start 18 = .ok (.ifCond .eq 7, 3) := by decide +kernel
theorem d_X_start_21 : decode b_X_start 21 = .ok (.iconst 2, 1) := by decide +kernel
theorem d_X_start_22 : decode b_X_start 22 = .ok (.goto 4, 3) := by decide +kernel
theorem d_X_start_25 : decode b_X_start 25 = .ok (.iconst 0, 1) := by decide +kernel
theorem d_X_start_26 : decode b_X_start 26 = .ok (.putfield 38, 3) := by decide +kernel
theorem d_X_start_29 : decode b_X_start 29 = .ok (.aload_n 0, 1) := by decide +kernel
theorem d_X_start_30 : decode b_X_start 30 = .ok (.getfield 38, 3) := by decide +kernel
theorem d_X_start_33 : decode b_X_start 33 = .ok (.ifCond .le 4, 3) := by decide +kernel
theorem d_X_start_36 : decode b_X_start 36 = .ok (.return_, 1) := by decide +kernel
theorem d_X_start_37 : decode b_X_start 37 = .ok (.aload_n 0, 1) := by decide +kernel
theorem d_X_start_38 : decode b_X_start 38 = .ok (.iconst 1, 1) := by decide +kernel
theorem d_X_start_39 : decode b_X_start 39 = .ok (.putfield 45, 3) := by decide +kernel
theorem d_X_start_42 : decode b_X_start 42 = .ok (.aload_n 0, 1) := by decide +kernel
theorem d_X_start_43 : decode b_X_start 43 = .ok (.getfield 19, 3) := by decide +kernel
theorem d_X_start_46 : decode b_X_start 46 = .ok (.iconst 0, 1) := by decide +kernel
theorem d_X_start_47 : decode b_X_start 47 = .ok (.iload_n 1, 1) := by decide +kernel
theorem d_X_start_48 : decode b_X_start 48 = .ok (.iastore, 1) := by decide +kernel
theorem d_X_start_49 : decode b_X_start 49 = .ok (.aload_n 0, 1) := by decide +kernel
theorem d_X_start_50 : decode b_X_start 50 = .ok (.iload_n 2, 1) := by decide +kernel
theorem d_X_start_51 : decode b_X_start 51 = .ok (.putfield 53, 3) := by decide +kernel
theorem d_X_start_54 : decode b_X_start 54 = .ok (.aload_n 0, 1) := by decide +kernel
theorem d_X_start_55 : decode b_X_start 55 = .ok (.iconst 0, 1) := by decide +kernel
theorem d_X_start_56 : decode b_X_start 56 = .ok (.putfield 56, 3) := by decide +kernel
theorem d_X_start_59 : decode b_X_start 59 = .ok (.aload_n 0, 1) := by decide +kernel
theorem d_X_start_60 : decode b_X_start 60 = .ok (.iconst 0, 1) := by decide +kernel
theorem d_X_start_61 : decode b_X_start 61 = .ok (.putfield 59, 3) := by decide +kernel
theorem d_X_start_64 : decode b_X_start 64 = .ok (.aload_n 0, 1) := by decide +kernel
theorem d_X_start_65 : decode b_X_start 65 = .ok (.iconst 0, 1) := by decide +kernel
theorem d_X_start_66 : decode b_X_start 66 = .ok (.putfield 62, 3) := by decide +kernel
theorem d_X_start_69 : decode b_X_start 69 = .ok (.aload_n 0, 1) := by decide +kernel
theorem d_X_start_70 : decode b_X_start 70 = .ok (.iload_n 3, 1) := by decide +kernel
theorem d_X_start_71 : decode b_X_start 71 = .ok (.putfield 65, 3) := by decide +kernel
theorem d_X_start_74 : decode b_X_start 74 = .ok (.return_, 1) := by decide +kernel
theorem d_X_step_0 : decode b_X_step 0 = .ok (.aload_n 0, 1) := by decide +kernel
theorem d_X_step_1 : decode b_X_step 1 = .ok (.dup, 1) := by decide +kernel
theorem d_X_step_2 : decode b_X_step 2 = .ok (.getfield 131, 3) := by decide +kernel
theorem d_X_step_5 : decode b_X_step 5 = .ok (.iconst 1, 1) := by decide +kernel
theorem d_X_step_6 : decode b_X_step 6 = .ok (.iadd, 1) := by decide +kernel
theorem d_X_step_7 : decode b_X_step 7 = .ok (.putfield 131, 3) := by decide +kernel
theorem d_X_step_10 : decode b_X_step 10 = .ok (.aload_n 0, 1) := by decide +kernel
theorem d_X_step_11 : decode b_X_step 11 = .ok (.getfield 134, 3) := by decide +kernel
theorem d_X_step_14 : decode b_X_step 14 = .ok (.ifCond .le 41, 3) := by decide +kernel
theorem d_X_step_17 : decode b_X_step 17 = .ok (.aload_n 0, 1) := by decide +kernel
theorem d_X_step_18 : decode b_X_step 18 = .ok (.getfield 131, 3) := by decide +kernel
theorem d_X_step_21 : decode b_X_step 21 = .ok (.aload_n 0, 1) := by decide +kernel
theorem d_X_step_22 : decode b_X_step 22 = .ok (.getfield 134, 3) := by decide +kernel
theorem d_X_step_25 : decode b_X_step 25 = .ok (.ifCond .le 10, 3) := by decide +kernel
theorem d_X_step_28 : decode b_X_step 28 = .ok (.aload_n 0, 1) := by decide +kernel
theorem d_X_step_29 : decode b_X_step 29 = .ok (.getfield 134, 3) := by decide +kernel
theorem d_X_step_32 : decode b_X_step 32 = .ok (.goto 4, 3) := by decide +kernel
theorem d_X_step_36 : decode b_X_step 36 = .ok (.irem, 1) := by decide +kernel
theorem d_X_step_37 : decode b_X_step 37 = .ok (.ifCond .ne 18, 3) := by decide +kernel
theorem d_X_step_40 : decode b_X_step 40 = .ok (.aload_n 0, 1) := by decide +kernel
theorem d_X_step_41 : decode b_X_step 41 = .ok (.aload_n 0, 1) := by decide +kernel
theorem d_X_step_42 : decode b_X_step 42 = .ok (.getfield 137, 3) := by decide +kernel
theorem d_X_step_45 : decode b_X_step 45 = .ok (.iconst 1, 1) := by decide +kernel
theorem d_X_step_46 : decode b_X_step 46 = .ok (.aload_n 0, 1) := by decide +kernel
theorem d_X_step_47 : decode b_X_step 47 = .ok (.getfield 22, 3) := by decide +kernel
theorem d_X_step_50 : decode b_X_step 50 = .ok (.ishl, 1) := by decide +kernel
theorem d_X_step_51 : decode b_X_step 51 = .ok (.ior, 1) := by decide +kernel
theorem d_X_step_52 : decode b_X_step 52 = .ok (.putfield 137, 3) := by decide +kernel
theorem d_X_step_55 : decode b_X_step 55 = .ok (.aload_n 0, 1) := by decide +kernel
theorem d_X_step_56 : decode b_X_step 56 = .ok (.iconst 0, 1) := by decide +kernel
theorem d_X_step_57 : decode b_X_step 57 = .ok (.putfield 68, 3) := by decide +kernel
theorem d_X_step_60 : decode b_X_step 60 = .ok (.aload_n 0, 1) := by decide +kernel
theorem d_X_step_61 : decode b_X_step 61 = .ok (.iconst 0, 1) := by decide +kernel
theorem d_X_step_62 : decode b_X_step 62 = .ok (.putfield 78, 3) := by decide +kernel
theorem d_X_step_65 : decode b_X_step 65 = .ok (.aload_n 0, 1) := by decide +kernel
theorem d_X_step_66 : decode b_X_step 66 = .ok (.iconst 0, 1) := by decide +kernel
theorem d_X_step_67 : decode b_X_step 67 = .ok (.putfield 71, 3) := by decide +kernel
theorem d_X_step_70 : decode b_X_step 70 = .ok (.bipush 15, 2) := by decide +kernel
theorem d_X_step_72 : decode b_X_step 72 = .ok (.istore_n 1, 1) := by decide +kernel
theorem d_X_step_73 : decode b_X_step 73 = .ok (.iload_n 1, 1) := by decide +kernel
theorem d_X_step_74 : decode b_X_step 74 = .ok (.ifCond .le 20, 3) := by decide +kernel
theorem d_X_step_77 : decode b_X_step 77 = .ok (.aload_n 0, 1) := by decide +kernel
theorem d_X_step_78 : decode b_X_step 78 = .ok (.getfield 137, 3) := by decide +kernel
theorem d_X_step_81 : decode b_X_step 81 = .ok (.iload_n 1, 1) := by decide +kernel
theorem d_X_step_82 : decode b_X_step 82 = .ok (.ishr, 1) := by decide +kernel
theorem d_X_step_83 : decode b_X_step 83 = .ok (.iconst 1, 1) := by decide +kernel
theorem d_X_step_84 : decode b_X_step 84 = .ok (.iand, 1) := by decide +kernel
theorem d_X_step_85 : decode b_X_step 85 = .ok (.ifCond .ne 9, 3) := by decide +kernel
theorem d_X_step_88 : decode b_X_step 88 = .ok (.iinc 1 (-1), 3) := by decide +kernel
theorem d_X_step_91 : decode b_X_step 91 = .ok (.goto (-18), 3) := by decide +kernel
theorem d_X_step_94 : decode b_X_step 94 = .ok (.aload_n 0, 1) := by decide +kernel
theorem d_X_step_95 : decode b_X_step 95 = .ok (.getfield 19, 3) := by decide +kernel
theorem d_X_step_98 : decode b_X_step 98 = .ok (.iconst 0, 1) := by decide +kernel
theorem d_X_step_99 : decode b_X_step 99 = .ok (.iaload, 1) := by decide +kernel
theorem d_X_step_100 : decode b_X_step 100 = .ok (.istore_n 2, 1) := by decide +kernel
theorem d_X_step_101 : decode b_X_step 101 = .ok (.aload_n 0, 1) := by decide +kernel
theorem d_X_step_102 : decode b_X_step 102 = .ok (.getfield 65, 3) := by decide +kernel
theorem d_X_step_105 : decode b_X_step 105 = .ok (.ifCond .eq 59, 3) := by decide +kernel
theorem d_X_step_108 : decode b_X_step 108 = .ok (.iload_n 1, 1) := by decide +kernel
theorem d_X_step_109 : decode b_X_step 109 = .ok (.aload_n 0, 1) := by decide +kernel
theorem d_X_step_110 : decode b_X_step 110 = .ok (.getfield 62, 3) := by decide +kernel
theorem d_X_step_113 : decode b_X_step 113 = .ok (.if_icmp .le 51, 3) := by decide +kernel
theorem d_X_step_116 : decode b_X_step 116 = .ok (.aload_n 0, 1) := by decide +kernel
theorem d_X_step_117 : decode b_X_step 117 = .ok (.iload_n 2, 1) := by decide +kernel
theorem d_X_step_118 : decode b_X_step 118 = .ok (.aload_n 0, 1) := by decide +kernel
theorem d_X_step_119 : decode b_X_step 119 = .ok (.getfield 140, 3) := by decide +kernel
theorem d_X_step_122 : decode b_X_step 122 = .ok (.iconst 4, 1) := by decide +kernel
theorem d_X_step_123 : decode b_X_step 123 = .ok (.iload_n 1, 1) := by decide +kernel
theorem d_X_step_124 : decode b_X_step 124 = .ok (.imul, 1) := by decide +kernel
theorem d_X_step_125 : decode b_X_step 125 = .ok (.iadd, 1) := by decide +kernel
theorem d_X_step_126 : decode b_X_step 126 = .ok (.invokevirtual 84, 3) := by decide +kernel
theorem d_X_step_129 : decode b_X_step 129 = .ok (.ifCond .eq 141, 3) := by decide +kernel
theorem d_X_step_132 : decode b_X_step 132 = .ok (.aload_n 0, 1) := by decide +kernel
theorem d_X_step_133 : decode b_X_step 133 = .ok (.aload_n 0, 1) := by decide +kernel
theorem d_X_step_134 : decode b_X_step 134 = .ok (.getfield 137, 3) := by decide +kernel
theorem d_X_step_137 : decode b_X_step 137 = .ok (.iconst 1, 1) := by decide +kernel
theorem d_X_step_138 : decode b_X_step 138 = .ok (.iload_n 1, 1) := by decide +kernel
theorem d_X_step_139 : decode b_X_step 139 = .ok (.ishl, 1) := by decide +kernel
theorem d_X_step_140 : decode b_X_step 140 = .ok (.iconst (-1), 1) := by decide +kernel
theorem d_X_step_141 : decode b_X_step 141 = .ok (.ixor, 1) := by decide +kernel
theorem d_X_step_142 : decode b_X_step 142 = .ok (.iand, 1) := by decide +kernel
theorem d_X_step_143 : decode b_X_step 143 = .ok (.putfield 137, 3) := by decide +kernel
theorem d_X_step_146 : decode b_X_step 146 = .ok (.aload_n 0, 1) := by decide +kernel
theorem d_X_step_147 : decode b_X_step 147 = .ok (.iload_n 1, 1) := by decide +kernel
theorem d_X_step_148 : decode b_X_step 148 = .ok (.putfield 62, 3) := by decide +kernel
theorem d_X_step_151 : decode b_X_step 151 = .ok (.aload_n 0, 1) := by decide +kernel
theorem d_X_step_152 : decode b_X_step 152 = .ok (.dup, 1) := by decide +kernel
theorem d_X_step_153 : decode b_X_step 153 = .ok (.getfield 143, 3) := by decide +kernel
theorem d_X_step_156 : decode b_X_step 156 = .ok (.iconst 1, 1) := by decide +kernel
theorem d_X_step_157 : decode b_X_step 157 = .ok (.iadd, 1) := by decide +kernel
theorem d_X_step_158 : decode b_X_step 158 = .ok (.putfield 143, 3) := by decide +kernel
theorem d_X_step_161 : decode b_X_step 161 = .ok (.goto 109, 3) := by decide +kernel
theorem d_X_step_164 : decode b_X_step 164 = .ok (.iload_n 2, 1) := by decide +kernel
theorem d_X_step_165 : decode b_X_step 165 = .ok (.ifCond .lt 10, 3) := by decide +kernel
theorem d_X_step_168 : decode b_X_step 168 = .ok (.iload_n 2, 1) := by decide +kernel
theorem d_X_step_169 : decode b_X_step 169 = .ok (.sipush 512, 3) := by decide +kernel
theorem d_X_step_172 : decode b_X_step 172 = .ok (.if_icmp .lt 12, 3) := by decide +kernel
theorem d_X_step_175 : decode b_X_step 175 = .ok (.aload_n 0, 1) := by decide +kernel
theorem d_X_step_176 : decode b_X_step 176 = .ok (.iconst 4, 1) := by decide +kernel
theorem d_X_step_177 : decode b_X_step 177 = .ok (.iconst 1, 1) := by decide +kernel
theorem d_X_step_178 : decode b_X_step 178 = .ok (.invokevirtual 146, 3) := by decide +kernel
theorem d_X_step_181 : decode b_X_step 181 = .ok (.goto 89, 3) := by decide +kernel
theorem d_X_step_184 : decode b_X_step 184 = .ok (.aload_n 0, 1) := by decide +kernel
theorem d_X_step_185 : decode b_X_step 185 = .ok (.invokevirtual 94, 3) := by decide +kernel
theorem d_X_step_188 : decode b_X_step 188 = .ok (.ifCond .eq 46, 3) := by decide +kernel
theorem d_X_step_191 : decode b_X_step 191 = .ok (.iload_n 2, 1) := by decide +kernel
theorem d_X_step_192 : decode b_X_step 192 = .ok (.aload_n 0, 1) := by decide +kernel
theorem d_X_step_193 : decode b_X_step 193 = .ok (.getfield 26, 3) := by decide +kernel
theorem d_X_step_196 : decode b_X_step 196 = .ok (.iconst 3, 1) := by decide +kernel
theorem d_X_step_197 : decode b_X_step 197 = .ok (.aload_n 0, 1) := by decide +kernel
theorem d_X_step_198 : decode b_X_step 198 = .ok (.getfield 56, 3) := by decide +kernel
theorem d_X_step_201 : decode b_X_step 201 = .ok (.imul, 1) := by decide +kernel
theorem d_X_step_202 : decode b_X_step 202 = .ok (.iconst 2, 1) := by decide +kernel
theorem d_X_step_203 : decode b_X_step 203 = .ok (.iadd, 1) := by decide +kernel
theorem d_X_step_204 : decode b_X_step 204 = .ok (.iaload, 1) := by decide +kernel
theorem d_X_step_205 : decode b_X_step 205 = .ok (.if_icmp .lt 20, 3) := by decide +kernel
theorem d_X_step_208 : decode b_X_step 208 = .ok (.iload_n 2, 1) := by decide +kernel
theorem d_X_step_209 : decode b_X_step 209 = .ok (.aload_n 0, 1) := by decide +kernel
theorem d_X_step_210 : decode b_X_step 210 = .ok (.getfield 29, 3) := by decide +kernel
theorem d_X_step_213 : decode b_X_step 213 = .ok (.iconst 3, 1) := by decide +kernel
theorem d_X_step_214 : decode b_X_step 214 = .ok (.aload_n 0, 1) := by decide +kernel
theorem d_X_step_215 : decode b_X_step 215 = .ok (.getfield 56, 3) := by decide +kernel
theorem d_X_step_218 : decode b_X_step 218 = .ok (.imul, 1) := by decide +kernel
theorem d_X_step_219 : decode b_X_step 219 = .ok (.iconst 2, 1) := by decide +kernel
theorem d_X_step_220 : decode b_X_step 220 = .ok (.iadd, 1) := by decide +kernel
theorem d_X_step_221 : decode b_X_step 221 = .ok (.iaload, 1) := by decide +kernel
theorem d_X_step_222 : decode b_X_step 222 = .ok (.if_icmp .lt 12, 3) := by decide +kernel
theorem d_X_step_225 : decode b_X_step 225 = .ok (.aload_n 0, 1) := by decide +kernel
theorem d_X_step_226 : decode b_X_step 226 = .ok (.iconst 1, 1) := by decide +kernel
theorem d_X_step_227 : decode b_X_step 227 = .ok (.iconst 4, 1) := by decide +kernel
theorem d_X_step_228 : decode b_X_step 228 = .ok (.invokevirtual 146, 3) := by decide +kernel
theorem d_X_step_231 : decode b_X_step 231 = .ok (.goto 39, 3) := by decide +kernel
