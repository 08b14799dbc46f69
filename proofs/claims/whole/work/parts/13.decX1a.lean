theorem d_X_bring_0 : decode b_X_bring 0 = .ok (.aload_n 0, 1) := by decide +kernel
theorem d_X_bring_1 : decode b_X_bring 1 = .ok (.getfield 19, 3) := by decide +kernel
theorem d_X_bring_4 : decode b_X_bring 4 = .ok (.iconst 3, 1) := by decide +kernel
theorem d_X_bring_5 : decode b_X_bring 5 = .ok (.iaload, 1) := by decide +kernel
theorem d_X_bring_6 : decode b_X_bring 6 = .ok (.bipush 31, 2) := by decide +kernel
theorem d_X_bring_8 : decode b_X_bring 8 = .ok (.iand, 1) := by decide +kernel
theorem d_X_bring_9 : decode b_X_bring 9 = .ok (.istore_n 2, 1) := by decide +kernel
theorem d_X_bring_10 : decode b_X_bring 10 = .ok (.iload_n 2, 1) := by decide +kernel
theorem d_X_bring_11 : decode b_X_bring 11 = .ok (.invokestatic 49, 3) := by decide +kernel
theorem d_X_bring_14 : decode b_X_bring 14 = .ok (.istore_n 3, 1) := by decide +kernel
theorem d_X_bring_15 : decode b_X_bring 15 = .ok (.iload_n 1, 1) := by decide +kernel
theorem d_X_bring_16 : decode b_X_bring 16 = .ok (.ifCond .eq 87, 3) := by decide +kernel
theorem d_X_bring_19 : decode b_X_bring 19 = .ok (.aload_n 0, 1) := by decide +kernel
theorem d_X_bring_20 : decode b_X_bring 20 = .ok (.getfield 7, 3) := by decide +kernel
theorem d_X_bring_23 : decode b_X_bring 23 = .ok (.iload_n 3, 1) := by decide +kernel
theorem d_X_bring_24 : decode b_X_bring 24 = .ok (.iconst 1, 1) := by decide +kernel
theorem d_X_bring_25 : decode b_X_bring 25 = .ok (.iadd, 1) := by decide +kernel
theorem d_X_bring_26 : decode b_X_bring 26 = .ok (.iaload, 1) := by decide +kernel
theorem d_X_bring_27 : decode b_X_bring 27 = .ok (.istore 4, 2) := by decide +kernel
theorem d_X_bring_29 : decode b_X_bring 29 = .ok (.aload_n 0, 1) := by decide +kernel
theorem d_X_bring_30 : decode b_X_bring 30 = .ok (.iload 4, 2) := by decide +kernel
theorem d_X_bring_32 : decode b_X_bring 32 = .ok (.iconst 3, 1) := by decide +kernel
theorem d_X_bring_33 : decode b_X_bring 33 = .ok (.iand, 1) := by decide +kernel
theorem d_X_bring_34 : decode b_X_bring 34 = .ok (.iconst 3, 1) := by decide +kernel
theorem d_X_bring_35 : decode b_X_bring 35 = .ok (.if_icmp .ne 7, 3) := by decide +kernel
theorem d_X_bring_38 : decode b_X_bring 38 = .ok (.iconst 2, 1) := by decide +kernel
theorem d_X_bring_39 : decode b_X_bring 39 = .ok (.goto 7, 3) := by decide +kernel
theorem d_X_bring_42 : decode b_X_bring 42 = .ok (.iload 4, 2) := by decide +kernel
theorem d_X_bring_44 : decode b_X_bring 44 = .ok (.iconst 3, 1) := by decide +kernel
theorem d_X_bring_45 : decode b_X_bring 45 = .ok (.iand, 1) := by decide +kernel
theorem d_X_bring_46 : decode b_X_bring 46 = .ok (.putfield 53, 3) := by decide +kernel
theorem d_X_bring_49 : decode b_X_bring 49 = .ok (.aload_n 0, 1) := by decide +kernel
theorem d_X_bring_50 : decode b_X_bring 50 = .ok (.iload 4, 2) := by decide +kernel
theorem d_X_bring_52 : decode b_X_bring 52 = .ok (.iconst 2, 1) := by decide +kernel
theorem d_X_bring_53 : decode b_X_bring 53 = .ok (.ishr, 1) := by decide +kernel
theorem d_X_bring_54 : decode b_X_bring 54 = .ok (.iconst 1, 1) := by decide +kernel
theorem d_X_bring_55 : decode b_X_bring 55 = .ok (.iand, 1) := by decide +kernel
theorem d_X_bring_56 : decode b_X_bring 56 = .ok (.putfield 56, 3) := by decide +kernel
theorem d_X_bring_59 : decode b_X_bring 59 = .ok (.aload_n 0, 1) := by decide +kernel
theorem d_X_bring_60 : decode b_X_bring 60 = .ok (.iload 4, 2) := by decide +kernel
theorem d_X_bring_62 : decode b_X_bring 62 = .ok (.iconst 3, 1) := by decide +kernel
theorem d_X_bring_63 : decode b_X_bring 63 = .ok (.ishr, 1) := by decide +kernel
theorem d_X_bring_64 : decode b_X_bring 64 = .ok (.bipush 15, 2) := by decide +kernel
theorem d_X_bring_66 : decode b_X_bring 66 = .ok (.iand, 1) := by decide +kernel
theorem d_X_bring_67 : decode b_X_bring 67 = .ok (.putfield 59, 3) := by decide +kernel
theorem d_X_bring_70 : decode b_X_bring 70 = .ok (.aload_n 0, 1) := by decide +kernel
theorem d_X_bring_71 : decode b_X_bring 71 = .ok (.getfield 16, 3) := by decide +kernel
theorem d_X_bring_74 : decode b_X_bring 74 = .ok (.bipush 6, 2) := by decide +kernel
theorem d_X_bring_76 : decode b_X_bring 76 = .ok (.aload_n 0, 1) := by decide +kernel
theorem d_X_bring_77 : decode b_X_bring 77 = .ok (.getfield 7, 3) := by decide +kernel
theorem d_X_bring_80 : decode b_X_bring 80 = .ok (.iload_n 3, 1) := by decide +kernel
theorem d_X_bring_81 : decode b_X_bring 81 = .ok (.iconst 2, 1) := by decide +kernel
theorem d_X_bring_82 : decode b_X_bring 82 = .ok (.iadd, 1) := by decide +kernel
theorem d_X_bring_83 : decode b_X_bring 83 = .ok (.iaload, 1) := by decide +kernel
theorem d_X_bring_84 : decode b_X_bring 84 = .ok (.iastore, 1) := by decide +kernel
theorem d_X_bring_85 : decode b_X_bring 85 = .ok (.aload_n 0, 1) := by decide +kernel
theorem d_X_bring_86 : decode b_X_bring 86 = .ok (.getfield 16, 3) := by decide +kernel
theorem d_X_bring_89 : decode b_X_bring 89 = .ok (.bipush 7, 2) := by decide +kernel
theorem d_X_bring_91 : decode b_X_bring 91 = .ok (.aload_n 0, 1) := by decide +kernel
theorem d_X_bring_92 : decode b_X_bring 92 = .ok (.getfield 7, 3) := by decide +kernel
theorem d_X_bring_95 : decode b_X_bring 95 = .ok (.iload_n 3, 1) := by decide +kernel
theorem d_X_bring_96 : decode b_X_bring 96 = .ok (.iconst 3, 1) := by decide +kernel
theorem d_X_bring_97 : decode b_X_bring 97 = .ok (.iadd, 1) := by decide +kernel
theorem d_X_bring_98 : decode b_X_bring 98 = .ok (.iaload, 1) := by decide +kernel
theorem d_X_bring_99 : decode b_X_bring 99 = .ok (.iastore, 1) := by decide +kernel
theorem d_X_bring_100 : decode b_X_bring 100 = .ok (.goto 46, 3) := by decide +kernel
theorem d_X_bring_103 : decode b_X_bring 103 = .ok (.aload_n 0, 1) := by decide +kernel
theorem d_X_bring_104 : decode b_X_bring 104 = .ok (.getfield 16, 3) := by decide +kernel
theorem d_X_bring_107 : decode b_X_bring 107 = .ok (.bipush 7, 2) := by decide +kernel
theorem d_X_bring_109 : decode b_X_bring 109 = .ok (.aload_n 0, 1) := by decide +kernel
theorem d_X_bring_110 : decode b_X_bring 110 = .ok (.getfield 7, 3) := by decide +kernel
theorem d_X_bring_113 : decode b_X_bring 113 = .ok (.iload_n 3, 1) := by decide +kernel
theorem d_X_bring_114 : decode b_X_bring 114 = .ok (.iconst 1, 1) := by decide +kernel
theorem d_X_bring_115 : decode b_X_bring 115 = .ok (.iadd, 1) := by decide +kernel
theorem d_X_bring_116 : decode b_X_bring 116 = .ok (.iaload, 1) := by decide +kernel
theorem d_X_bring_117 : decode b_X_bring 117 = .ok (.iastore, 1) := by decide +kernel
theorem d_X_bring_118 : decode b_X_bring 118 = .ok (.aload_n 0, 1) := by decide +kernel
theorem d_X_bring_119 : decode b_X_bring 119 = .ok (.getfield 16, 3) := by decide +kernel
theorem d_X_bring_122 : decode b_X_bring 122 = .ok (.iconst 2, 1) := by decide +kernel
theorem d_X_bring_123 : decode b_X_bring 123 = .ok (.aload_n 0, 1) := by decide +kernel
theorem d_X_bring_124 : decode b_X_bring 124 = .ok (.getfield 7, 3) := by decide +kernel
theorem d_X_bring_127 : decode b_X_bring 127 = .ok (.iload_n 3, 1) := by decide +kernel
theorem d_X_bring_128 : decode b_X_bring 128 = .ok (.iconst 2, 1) := by decide +kernel
theorem d_X_bring_129 : decode b_X_bring 129 = .ok (.iadd, 1) := by decide +kernel
theorem d_X_bring_130 : decode b_X_bring 130 = .ok (.iaload, 1) := by decide +kernel
theorem d_X_bring_131 : decode b_X_bring 131 = .ok (.iastore, 1) := by decide +kernel
theorem d_X_bring_132 : decode b_X_bring 132 = .ok (.aload_n 0, 1) := by decide +kernel
theorem d_X_bring_133 : decode b_X_bring 133 = .ok (.getfield 16, 3) := by decide +kernel
theorem d_X_bring_136 : decode b_X_bring 136 = .ok (.iconst 3, 1) := by decide +kernel
theorem d_X_bring_137 : decode b_X_bring 137 = .ok (.aload_n 0, 1) := by decide +kernel
theorem d_X_bring_138 : decode b_X_bring 138 = .ok (.getfield 7, 3) := by decide +kernel
theorem d_X_bring_141 : decode b_X_bring 141 = .ok (.iload_n 3, 1) := by decide +kernel
theorem d_X_bring_142 : decode b_X_bring 142 = .ok (.iconst 3, 1) := by decide +kernel
theorem d_X_bring_143 : decode b_X_bring 143 = .ok (.iadd, 1) := by decide +kernel
theorem d_X_bring_144 : decode b_X_bring 144 = .ok (.iaload, 1) := by decide +kernel
theorem d_X_bring_145 : decode b_X_bring 145 = .ok (.iastore, 1) := by decide +kernel
theorem d_X_bring_146 : decode b_X_bring 146 = .ok (.iconst 0, 1) := by decide +kernel
theorem d_X_bring_147 : decode b_X_bring 147 = .ok (.istore 4, 2) := by decide +kernel
theorem d_X_bring_149 : decode b_X_bring 149 = .ok (.iload 4, 2) := by decide +kernel
theorem d_X_bring_151 : decode b_X_bring 151 = .ok (.iconst 4, 1) := by decide +kernel
theorem d_X_bring_152 : decode b_X_bring 152 = .ok (.if_icmp .ge 42, 3) := by decide +kernel
theorem d_X_bring_155 : decode b_X_bring 155 = .ok (.aload_n 0, 1) := by decide +kernel
theorem d_X_bring_156 : decode b_X_bring 156 = .ok (.getfield 7, 3) := by decide +kernel
theorem d_X_bring_159 : decode b_X_bring 159 = .ok (.iload_n 3, 1) := by decide +kernel
theorem d_X_bring_160 : decode b_X_bring 160 = .ok (.iconst 4, 1) := by decide +kernel
theorem d_X_bring_161 : decode b_X_bring 161 = .ok (.iadd, 1) := by decide +kernel
theorem d_X_bring_162 : decode b_X_bring 162 = .ok (.iload 4, 2) := by decide +kernel
theorem d_X_bring_164 : decode b_X_bring 164 = .ok (.iadd, 1) := by decide +kernel
theorem d_X_bring_165 : decode b_X_bring 165 = .ok (.iaload, 1) := by decide +kernel
theorem d_X_bring_166 : decode b_X_bring 166 = .ok (.istore 5, 2) := by decide +kernel
theorem d_X_bring_168 : decode b_X_bring 168 = .ok (.aload_n 0, 1) := by decide +kernel
theorem d_X_bring_169 : decode b_X_bring 169 = .ok (.getfield 13, 3) := by decide +kernel
theorem d_X_bring_172 : decode b_X_bring 172 = .ok (.iload_n 1, 1) := by decide +kernel
theorem d_X_bring_173 : decode b_X_bring 173 = .ok (.ifCond .eq 10, 3) := by decide +kernel
theorem d_X_bring_176 : decode b_X_bring 176 = .ok (.iconst 4, 1) := by decide +kernel
theorem d_X_bring_177 : decode b_X_bring 177 = .ok (.iload 4, 2) := by decide +kernel
theorem d_X_bring_179 : decode b_X_bring 179 = .ok (.iadd, 1) := by decide +kernel
theorem d_X_bring_180 : decode b_X_bring 180 = .ok (.goto 5, 3) := by decide +kernel
theorem d_X_bring_183 : decode b_X_bring 183 = .ok (.iload 4, 2) := by decide +kernel
theorem d_X_bring_185 : decode b_X_bring 185 = .ok (.iload 5, 2) := by decide +kernel
theorem d_X_bring_187 : decode b_X_bring 187 = .ok (.iastore, 1) := by decide +kernel
theorem d_X_bring_188 : decode b_X_bring 188 = .ok (.iinc 4 1, 3) := by decide +kernel
theorem d_X_bring_191 : decode b_X_bring 191 = .ok (.goto (-42), 3) := by decide +kernel
theorem d_X_bring_194 : decode b_X_bring 194 = .ok (.aload_n 0, 1) := by decide +kernel
theorem d_X_bring_195 : decode b_X_bring 195 = .ok (.getfield 19, 3) := by decide +kernel
theorem d_X_bring_198 : decode b_X_bring 198 = .ok (.iconst 3, 1) := by decide +kernel
theorem d_X_bring_199 : decode b_X_bring 199 = .ok (.aload_n 0, 1) := by decide +kernel
theorem d_X_bring_200 : decode b_X_bring 200 = .ok (.getfield 7, 3) := by decide +kernel
theorem d_X_bring_203 : decode b_X_bring 203 = .ok (.iload_n 3, 1) := by decide +kernel
theorem d_X_bring_204 : decode b_X_bring 204 = .ok (.iaload, 1) := by decide +kernel
theorem d_X_bring_205 : decode b_X_bring 205 = .ok (.iastore, 1) := by decide +kernel
theorem d_X_bring_206 : decode b_X_bring 206 = .ok (.aload_n 0, 1) := by decide +kernel
theorem d_X_bring_207 : decode b_X_bring 207 = .ok (.getfield 7, 3) := by decide +kernel
theorem d_X_bring_210 : decode b_X_bring 210 = .ok (.iload_n 3, 1) := by decide +kernel
theorem d_X_bring_211 : decode b_X_bring 211 = .ok (.aload_n 0, 1) := by decide +kernel
theorem d_X_bring_212 : decode b_X_bring 212 = .ok (.getfield 19, 3) := by decide +kernel
theorem d_X_bring_215 : decode b_X_bring 215 = .ok (.iconst 1, 1) := by decide +kernel
theorem d_X_bring_216 : decode b_X_bring 216 = .ok (.iaload, 1) := by decide +kernel
theorem d_X_bring_217 : decode b_X_bring 217 = .ok (.iastore, 1) := by decide +kernel
theorem d_X_bring_218 : decode b_X_bring 218 = .ok (.aload_n 0, 1) := by decide +kernel
theorem d_X_bring_219 : decode b_X_bring 219 = .ok (.getfield 19, 3) := by decide +kernel
theorem d_X_bring_222 : decode b_X_bring 222 = .ok (.iconst 1, 1) := by decide +kernel
theorem d_X_bring_223 : decode b_X_bring 223 = .ok (.iload_n 2, 1) := by decide +kernel
theorem d_X_bring_224 : decode b_X_bring 224 = .ok (.iastore, 1) := by decide +kernel
theorem d_X_bring_225 : decode b_X_bring 225 = .ok (.return_, 1) := by decide +kernel
theorem d_X_canBring_0 : decode b_X_canBring 0 = .ok (.aload_n 0, 1) := by decide +kernel
theorem d_X_canBring_1 : decode b_X_canBring 1 = .ok (.getfield 19, 3) := by decide +kernel
theorem d_X_canBring_4 : decode b_X_canBring 4 = .ok (.iconst 3, 1) := by decide +kernel
theorem d_X_canBring_5 : decode b_X_canBring 5 = .ok (.iaload, 1) := by decide +kernel
theorem d_X_canBring_6 : decode b_X_canBring 6 = .ok (.bipush 31, 2) := by decide +kernel
theorem d_X_canBring_8 : decode b_X_canBring 8 = .ok (.iand, 1) := by decide +kernel
theorem d_X_canBring_9 : decode b_X_canBring 9 = .ok (.invokestatic 41, 3) := by decide +kernel
theorem d_X_canBring_12 : decode b_X_canBring 12 = .ok (.ifCond .ne 10, 3) := by decide +kernel
theorem d_X_canBring_15 : decode b_X_canBring 15 = .ok (.aload_n 0, 1) := by decide +kernel
theorem d_X_canBring_16 : decode b_X_canBring 16 = .ok (.iconst 0, 1) := by decide +kernel
theorem d_X_canBring_17 : decode b_X_canBring 17 = .ok (.putfield 45, 3) := by decide +kernel
theorem d_X_canBring_20 : decode b_X_canBring 20 = .ok (.iconst 0, 1) := by decide +kernel
theorem d_X_canBring_21 : decode b_X_canBring 21 = .ok (.ireturn, 1) := by decide +kernel
theorem d_X_canBring_22 : decode b_X_canBring 22 = .ok (.aload_n 0, 1) := by decide +kernel
theorem d_X_canBring_23 : decode b_X_canBring 23 = .ok (.getfield 19, 3) := by decide +kernel
theorem d_X_canBring_26 : decode b_X_canBring 26 = .ok (.iconst 3, 1) := by decide +kernel
theorem d_X_canBring_27 : decode b_X_canBring 27 = .ok (.iaload, 1) := by decide +kernel
theorem d_X_canBring_28 : decode b_X_canBring 28 = .ok (.bipush 32, 2) := by decide +kernel
theorem d_X_canBring_30 : decode b_X_canBring 30 = .ok (.iand, 1) := by decide +kernel
theorem d_X_canBring_31 : decode b_X_canBring 31 = .ok (.ifCond .eq 7, 3) := by decide +kernel
theorem d_X_canBring_34 : decode b_X_canBring 34 = .ok (.iconst 1, 1) := by decide +kernel
theorem d_X_canBring_35 : decode b_X_canBring 35 = .ok (.goto 4, 3) := by decide +kernel
theorem d_X_canBring_38 : decode b_X_canBring 38 = .ok (.iconst 0, 1) := by decide +kernel
theorem d_X_canBring_39 : decode b_X_canBring 39 = .ok (.iload_n 1, 1) := by decide +kernel
theorem d_X_canBring_40 : decode b_X_canBring 40 = .ok (.if_icmp .ne 7, 3) := by decide +kernel
theorem d_X_canBring_43 : decode b_X_canBring 43 = .ok (.iconst 1, 1) := by decide +kernel
theorem d_X_canBring_44 : decode b_X_canBring 44 = .ok (.goto 4, 3) := by decide +kernel
theorem d_X_canBring_47 : decode b_X_canBring 47 = .ok (.iconst 0, 1) := by decide +kernel
theorem d_X_canBring_48 : decode b_X_canBring 48 = .ok (.istore_n 2, 1) := by decide +kernel
theorem d_X_canBring_49 : decode b_X_canBring 49 = .ok (.aload_n 0, 1) := by decide +kernel
theorem d_X_canBring_50 : decode b_X_canBring 50 = .ok (.iload_n 2, 1) := by decide +kernel
theorem d_X_canBring_51 : decode b_X_canBring 51 = .ok (.ifCond .eq 10, 3) := by decide +kernel
theorem d_X_canBring_54 : decode b_X_canBring 54 = .ok (.aload_n 0, 1) := by decide +kernel
theorem d_X_canBring_55 : decode b_X_canBring 55 = .ok (.getfield 71, 3) := by decide +kernel
theorem d_X_canBring_58 : decode b_X_canBring 58 = .ok (.goto 6, 3) := by decide +kernel
theorem d_X_canBring_61 : decode b_X_canBring 61 = .ok (.sipush 772, 3) := by decide +kernel
theorem d_X_canBring_64 : decode b_X_canBring 64 = .ok (.putfield 71, 3) := by decide +kernel
theorem d_X_canBring_67 : decode b_X_canBring 67 = .ok (.iload_n 2, 1) := by decide +kernel
theorem d_X_canBring_68 : decode b_X_canBring 68 = .ok (.ireturn, 1) := by decide +kernel
theorem d_X_context_0 : decode b_X_context 0 = .ok (.aload_n 0, 1) := by decide +kernel
theorem d_X_context_1 : decode b_X_context 1 = .ok (.getfield 19, 3) := by decide +kernel
theorem d_X_context_4 : decode b_X_context 4 = .ok (.iconst 0, 1) := by decide +kernel
theorem d_X_context_5 : decode b_X_context 5 = .ok (.iaload, 1) := by decide +kernel
theorem d_X_context_6 : decode b_X_context 6 = .ok (.istore_n 3, 1) := by decide +kernel
theorem d_X_context_7 : decode b_X_context 7 = .ok (.iload_n 1, 1) := by decide +kernel
theorem d_X_context_8 : decode b_X_context 8 = .ok (.bipush 21, 2) := by decide +kernel
theorem d_X_context_10 : decode b_X_context 10 = .ok (.if_icmp .ne 12, 3) := by decide +kernel
theorem d_X_context_13 : decode b_X_context 13 = .ok (.aload_n 0, 1) := by decide +kernel
theorem d_X_context_14 : decode b_X_context 14 = .ok (.getfield 59, 3) := by decide +kernel
theorem d_X_context_17 : decode b_X_context 17 = .ok (.bipush 15, 2) := by decide +kernel
theorem d_X_context_19 : decode b_X_context 19 = .ok (.if_icmp .eq 16, 3) := by decide +kernel
theorem d_X_context_22 : decode b_X_context 22 = .ok (.iload_n 1, 1) := by decide +kernel
theorem d_X_context_23 : decode b_X_context 23 = .ok (.bipush 22, 2) := by decide +kernel
theorem d_X_context_25 : decode b_X_context 25 = .ok (.if_icmp .ne 32, 3) := by decide +kernel
theorem d_X_context_28 : decode b_X_context 28 = .ok (.aload_n 0, 1) := by decide +kernel
theorem d_X_context_29 : decode b_X_context 29 = .ok (.getfield 59, 3) := by decide +kernel
theorem d_X_context_32 : decode b_X_context 32 = .ok (.ifCond .ne 25, 3) := by decide +kernel
theorem d_X_context_35 : decode b_X_context 35 = .ok (.aload_n 0, 1) := by decide +kernel
theorem d_X_context_36 : decode b_X_context 36 = .ok (.iload_n 1, 1) := by decide +kernel
theorem d_X_context_37 : decode b_X_context 37 = .ok (.bipush 21, 2) := by decide +kernel
theorem d_X_context_39 : decode b_X_context 39 = .ok (.if_icmp .ne 9, 3) := by decide +kernel
theorem d_X_context_42 : decode b_X_context 42 = .ok (.sipush 770, 3) := by decide +kernel
theorem d_X_context_45 : decode b_X_context 45 = .ok (.goto 6, 3) := by decide +kernel
theorem d_X_context_48 : decode b_X_context 48 = .ok (.sipush 771, 3) := by decide +kernel
theorem d_X_context_51 : decode b_X_context 51 = .ok (.putfield 71, 3) := by decide +kernel
theorem d_X_context_54 : decode b_X_context 54 = .ok (.goto 191, 3) := by decide +kernel
theorem d_X_context_57 : decode b_X_context 57 = .ok (.iload_n 1, 1) := by decide +kernel
theorem d_X_context_58 : decode b_X_context 58 = .ok (.bipush 21, 2) := by decide +kernel
theorem d_X_context_60 : decode b_X_context 60 = .ok (.if_icmp .ne 35, 3) := by decide +kernel
theorem d_X_context_63 : decode b_X_context 63 = .ok (.aload_n 0, 1) := by decide +kernel
theorem d_X_context_64 : decode b_X_context 64 = .ok (.iconst 1, 1) := by decide +kernel
theorem d_X_context_65 : decode b_X_context 65 = .ok (.invokevirtual 74, 3) := by decide +kernel
theorem d_X_context_68 : decode b_X_context 68 = .ok (.ifCond .eq 177, 3) := by decide +kernel
theorem d_X_context_71 : decode b_X_context 71 = .ok (.aload_n 0, 1) := by decide +kernel
theorem d_X_context_72 : decode b_X_context 72 = .ok (.getfield 16, 3) := by decide +kernel
theorem d_X_context_75 : decode b_X_context 75 = .ok (.bipush 7, 2) := by decide +kernel
theorem d_X_context_77 : decode b_X_context 77 = .ok (.iload_n 3, 1) := by decide +kernel
theorem d_X_context_78 : decode b_X_context 78 = .ok (.iconst 1, 1) := by decide +kernel
theorem d_X_context_79 : decode b_X_context 79 = .ok (.iadd, 1) := by decide +kernel
theorem d_X_context_80 : decode b_X_context 80 = .ok (.iastore, 1) := by decide +kernel
theorem d_X_context_81 : decode b_X_context 81 = .ok (.aload_n 0, 1) := by decide +kernel
theorem d_X_context_82 : decode b_X_context 82 = .ok (.dup, 1) := by decide +kernel
theorem d_X_context_83 : decode b_X_context 83 = .ok (.getfield 59, 3) := by decide +kernel
theorem d_X_context_86 : decode b_X_context 86 = .ok (.iconst 1, 1) := by decide +kernel
theorem d_X_context_87 : decode b_X_context 87 = .ok (.iadd, 1) := by decide +kernel
theorem d_X_context_88 : decode b_X_context 88 = .ok (.putfield 59, 3) := by decide +kernel
theorem d_X_context_91 : decode b_X_context 91 = .ok (.iload_n 3, 1) := by decide +kernel
theorem d_X_context_92 : decode b_X_context 92 = .ok (.iload_n 2, 1) := by decide +kernel
theorem d_X_context_93 : decode b_X_context 93 = .ok (.iadd, 1) := by decide +kernel
theorem d_X_context_94 : decode b_X_context 94 = .ok (.ireturn, 1) := by decide +kernel
theorem d_X_context_95 : decode b_X_context 95 = .ok (.iload_n 1, 1) := by decide +kernel
theorem d_X_context_96 : decode b_X_context 96 = .ok (.bipush 22, 2) := by decide +kernel
theorem d_X_context_98 : decode b_X_context 98 = .ok (.if_icmp .eq 9, 3) := by decide +kernel
theorem d_X_context_101 : decode b_X_context 101 = .ok (.iload_n 1, 1) := by decide +kernel
theorem d_X_context_102 : decode b_X_context 102 = .ok (.bipush 26, 2) := by decide +kernel
theorem d_X_context_104 : decode b_X_context 104 = .ok (.if_icmp .ne 92, 3) := by decide +kernel
theorem d_X_context_107 : decode b_X_context 107 = .ok (.aload_n 0, 1) := by decide +kernel
theorem d_X_context_108 : decode b_X_context 108 = .ok (.iconst 1, 1) := by decide +kernel
theorem d_X_context_109 : decode b_X_context 109 = .ok (.invokevirtual 104, 3) := by decide +kernel
theorem d_X_context_112 : decode b_X_context 112 = .ok (.ifCond .eq 133, 3) := by decide +kernel
theorem d_X_context_115 : decode b_X_context 115 = .ok (.aload_n 0, 1) := by decide +kernel
theorem d_X_context_116 : decode b_X_context 116 = .ok (.getfield 16, 3) := by decide +kernel
theorem d_X_context_119 : decode b_X_context 119 = .ok (.bipush 7, 2) := by decide +kernel
theorem d_X_context_121 : decode b_X_context 121 = .ok (.iaload, 1) := by decide +kernel
theorem d_X_context_122 : decode b_X_context 122 = .ok (.istore 4, 2) := by decide +kernel
theorem d_X_context_124 : decode b_X_context 124 = .ok (.aload_n 0, 1) := by decide +kernel
theorem d_X_context_125 : decode b_X_context 125 = .ok (.iload_n 1, 1) := by decide +kernel
theorem d_X_context_126 : decode b_X_context 126 = .ok (.bipush 26, 2) := by decide +kernel
theorem d_X_context_128 : decode b_X_context 128 = .ok (.if_icmp .ne 18, 3) := by decide +kernel
theorem d_X_context_131 : decode b_X_context 131 = .ok (.aload_n 0, 1) := by decide +kernel
theorem d_X_context_132 : decode b_X_context 132 = .ok (.getfield 19, 3) := by decide +kernel
theorem d_X_context_135 : decode b_X_context 135 = .ok (.iconst 3, 1) := by decide +kernel
theorem d_X_context_136 : decode b_X_context 136 = .ok (.iaload, 1) := by decide +kernel
theorem d_X_context_137 : decode b_X_context 137 = .ok (.bipush 8, 2) := by decide +kernel
theorem d_X_context_139 : decode b_X_context 139 = .ok (.ishr, 1) := by decide +kernel
theorem d_X_context_140 : decode b_X_context 140 = .ok (.bipush 15, 2) := by decide +kernel
theorem d_X_context_142 : decode b_X_context 142 = .ok (.iand, 1) := by decide +kernel
theorem d_X_context_143 : decode b_X_context 143 = .ok (.goto 7, 3) := by decide +kernel
theorem d_X_context_146 : decode b_X_context 146 = .ok (.aload_n 0, 1) := by decide +kernel
theorem d_X_context_147 : decode b_X_context 147 = .ok (.getfield 62, 3) := by decide +kernel
theorem d_X_context_150 : decode b_X_context 150 = .ok (.putfield 62, 3) := by decide +kernel
theorem d_X_context_153 : decode b_X_context 153 = .ok (.aload_n 0, 1) := by decide +kernel
theorem d_X_context_154 : decode b_X_context 154 = .ok (.iload_n 1, 1) := by decide +kernel
theorem d_X_context_155 : decode b_X_context 155 = .ok (.bipush 26, 2) := by decide +kernel
theorem d_X_context_157 : decode b_X_context 157 = .ok (.if_icmp .ne 24, 3) := by decide +kernel
theorem d_X_context_160 : decode b_X_context 160 = .ok (.aload_n 0, 1) := by decide +kernel
theorem d_X_context_161 : decode b_X_context 161 = .ok (.getfield 19, 3) := by decide +kernel
theorem d_X_context_164 : decode b_X_context 164 = .ok (.iconst 3, 1) := by decide +kernel
theorem d_X_context_165 : decode b_X_context 165 = .ok (.iaload, 1) := by decide +kernel
theorem d_X_context_166 : decode b_X_context 166 = .ok (.sipush 4096, 3) := by decide +kernel
theorem d_X_context_169 : decode b_X_context 169 = .ok (.iand, 1) := by decide +kernel
theorem d_X_context_170 : decode b_X_context 170 = .ok (.ifCond .eq 7, 3) := by decide +kernel
theorem d_X_context_173 : decode b_X_context 173 = .ok (.iconst 1, 1) := by decide +kernel
theorem d_X_context_174 : decode b_X_context 174 = .ok (.goto 11, 3) := by decide +kernel
theorem d_X_context_177 : decode b_X_context 177 = .ok (.iconst 0, 1) := by decide +kernel
theorem d_X_context_178 : decode b_X_context 178 = .ok (.goto 7, 3) := by decide +kernel
theorem d_X_context_181 : decode b_X_context 181 = .ok (.aload_n 0, 1) := by decide +kernel
theorem d_X_context_182 : decode b_X_context 182 = .ok (.getfield 65, 3) := by decide +kernel
theorem d_X_context_185 : decode b_X_context 185 = .ok (.putfield 65, 3) := by decide +kernel
theorem d_X_context_188 : decode b_X_context 188 = .ok (.aload_n 0, 1) := by decide +kernel
theorem d_X_context_189 : decode b_X_context 189 = .ok (.iconst 1, 1) := by decide +kernel
theorem d_X_context_190 : decode b_X_context 190 = .ok (.invokevirtual 107, 3) := by decide +kernel
theorem d_X_context_193 : decode b_X_context 193 = .ok (.iload 4, 2) := by decide +kernel
theorem d_X_context_195 : decode b_X_context 195 = .ok (.ireturn, 1) := by decide +kernel
theorem d_X_context_196 : decode b_X_context 196 = .ok (.iload_n 1, 1) := by decide +kernel
theorem d_X_context_197 : decode b_X_context 197 = .ok (.bipush 24, 2) := by decide +kernel
theorem d_X_context_199 : decode b_X_context 199 = .ok (.if_icmp .ne 19, 3) := by decide +kernel
theorem d_X_context_202 : decode b_X_context 202 = .ok (.aload_n 0, 1) := by decide +kernel
theorem d_X_context_203 : decode b_X_context 203 = .ok (.iconst 0, 1) := by decide +kernel
theorem d_X_context_204 : decode b_X_context 204 = .ok (.invokevirtual 104, 3) := by decide +kernel
theorem d_X_context_207 : decode b_X_context 207 = .ok (.ifCond .eq 38, 3) := by decide +kernel
theorem d_X_context_210 : decode b_X_context 210 = .ok (.aload_n 0, 1) := by decide +kernel
theorem d_X_context_211 : decode b_X_context 211 = .ok (.iconst 0, 1) := by decide +kernel
theorem d_X_context_212 : decode b_X_context 212 = .ok (.invokevirtual 107, 3) := by decide +kernel
theorem d_X_context_215 : decode b_X_context 215 = .ok (.goto 30, 3) := by decide +kernel
theorem d_X_context_218 : decode b_X_context 218 = .ok (.aload_n 0, 1) := by decide +kernel
theorem d_X_context_219 : decode b_X_context 219 = .ok (.iconst 0, 1) := by decide +kernel
theorem d_X_context_220 : decode b_X_context 220 = .ok (.invokevirtual 74, 3) := by decide +kernel
theorem d_X_context_223 : decode b_X_context 223 = .ok (.ifCond .eq 22, 3) := by decide +kernel
theorem d_X_context_226 : decode b_X_context 226 = .ok (.iload_n 1, 1) := by decide +kernel
theorem d_X_context_227 : decode b_X_context 227 = .ok (.bipush 25, 2) := by decide +kernel
theorem d_X_context_229 : decode b_X_context 229 = .ok (.if_icmp .ne 16, 3) := by decide +kernel
theorem d_X_context_232 : decode b_X_context 232 = .ok (.aload_n 0, 1) := by decide +kernel
theorem d_X_context_233 : decode b_X_context 233 = .ok (.iload_n 2, 1) := by decide +kernel
theorem d_X_context_234 : decode b_X_context 234 = .ok (.bipush 15, 2) := by decide +kernel
theorem d_X_context_236 : decode b_X_context 236 = .ok (.iand, 1) := by decide +kernel
theorem d_X_context_237 : decode b_X_context 237 = .ok (.putfield 62, 3) := by decide +kernel
theorem d_X_context_240 : decode b_X_context 240 = .ok (.aload_n 0, 1) := by decide +kernel
theorem d_X_context_241 : decode b_X_context 241 = .ok (.iconst 1, 1) := by decide +kernel
theorem d_X_context_242 : decode b_X_context 242 = .ok (.putfield 65, 3) := by decide +kernel
theorem d_X_context_245 : decode b_X_context 245 = .ok (.iload_n 3, 1) := by decide +kernel
theorem d_X_context_246 : decode b_X_context 246 = .ok (.iconst 1, 1) := by decide +kernel
theorem d_X_context_247 : decode b_X_context 247 = .ok (.iadd, 1) := by decide +kernel
theorem d_X_context_248 : decode b_X_context 248 = .ok (.ireturn, 1) := by decide +kernel
theorem d_X_enter_0 : decode b_X_enter 0 = .ok (.aload_n 0, 1) := by decide +kernel
theorem d_X_enter_1 : decode b_X_enter 1 = .ok (.iconst 1, 1) := by decide +kernel
theorem d_X_enter_2 : decode b_X_enter 2 = .ok (.invokevirtual 74, 3) := by decide +kernel
theorem d_X_enter_5 : decode b_X_enter 5 = .ok (.ifCond .ne 5, 3) := by decide +kernel
theorem d_X_enter_8 : decode b_X_enter 8 = .ok (.iconst 0, 1) := by decide +kernel
theorem d_X_enter_9 : decode b_X_enter 9 = .ok (.ireturn, 1) := by decide +kernel
theorem d_X_enter_10 : decode b_X_enter 10 = .ok (.aload_n 0, 1) := by decide +kernel
theorem d_X_enter_11 : decode b_X_enter 11 = .ok (.getfield 16, 3) := by decide +kernel
theorem d_X_enter_14 : decode b_X_enter 14 = .ok (.bipush 7, 2) := by decide +kernel
theorem d_X_enter_16 : decode b_X_enter 16 = .ok (.iload_n 1, 1) := by decide +kernel
theorem d_X_enter_17 : decode b_X_enter 17 = .ok (.iastore, 1) := by decide +kernel
theorem d_X_enter_18 : decode b_X_enter 18 = .ok (.aload_n 0, 1) := by decide +kernel
theorem d_X_enter_19 : decode b_X_enter 19 = .ok (.iconst 2, 1) := by decide +kernel
theorem d_X_enter_20 : decode b_X_enter 20 = .ok (.putfield 53, 3) := by decide +kernel
theorem d_X_enter_23 : decode b_X_enter 23 = .ok (.aload_n 0, 1) := by decide +kernel
theorem d_X_enter_24 : decode b_X_enter 24 = .ok (.iconst 0, 1) := by decide +kernel
theorem d_X_enter_25 : decode b_X_enter 25 = .ok (.putfield 56, 3) := by decide +kernel
theorem d_X_enter_28 : decode b_X_enter 28 = .ok (.aload_n 0, 1) := by decide +kernel
theorem d_X_enter_29 : decode b_X_enter 29 = .ok (.iconst 0, 1) := by decide +kernel
theorem d_X_enter_30 : decode b_X_enter 30 = .ok (.putfield 59, 3) := by decide +kernel
theorem d_X_enter_33 : decode b_X_enter 33 = .ok (.aload_n 0, 1) := by decide +kernel
theorem d_X_enter_34 : decode b_X_enter 34 = .ok (.iconst 0, 1) := by decide +kernel
theorem d_X_enter_35 : decode b_X_enter 35 = .ok (.putfield 65, 3) := by decide +kernel
theorem d_X_enter_38 : decode b_X_enter 38 = .ok (.aload_n 0, 1) := by decide +kernel
theorem d_X_enter_39 : decode b_X_enter 39 = .ok (.getfield 19, 3) := by decide +kernel
theorem d_X_enter_42 : decode b_X_enter 42 = .ok (.iconst 0, 1) := by decide +kernel
theorem d_X_enter_43 : decode b_X_enter 43 = .ok (.iload_n 2, 1) := by decide +kernel
theorem d_X_enter_44 : decode b_X_enter 44 = .ok (.iastore, 1) := by decide +kernel
theorem d_X_enter_45 : decode b_X_enter 45 = .ok (.iconst 1, 1) := by decide +kernel
theorem d_X_enter_46 : decode b_X_enter 46 = .ok (.ireturn, 1) := by decide +kernel
theorem d_X_guard_0 : decode b_X_guard 0 = .ok (.aload_n 0, 1) := by decide +kernel
theorem d_X_guard_1 : decode b_X_guard 1 = .ok (.iconst 0, 1) := by decide +kernel
theorem d_X_guard_2 : decode b_X_guard 2 = .ok (.putfield 38, 3) := by decide +kernel
theorem d_X_guard_5 : decode b_X_guard 5 = .ok (.aload_n 0, 1) := by decide +kernel
theorem d_X_guard_6 : decode b_X_guard 6 = .ok (.iload_n 1, 1) := by decide +kernel
theorem d_X_guard_7 : decode b_X_guard 7 = .ok (.putfield 91, 3) := by decide +kernel
theorem d_X_guard_10 : decode b_X_guard 10 = .ok (.return_, 1) := by decide +kernel
theorem d_X_guarded_0 : decode b_X_guarded 0 = .ok (.aload_n 0, 1) := by decide +kernel
theorem d_X_guarded_1 : decode b_X_guarded 1 = .ok (.getfield 91, 3) := by decide +kernel
theorem d_X_guarded_4 : decode b_X_guarded 4 = .ok (.ifCond .eq 15, 3) := by decide +kernel
theorem d_X_guarded_7 : decode b_X_guarded 7 = .ok (.aload_n 0, 1) := by decide +kernel
theorem d_X_guarded_8 : decode b_X_guarded 8 = .ok (.getfield 53, 3) := by decide +kernel
theorem d_X_guarded_11 : decode b_X_guarded 11 = .ok (.iconst 2, 1) := by decide +kernel
theorem d_X_guarded_12 : decode b_X_guarded 12 = .ok (.if_icmp .eq 7, 3) := by decide +kernel
theorem d_X_guarded_15 : decode b_X_guarded 15 = .ok (.iconst 1, 1) := by decide +kernel
theorem d_X_guarded_16 : decode b_X_guarded 16 = .ok (.goto 4, 3) := by decide +kernel
theorem d_X_guarded_19 : decode b_X_guarded 19 = .ok (.iconst 0, 1) := by decide +kernel
theorem d_X_guarded_20 : decode b_X_guarded 20 = .ok (.ireturn, 1) := by decide +kernel
theorem d_X_halt_0 : decode b_X_halt 0 = .ok (.aload_n 0, 1) := by decide +kernel
theorem d_X_halt_1 : decode b_X_halt 1 = .ok (.iconst 0, 1) := by decide +kernel
theorem d_X_halt_2 : decode b_X_halt 2 = .ok (.putfield 38, 3) := by decide +kernel
theorem d_X_halt_5 : decode b_X_halt 5 = .ok (.aload_n 0, 1) := by decide +kernel
theorem d_X_halt_6 : decode b_X_halt 6 = .ok (.getfield 45, 3) := by decide +kernel
theorem d_X_halt_9 : decode b_X_halt 9 = .ok (.istore_n 1, 1) := by decide +kernel
theorem d_X_halt_10 : decode b_X_halt 10 = .ok (.aload_n 0, 1) := by decide +kernel
theorem d_X_halt_11 : decode b_X_halt 11 = .ok (.iconst 0, 1) := by decide +kernel
theorem d_X_halt_12 : decode b_X_halt 12 = .ok (.putfield 45, 3) := by decide +kernel
theorem d_X_halt_15 : decode b_X_halt 15 = .ok (.iload_n 1, 1) := by decide +kernel
theorem d_X_halt_16 : decode b_X_halt 16 = .ok (.ireturn, 1) := by decide +kernel
theorem d_X_instruction_0 : decode b_X_instruction 0 = .ok (.iload_n 1, 1) := by decide +kernel
theorem d_X_instruction_1 : decode b_X_instruction 1 = .ok (.bipush 31, 2) := by decide +kernel
theorem d_X_instruction_3 : decode b_X_instruction 3 = .ok (.iand, 1) := by decide +kernel
theorem d_X_instruction_4 : decode b_X_instruction 4 = .ok (.istore_n 2, 1) := by decide +kernel
theorem d_X_instruction_5 : decode b_X_instruction 5 = .ok (.iload_n 1, 1) := by decide +kernel
theorem d_X_instruction_6 : decode b_X_instruction 6 = .ok (.iconst 5, 1) := by decide +kernel
theorem d_X_instruction_7 : decode b_X_instruction 7 = .ok (.ishr, 1) := by decide +kernel
theorem d_X_instruction_8 : decode b_X_instruction 8 = .ok (.bipush 7, 2) := by decide +kernel
theorem d_X_instruction_10 : decode b_X_instruction 10 = .ok (.iand, 1) := by decide +kernel
theorem d_X_instruction_11 : decode b_X_instruction 11 = .ok (.istore_n 3, 1) := by decide +kernel
theorem d_X_instruction_12 : decode b_X_instruction 12 = .ok (.iload_n 1, 1) := by decide +kernel
theorem d_X_instruction_13 : decode b_X_instruction 13 = .ok (.bipush 8, 2) := by decide +kernel
theorem d_X_instruction_15 : decode b_X_instruction 15 = .ok (.ishr, 1) := by decide +kernel
theorem d_X_instruction_16 : decode b_X_instruction 16 = .ok (.bipush 7, 2) := by decide +kernel
theorem d_X_instruction_18 : decode b_X_instruction 18 = .ok (.iand, 1) := by decide +kernel
theorem d_X_instruction_19 : decode b_X_instruction 19 = .ok (.istore 4, 2) := by decide +kernel
theorem d_X_instruction_21 : decode b_X_instruction 21 = .ok (.iload_n 1, 1) := by decide +kernel
theorem d_X_instruction_22 : decode b_X_instruction 22 = .ok (.bipush 11, 2) := by decide +kernel
theorem d_X_instruction_24 : decode b_X_instruction 24 = .ok (.ishr, 1) := by decide +kernel
theorem d_X_instruction_25 : decode b_X_instruction 25 = .ok (.bipush 7, 2) := by decide +kernel
theorem d_X_instruction_27 : decode b_X_instruction 27 = .ok (.iand, 1) := by decide +kernel
theorem d_X_instruction_28 : decode b_X_instruction 28 = .ok (.istore 5, 2) := by decide +kernel
