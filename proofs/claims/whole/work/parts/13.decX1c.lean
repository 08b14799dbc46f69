theorem d_X_look_45 : decode b_X_look 45 = .ok (.goto 65, 3) := by decide +kernel
theorem d_X_look_48 : decode b_X_look 48 = .ok (.iload_n 1, 1) := by decide +kernel
theorem d_X_look_49 : decode b_X_look 49 = .ok (.iconst 5, 1) := by decide +kernel
theorem d_X_look_50 : decode b_X_look 50 = .ok (.if_icmp .ne 25, 3) := by decide +kernel
theorem d_X_look_53 : decode b_X_look 53 = .ok (.aload_n 0, 1) := by decide +kernel
theorem d_X_look_54 : decode b_X_look 54 = .ok (.getfield 53, 3) := by decide +kernel
theorem d_X_look_57 : decode b_X_look 57 = .ok (.iconst 4, 1) := by decide +kernel
theorem d_X_look_58 : decode b_X_look 58 = .ok (.aload_n 0, 1) := by decide +kernel
theorem d_X_look_59 : decode b_X_look 59 = .ok (.getfield 56, 3) := by decide +kernel
theorem d_X_look_62 : decode b_X_look 62 = .ok (.imul, 1) := by decide +kernel
theorem d_X_look_63 : decode b_X_look 63 = .ok (.iadd, 1) := by decide +kernel
theorem d_X_look_64 : decode b_X_look 64 = .ok (.bipush 8, 2) := by decide +kernel
theorem d_X_look_66 : decode b_X_look 66 = .ok (.aload_n 0, 1) := by decide +kernel
theorem d_X_look_67 : decode b_X_look 67 = .ok (.getfield 59, 3) := by decide +kernel
theorem d_X_look_70 : decode b_X_look 70 = .ok (.imul, 1) := by decide +kernel
theorem d_X_look_71 : decode b_X_look 71 = .ok (.iadd, 1) := by decide +kernel
theorem d_X_look_72 : decode b_X_look 72 = .ok (.goto 38, 3) := by decide +kernel
theorem d_X_look_75 : decode b_X_look 75 = .ok (.iload_n 1, 1) := by decide +kernel
theorem d_X_look_76 : decode b_X_look 76 = .ok (.bipush 6, 2) := by decide +kernel
theorem d_X_look_78 : decode b_X_look 78 = .ok (.if_icmp .ne 10, 3) := by decide +kernel
theorem d_X_look_81 : decode b_X_look 81 = .ok (.aload_n 0, 1) := by decide +kernel
theorem d_X_look_82 : decode b_X_look 82 = .ok (.getfield 62, 3) := by decide +kernel
theorem d_X_look_85 : decode b_X_look 85 = .ok (.goto 25, 3) := by decide +kernel
theorem d_X_look_88 : decode b_X_look 88 = .ok (.iload_n 1, 1) := by decide +kernel
theorem d_X_look_89 : decode b_X_look 89 = .ok (.bipush 7, 2) := by decide +kernel
theorem d_X_look_91 : decode b_X_look 91 = .ok (.if_icmp .ne 18, 3) := by decide +kernel
theorem d_X_look_94 : decode b_X_look 94 = .ok (.aload_n 0, 1) := by decide +kernel
theorem d_X_look_95 : decode b_X_look 95 = .ok (.getfield 65, 3) := by decide +kernel
theorem d_X_look_98 : decode b_X_look 98 = .ok (.ifCond .eq 7, 3) := by decide +kernel
theorem d_X_look_101 : decode b_X_look 101 = .ok (.iconst 1, 1) := by decide +kernel
theorem d_X_look_102 : decode b_X_look 102 = .ok (.goto 8, 3) := by decide +kernel
theorem d_X_look_105 : decode b_X_look 105 = .ok (.iconst 0, 1) := by decide +kernel
theorem d_X_look_106 : decode b_X_look 106 = .ok (.goto 4, 3) := by decide +kernel
theorem d_X_look_109 : decode b_X_look 109 = .ok (.iconst (-1), 1) := by decide +kernel
theorem d_X_look_110 : decode b_X_look 110 = .ok (.ireturn, 1) := by decide +kernel
theorem d_X_look_111 : decode b_X_look 111 = .ok (.iload_n 1, 1) := by decide +kernel
theorem d_X_look_112 : decode b_X_look 112 = .ok (.bipush 8, 2) := by decide +kernel
theorem d_X_look_114 : decode b_X_look 114 = .ok (.if_icmp .ne 10, 3) := by decide +kernel
theorem d_X_look_117 : decode b_X_look 117 = .ok (.aload_n 0, 1) := by decide +kernel
theorem d_X_look_118 : decode b_X_look 118 = .ok (.getfield 131, 3) := by decide +kernel
theorem d_X_look_121 : decode b_X_look 121 = .ok (.goto 56, 3) := by decide +kernel
theorem d_X_look_124 : decode b_X_look 124 = .ok (.iload_n 1, 1) := by decide +kernel
theorem d_X_look_125 : decode b_X_look 125 = .ok (.bipush 9, 2) := by decide +kernel
theorem d_X_look_127 : decode b_X_look 127 = .ok (.if_icmp .ne 10, 3) := by decide +kernel
theorem d_X_look_130 : decode b_X_look 130 = .ok (.aload_n 0, 1) := by decide +kernel
theorem d_X_look_131 : decode b_X_look 131 = .ok (.getfield 137, 3) := by decide +kernel
theorem d_X_look_134 : decode b_X_look 134 = .ok (.goto 43, 3) := by decide +kernel
theorem d_X_look_137 : decode b_X_look 137 = .ok (.iload_n 1, 1) := by decide +kernel
theorem d_X_look_138 : decode b_X_look 138 = .ok (.bipush 10, 2) := by decide +kernel
theorem d_X_look_140 : decode b_X_look 140 = .ok (.if_icmp .ne 10, 3) := by decide +kernel
theorem d_X_look_143 : decode b_X_look 143 = .ok (.aload_n 0, 1) := by decide +kernel
theorem d_X_look_144 : decode b_X_look 144 = .ok (.getfield 88, 3) := by decide +kernel
theorem d_X_look_147 : decode b_X_look 147 = .ok (.goto 30, 3) := by decide +kernel
theorem d_X_look_150 : decode b_X_look 150 = .ok (.iload_n 1, 1) := by decide +kernel
theorem d_X_look_151 : decode b_X_look 151 = .ok (.bipush 11, 2) := by decide +kernel
theorem d_X_look_153 : decode b_X_look 153 = .ok (.if_icmp .ne 10, 3) := by decide +kernel
theorem d_X_look_156 : decode b_X_look 156 = .ok (.aload_n 0, 1) := by decide +kernel
theorem d_X_look_157 : decode b_X_look 157 = .ok (.getfield 35, 3) := by decide +kernel
theorem d_X_look_160 : decode b_X_look 160 = .ok (.goto 17, 3) := by decide +kernel
theorem d_X_look_163 : decode b_X_look 163 = .ok (.iload_n 1, 1) := by decide +kernel
theorem d_X_look_164 : decode b_X_look 164 = .ok (.bipush 12, 2) := by decide +kernel
theorem d_X_look_166 : decode b_X_look 166 = .ok (.if_icmp .ne 10, 3) := by decide +kernel
theorem d_X_look_169 : decode b_X_look 169 = .ok (.aload_n 0, 1) := by decide +kernel
theorem d_X_look_170 : decode b_X_look 170 = .ok (.getfield 143, 3) := by decide +kernel
theorem d_X_look_173 : decode b_X_look 173 = .ok (.goto 4, 3) := by decide +kernel
theorem d_X_look_176 : decode b_X_look 176 = .ok (.iconst (-1), 1) := by decide +kernel
theorem d_X_look_177 : decode b_X_look 177 = .ok (.ireturn, 1) := by decide +kernel
theorem d_X_may_0 : decode b_X_may 0 = .ok (.iload_n 1, 1) := by decide +kernel
theorem d_X_may_1 : decode b_X_may 1 = .ok (.ifCond .lt 14, 3) := by decide +kernel
theorem d_X_may_4 : decode b_X_may 4 = .ok (.iload_n 1, 1) := by decide +kernel
theorem d_X_may_5 : decode b_X_may 5 = .ok (.sipush 512, 3) := by decide +kernel
theorem d_X_may_8 : decode b_X_may 8 = .ok (.if_icmp .ge 7, 3) := by decide +kernel
theorem d_X_may_11 : decode b_X_may 11 = .ok (.iconst 1, 1) := by decide +kernel
theorem d_X_may_12 : decode b_X_may 12 = .ok (.goto 4, 3) := by decide +kernel
theorem d_X_may_15 : decode b_X_may 15 = .ok (.iconst 0, 1) := by decide +kernel
theorem d_X_may_16 : decode b_X_may 16 = .ok (.istore_n 3, 1) := by decide +kernel
theorem d_X_may_17 : decode b_X_may 17 = .ok (.aload_n 0, 1) := by decide +kernel
theorem d_X_may_18 : decode b_X_may 18 = .ok (.invokevirtual 94, 3) := by decide +kernel
theorem d_X_may_21 : decode b_X_may 21 = .ok (.ifCond .ne 7, 3) := by decide +kernel
theorem d_X_may_24 : decode b_X_may 24 = .ok (.iconst 1, 1) := by decide +kernel
theorem d_X_may_25 : decode b_X_may 25 = .ok (.goto 4, 3) := by decide +kernel
theorem d_X_may_28 : decode b_X_may 28 = .ok (.iconst 0, 1) := by decide +kernel
theorem d_X_may_29 : decode b_X_may 29 = .ok (.istore 4, 2) := by decide +kernel
theorem d_X_may_31 : decode b_X_may 31 = .ok (.iconst 3, 1) := by decide +kernel
theorem d_X_may_32 : decode b_X_may 32 = .ok (.aload_n 0, 1) := by decide +kernel
theorem d_X_may_33 : decode b_X_may 33 = .ok (.getfield 56, 3) := by decide +kernel
theorem d_X_may_36 : decode b_X_may 36 = .ok (.imul, 1) := by decide +kernel
theorem d_X_may_37 : decode b_X_may 37 = .ok (.istore 5, 2) := by decide +kernel
theorem d_X_may_39 : decode b_X_may 39 = .ok (.iload 5, 2) := by decide +kernel
theorem d_X_may_41 : decode b_X_may 41 = .ok (.iconst 3, 1) := by decide +kernel
theorem d_X_may_42 : decode b_X_may 42 = .ok (.aload_n 0, 1) := by decide +kernel
theorem d_X_may_43 : decode b_X_may 43 = .ok (.getfield 56, 3) := by decide +kernel
theorem d_X_may_46 : decode b_X_may 46 = .ok (.imul, 1) := by decide +kernel
theorem d_X_may_47 : decode b_X_may 47 = .ok (.iconst 2, 1) := by decide +kernel
theorem d_X_may_48 : decode b_X_may 48 = .ok (.iadd, 1) := by decide +kernel
theorem d_X_may_49 : decode b_X_may 49 = .ok (.if_icmp .ge 63, 3) := by decide +kernel
theorem d_X_may_52 : decode b_X_may 52 = .ok (.iload 4, 2) := by decide +kernel
theorem d_X_may_54 : decode b_X_may 54 = .ok (.ifCond .ne 45, 3) := by decide +kernel
theorem d_X_may_57 : decode b_X_may 57 = .ok (.iload_n 1, 1) := by decide +kernel
theorem d_X_may_58 : decode b_X_may 58 = .ok (.aload_n 0, 1) := by decide +kernel
theorem d_X_may_59 : decode b_X_may 59 = .ok (.getfield 26, 3) := by decide +kernel
theorem d_X_may_62 : decode b_X_may 62 = .ok (.iload 5, 2) := by decide +kernel
theorem d_X_may_64 : decode b_X_may 64 = .ok (.iaload, 1) := by decide +kernel
theorem d_X_may_65 : decode b_X_may 65 = .ok (.if_icmp .lt 38, 3) := by decide +kernel
theorem d_X_may_68 : decode b_X_may 68 = .ok (.iload_n 1, 1) := by decide +kernel
theorem d_X_may_69 : decode b_X_may 69 = .ok (.aload_n 0, 1) := by decide +kernel
theorem d_X_may_70 : decode b_X_may 70 = .ok (.getfield 29, 3) := by decide +kernel
theorem d_X_may_73 : decode b_X_may 73 = .ok (.iload 5, 2) := by decide +kernel
theorem d_X_may_75 : decode b_X_may 75 = .ok (.iaload, 1) := by decide +kernel
theorem d_X_may_76 : decode b_X_may 76 = .ok (.if_icmp .ge 27, 3) := by decide +kernel
theorem d_X_may_79 : decode b_X_may 79 = .ok (.aload_n 0, 1) := by decide +kernel
theorem d_X_may_80 : decode b_X_may 80 = .ok (.getfield 32, 3) := by decide +kernel
theorem d_X_may_83 : decode b_X_may 83 = .ok (.iload 5, 2) := by decide +kernel
theorem d_X_may_85 : decode b_X_may 85 = .ok (.iaload, 1) := by decide +kernel
theorem d_X_may_86 : decode b_X_may 86 = .ok (.iload_n 2, 1) := by decide +kernel
theorem d_X_may_87 : decode b_X_may 87 = .ok (.ifCond .eq 7, 3) := by decide +kernel
theorem d_X_may_90 : decode b_X_may 90 = .ok (.iconst 2, 1) := by decide +kernel
theorem d_X_may_91 : decode b_X_may 91 = .ok (.goto 4, 3) := by decide +kernel
theorem d_X_may_94 : decode b_X_may 94 = .ok (.iconst 1, 1) := by decide +kernel
theorem d_X_may_95 : decode b_X_may 95 = .ok (.iand, 1) := by decide +kernel
theorem d_X_may_96 : decode b_X_may 96 = .ok (.ifCond .eq 7, 3) := by decide +kernel
theorem d_X_may_99 : decode b_X_may 99 = .ok (.iconst 1, 1) := by decide +kernel
theorem d_X_may_100 : decode b_X_may 100 = .ok (.goto 4, 3) := by decide +kernel
theorem d_X_may_103 : decode b_X_may 103 = .ok (.iconst 0, 1) := by decide +kernel
theorem d_X_may_104 : decode b_X_may 104 = .ok (.istore 4, 2) := by decide +kernel
theorem d_X_may_106 : decode b_X_may 106 = .ok (.iinc 5 1, 3) := by decide +kernel
theorem d_X_may_109 : decode b_X_may 109 = .ok (.goto (-70), 3) := by decide +kernel
theorem d_X_may_112 : decode b_X_may 112 = .ok (.aload_n 0, 1) := by decide +kernel
theorem d_X_may_113 : decode b_X_may 113 = .ok (.iload_n 3, 1) := by decide +kernel
theorem d_X_may_114 : decode b_X_may 114 = .ok (.ifCond .ne 9, 3) := by decide +kernel
theorem d_X_may_117 : decode b_X_may 117 = .ok (.sipush 1025, 3) := by decide +kernel
theorem d_X_may_120 : decode b_X_may 120 = .ok (.goto 28, 3) := by decide +kernel
theorem d_X_may_123 : decode b_X_may 123 = .ok (.iload 4, 2) := by decide +kernel
theorem d_X_may_125 : decode b_X_may 125 = .ok (.ifCond .ne 19, 3) := by decide +kernel
theorem d_X_may_128 : decode b_X_may 128 = .ok (.iload_n 2, 1) := by decide +kernel
theorem d_X_may_129 : decode b_X_may 129 = .ok (.ifCond .eq 9, 3) := by decide +kernel
theorem d_X_may_132 : decode b_X_may 132 = .ok (.sipush 259, 3) := by decide +kernel
theorem d_X_may_135 : decode b_X_may 135 = .ok (.goto 13, 3) := by decide +kernel
theorem d_X_may_138 : decode b_X_may 138 = .ok (.sipush 258, 3) := by decide +kernel
theorem d_X_may_141 : decode b_X_may 141 = .ok (.goto 7, 3) := by decide +kernel
theorem d_X_may_144 : decode b_X_may 144 = .ok (.aload_n 0, 1) := by decide +kernel
theorem d_X_may_145 : decode b_X_may 145 = .ok (.getfield 71, 3) := by decide +kernel
theorem d_X_may_148 : decode b_X_may 148 = .ok (.putfield 71, 3) := by decide +kernel
theorem d_X_may_151 : decode b_X_may 151 = .ok (.iload_n 3, 1) := by decide +kernel
theorem d_X_may_152 : decode b_X_may 152 = .ok (.ifCond .eq 12, 3) := by decide +kernel
theorem d_X_may_155 : decode b_X_may 155 = .ok (.iload 4, 2) := by decide +kernel
theorem d_X_may_157 : decode b_X_may 157 = .ok (.ifCond .eq 7, 3) := by decide +kernel
theorem d_X_may_160 : decode b_X_may 160 = .ok (.iconst 1, 1) := by decide +kernel
theorem d_X_may_161 : decode b_X_may 161 = .ok (.goto 4, 3) := by decide +kernel
theorem d_X_may_164 : decode b_X_may 164 = .ok (.iconst 0, 1) := by decide +kernel
theorem d_X_may_165 : decode b_X_may 165 = .ok (.ireturn, 1) := by decide +kernel
theorem d_X_move_0 : decode b_X_move 0 = .ok (.iload_n 1, 1) := by decide +kernel
theorem d_X_move_1 : decode b_X_move 1 = .ok (.bipush 15, 2) := by decide +kernel
theorem d_X_move_3 : decode b_X_move 3 = .ok (.if_icmp .ge 15, 3) := by decide +kernel
theorem d_X_move_6 : decode b_X_move 6 = .ok (.aload_n 0, 1) := by decide +kernel
theorem d_X_move_7 : decode b_X_move 7 = .ok (.getfield 16, 3) := by decide +kernel
theorem d_X_move_10 : decode b_X_move 10 = .ok (.iload_n 3, 1) := by decide +kernel
theorem d_X_move_11 : decode b_X_move 11 = .ok (.iaload, 1) := by decide +kernel
theorem d_X_move_12 : decode b_X_move 12 = .ok (.iload 4, 2) := by decide +kernel
theorem d_X_move_14 : decode b_X_move 14 = .ok (.iadd, 1) := by decide +kernel
theorem d_X_move_15 : decode b_X_move 15 = .ok (.goto 9, 3) := by decide +kernel
theorem d_X_move_18 : decode b_X_move 18 = .ok (.aload_n 0, 1) := by decide +kernel
theorem d_X_move_19 : decode b_X_move 19 = .ok (.getfield 16, 3) := by decide +kernel
theorem d_X_move_22 : decode b_X_move 22 = .ok (.iload_n 3, 1) := by decide +kernel
theorem d_X_move_23 : decode b_X_move 23 = .ok (.iaload, 1) := by decide +kernel
theorem d_X_move_24 : decode b_X_move 24 = .ok (.istore 5, 2) := by decide +kernel
theorem d_X_move_26 : decode b_X_move 26 = .ok (.iload_n 1, 1) := by decide +kernel
theorem d_X_move_27 : decode b_X_move 27 = .ok (.bipush 14, 2) := by decide +kernel
theorem d_X_move_29 : decode b_X_move 29 = .ok (.if_icmp .eq 9, 3) := by decide +kernel
theorem d_X_move_32 : decode b_X_move 32 = .ok (.iload_n 1, 1) := by decide +kernel
theorem d_X_move_33 : decode b_X_move 33 = .ok (.bipush 16, 2) := by decide +kernel
theorem d_X_move_35 : decode b_X_move 35 = .ok (.if_icmp .ne 7, 3) := by decide +kernel
theorem d_X_move_38 : decode b_X_move 38 = .ok (.iconst 1, 1) := by decide +kernel
theorem d_X_move_39 : decode b_X_move 39 = .ok (.goto 4, 3) := by decide +kernel
theorem d_X_move_42 : decode b_X_move 42 = .ok (.iconst 0, 1) := by decide +kernel
theorem d_X_move_43 : decode b_X_move 43 = .ok (.istore 6, 2) := by decide +kernel
theorem d_X_move_45 : decode b_X_move 45 = .ok (.iload_n 3, 1) := by decide +kernel
theorem d_X_move_46 : decode b_X_move 46 = .ok (.iconst 1, 1) := by decide +kernel
theorem d_X_move_47 : decode b_X_move 47 = .ok (.iadd, 1) := by decide +kernel
theorem d_X_move_48 : decode b_X_move 48 = .ok (.bipush 7, 2) := by decide +kernel
theorem d_X_move_50 : decode b_X_move 50 = .ok (.iand, 1) := by decide +kernel
theorem d_X_move_51 : decode b_X_move 51 = .ok (.istore 7, 2) := by decide +kernel
theorem d_X_move_53 : decode b_X_move 53 = .ok (.aload_n 0, 1) := by decide +kernel
theorem d_X_move_54 : decode b_X_move 54 = .ok (.getfield 16, 3) := by decide +kernel
theorem d_X_move_57 : decode b_X_move 57 = .ok (.iload 7, 2) := by decide +kernel
theorem d_X_move_59 : decode b_X_move 59 = .ok (.iaload, 1) := by decide +kernel
theorem d_X_move_60 : decode b_X_move 60 = .ok (.ldc 98, 2) := by decide +kernel
theorem d_X_move_62 : decode b_X_move 62 = .ok (.iand, 1) := by decide +kernel
theorem d_X_move_63 : decode b_X_move 63 = .ok (.istore 8, 2) := by decide +kernel
theorem d_X_move_65 : decode b_X_move 65 = .ok (.aload_n 0, 1) := by decide +kernel
theorem d_X_move_66 : decode b_X_move 66 = .ok (.getfield 16, 3) := by decide +kernel
theorem d_X_move_69 : decode b_X_move 69 = .ok (.iload 7, 2) := by decide +kernel
theorem d_X_move_71 : decode b_X_move 71 = .ok (.iaload, 1) := by decide +kernel
theorem d_X_move_72 : decode b_X_move 72 = .ok (.bipush 16, 2) := by decide +kernel
theorem d_X_move_74 : decode b_X_move 74 = .ok (.iushr, 1) := by decide +kernel
theorem d_X_move_75 : decode b_X_move 75 = .ok (.istore 9, 2) := by decide +kernel
theorem d_X_move_77 : decode b_X_move 77 = .ok (.iload_n 1, 1) := by decide +kernel
theorem d_X_move_78 : decode b_X_move 78 = .ok (.bipush 17, 2) := by decide +kernel
theorem d_X_move_80 : decode b_X_move 80 = .ok (.if_icmp .ne 18, 3) := by decide +kernel
theorem d_X_move_83 : decode b_X_move 83 = .ok (.iload 8, 2) := by decide +kernel
theorem d_X_move_85 : decode b_X_move 85 = .ok (.iload 9, 2) := by decide +kernel
theorem d_X_move_87 : decode b_X_move 87 = .ok (.if_icmp .lt 11, 3) := by decide +kernel
theorem d_X_move_90 : decode b_X_move 90 = .ok (.aload_n 0, 1) := by decide +kernel
theorem d_X_move_91 : decode b_X_move 91 = .ok (.sipush 514, 3) := by decide +kernel
theorem d_X_move_94 : decode b_X_move 94 = .ok (.putfield 71, 3) := by decide +kernel
theorem d_X_move_97 : decode b_X_move 97 = .ok (.return_, 1) := by decide +kernel
theorem d_X_move_98 : decode b_X_move 98 = .ok (.iload_n 1, 1) := by decide +kernel
theorem d_X_move_99 : decode b_X_move 99 = .ok (.bipush 17, 2) := by decide +kernel
theorem d_X_move_101 : decode b_X_move 101 = .ok (.if_icmp .ne 15, 3) := by decide +kernel
theorem d_X_move_104 : decode b_X_move 104 = .ok (.aload_n 0, 1) := by decide +kernel
theorem d_X_move_105 : decode b_X_move 105 = .ok (.getfield 16, 3) := by decide +kernel
theorem d_X_move_108 : decode b_X_move 108 = .ok (.iload_n 3, 1) := by decide +kernel
theorem d_X_move_109 : decode b_X_move 109 = .ok (.iaload, 1) := by decide +kernel
theorem d_X_move_110 : decode b_X_move 110 = .ok (.iload 8, 2) := by decide +kernel
theorem d_X_move_112 : decode b_X_move 112 = .ok (.iadd, 1) := by decide +kernel
theorem d_X_move_113 : decode b_X_move 113 = .ok (.goto 5, 3) := by decide +kernel
theorem d_X_move_116 : decode b_X_move 116 = .ok (.iload 5, 2) := by decide +kernel
theorem d_X_move_118 : decode b_X_move 118 = .ok (.istore 5, 2) := by decide +kernel
theorem d_X_move_120 : decode b_X_move 120 = .ok (.aload_n 0, 1) := by decide +kernel
theorem d_X_move_121 : decode b_X_move 121 = .ok (.iload 5, 2) := by decide +kernel
theorem d_X_move_123 : decode b_X_move 123 = .ok (.iload 6, 2) := by decide +kernel
theorem d_X_move_125 : decode b_X_move 125 = .ok (.invokevirtual 99, 3) := by decide +kernel
theorem d_X_move_128 : decode b_X_move 128 = .ok (.ifCond .ne 4, 3) := by decide +kernel
theorem d_X_move_131 : decode b_X_move 131 = .ok (.return_, 1) := by decide +kernel
theorem d_X_move_132 : decode b_X_move 132 = .ok (.iload 6, 2) := by decide +kernel
theorem d_X_move_134 : decode b_X_move 134 = .ok (.ifCond .eq 19, 3) := by decide +kernel
theorem d_X_move_137 : decode b_X_move 137 = .ok (.aload_n 0, 1) := by decide +kernel
theorem d_X_move_138 : decode b_X_move 138 = .ok (.getfield 7, 3) := by decide +kernel
theorem d_X_move_141 : decode b_X_move 141 = .ok (.iload 5, 2) := by decide +kernel
theorem d_X_move_143 : decode b_X_move 143 = .ok (.aload_n 0, 1) := by decide +kernel
theorem d_X_move_144 : decode b_X_move 144 = .ok (.getfield 13, 3) := by decide +kernel
theorem d_X_move_147 : decode b_X_move 147 = .ok (.iload_n 2, 1) := by decide +kernel
theorem d_X_move_148 : decode b_X_move 148 = .ok (.iaload, 1) := by decide +kernel
theorem d_X_move_149 : decode b_X_move 149 = .ok (.iastore, 1) := by decide +kernel
theorem d_X_move_150 : decode b_X_move 150 = .ok (.goto 16, 3) := by decide +kernel
theorem d_X_move_153 : decode b_X_move 153 = .ok (.aload_n 0, 1) := by decide +kernel
theorem d_X_move_154 : decode b_X_move 154 = .ok (.getfield 13, 3) := by decide +kernel
theorem d_X_move_157 : decode b_X_move 157 = .ok (.iload_n 2, 1) := by decide +kernel
theorem d_X_move_158 : decode b_X_move 158 = .ok (.aload_n 0, 1) := by decide +kernel
theorem d_X_move_159 : decode b_X_move 159 = .ok (.getfield 7, 3) := by decide +kernel
theorem d_X_move_162 : decode b_X_move 162 = .ok (.iload 5, 2) := by decide +kernel
theorem d_X_move_164 : decode b_X_move 164 = .ok (.iaload, 1) := by decide +kernel
theorem d_X_move_165 : decode b_X_move 165 = .ok (.iastore, 1) := by decide +kernel
theorem d_X_move_166 : decode b_X_move 166 = .ok (.iload_n 1, 1) := by decide +kernel
theorem d_X_move_167 : decode b_X_move 167 = .ok (.bipush 17, 2) := by decide +kernel
theorem d_X_move_169 : decode b_X_move 169 = .ok (.if_icmp .ne 53, 3) := by decide +kernel
theorem d_X_move_172 : decode b_X_move 172 = .ok (.iload 8, 2) := by decide +kernel
theorem d_X_move_174 : decode b_X_move 174 = .ok (.iload 4, 2) := by decide +kernel
theorem d_X_move_176 : decode b_X_move 176 = .ok (.iadd, 1) := by decide +kernel
theorem d_X_move_177 : decode b_X_move 177 = .ok (.iload 9, 2) := by decide +kernel
theorem d_X_move_179 : decode b_X_move 179 = .ok (.ifCond .ne 7, 3) := by decide +kernel
theorem d_X_move_182 : decode b_X_move 182 = .ok (.iconst 1, 1) := by decide +kernel
theorem d_X_move_183 : decode b_X_move 183 = .ok (.goto 5, 3) := by decide +kernel
theorem d_X_move_186 : decode b_X_move 186 = .ok (.iload 9, 2) := by decide +kernel
theorem d_X_move_188 : decode b_X_move 188 = .ok (.irem, 1) := by decide +kernel
theorem d_X_move_189 : decode b_X_move 189 = .ok (.istore 10, 2) := by decide +kernel
theorem d_X_move_191 : decode b_X_move 191 = .ok (.aload_n 0, 1) := by decide +kernel
theorem d_X_move_192 : decode b_X_move 192 = .ok (.getfield 16, 3) := by decide +kernel
theorem d_X_move_195 : decode b_X_move 195 = .ok (.iload 7, 2) := by decide +kernel
theorem d_X_move_197 : decode b_X_move 197 = .ok (.iload 9, 2) := by decide +kernel
theorem d_X_move_199 : decode b_X_move 199 = .ok (.ldc 103, 2) := by decide +kernel
theorem d_X_move_201 : decode b_X_move 201 = .ok (.imul, 1) := by decide +kernel
theorem d_X_move_202 : decode b_X_move 202 = .ok (.iload 10, 2) := by decide +kernel
theorem d_X_move_204 : decode b_X_move 204 = .ok (.ifCond .ge 11, 3) := by decide +kernel
theorem d_X_move_207 : decode b_X_move 207 = .ok (.iload 10, 2) := by decide +kernel
theorem d_X_move_209 : decode b_X_move 209 = .ok (.iload 9, 2) := by decide +kernel
theorem d_X_move_211 : decode b_X_move 211 = .ok (.iadd, 1) := by decide +kernel
theorem d_X_move_212 : decode b_X_move 212 = .ok (.goto 5, 3) := by decide +kernel
theorem d_X_move_215 : decode b_X_move 215 = .ok (.iload 10, 2) := by decide +kernel
theorem d_X_move_217 : decode b_X_move 217 = .ok (.iadd, 1) := by decide +kernel
theorem d_X_move_218 : decode b_X_move 218 = .ok (.iastore, 1) := by decide +kernel
theorem d_X_move_219 : decode b_X_move 219 = .ok (.goto 20, 3) := by decide +kernel
theorem d_X_move_222 : decode b_X_move 222 = .ok (.iload_n 1, 1) := by decide +kernel
theorem d_X_move_223 : decode b_X_move 223 = .ok (.bipush 14, 2) := by decide +kernel
theorem d_X_move_225 : decode b_X_move 225 = .ok (.if_icmp .le 14, 3) := by decide +kernel
theorem d_X_move_228 : decode b_X_move 228 = .ok (.aload_n 0, 1) := by decide +kernel
theorem d_X_move_229 : decode b_X_move 229 = .ok (.getfield 16, 3) := by decide +kernel
theorem d_X_move_232 : decode b_X_move 232 = .ok (.iload_n 3, 1) := by decide +kernel
theorem d_X_move_233 : decode b_X_move 233 = .ok (.dup2, 1) := by decide +kernel
theorem d_X_move_234 : decode b_X_move 234 = .ok (.iaload, 1) := by decide +kernel
theorem d_X_move_235 : decode b_X_move 235 = .ok (.iload 4, 2) := by decide +kernel
theorem d_X_move_237 : decode b_X_move 237 = .ok (.iadd, 1) := by decide +kernel
theorem d_X_move_238 : decode b_X_move 238 = .ok (.iastore, 1) := by decide +kernel
theorem d_X_move_239 : decode b_X_move 239 = .ok (.return_, 1) := by decide +kernel
theorem d_X_pool_0 : decode b_X_pool 0 = .ok (.aload_n 0, 1) := by decide +kernel
theorem d_X_pool_1 : decode b_X_pool 1 = .ok (.iload_n 1, 1) := by decide +kernel
theorem d_X_pool_2 : decode b_X_pool 2 = .ok (.ifCond .lt 19, 3) := by decide +kernel
theorem d_X_pool_5 : decode b_X_pool 5 = .ok (.iload_n 1, 1) := by decide +kernel
theorem d_X_pool_6 : decode b_X_pool 6 = .ok (.bipush 24, 2) := by decide +kernel
theorem d_X_pool_8 : decode b_X_pool 8 = .ok (.if_icmp .gt 13, 3) := by decide +kernel
theorem d_X_pool_11 : decode b_X_pool 11 = .ok (.iload_n 2, 1) := by decide +kernel
theorem d_X_pool_12 : decode b_X_pool 12 = .ok (.ifCond .lt 9, 3) := by decide +kernel
theorem d_X_pool_15 : decode b_X_pool 15 = .ok (.iload_n 2, 1) := by decide +kernel
theorem d_X_pool_16 : decode b_X_pool 16 = .ok (.bipush 31, 2) := by decide +kernel
theorem d_X_pool_18 : decode b_X_pool 18 = .ok (.if_icmp .le 7, 3) := by decide +kernel
theorem d_X_pool_21 : decode b_X_pool 21 = .ok (.iconst 1, 1) := by decide +kernel
theorem d_X_pool_22 : decode b_X_pool 22 = .ok (.goto 15, 3) := by decide +kernel
theorem d_X_pool_25 : decode b_X_pool 25 = .ok (.aload_n 0, 1) := by decide +kernel
theorem d_X_pool_26 : decode b_X_pool 26 = .ok (.getfield 45, 3) := by decide +kernel
theorem d_X_pool_29 : decode b_X_pool 29 = .ok (.ifCond .eq 7, 3) := by decide +kernel
theorem d_X_pool_32 : decode b_X_pool 32 = .ok (.iconst 2, 1) := by decide +kernel
theorem d_X_pool_33 : decode b_X_pool 33 = .ok (.goto 4, 3) := by decide +kernel
theorem d_X_pool_36 : decode b_X_pool 36 = .ok (.iconst 0, 1) := by decide +kernel
theorem d_X_pool_37 : decode b_X_pool 37 = .ok (.putfield 38, 3) := by decide +kernel
theorem d_X_pool_40 : decode b_X_pool 40 = .ok (.aload_n 0, 1) := by decide +kernel
theorem d_X_pool_41 : decode b_X_pool 41 = .ok (.getfield 38, 3) := by decide +kernel
theorem d_X_pool_44 : decode b_X_pool 44 = .ok (.ifCond .le 4, 3) := by decide +kernel
theorem d_X_pool_47 : decode b_X_pool 47 = .ok (.return_, 1) := by decide +kernel
theorem d_X_pool_48 : decode b_X_pool 48 = .ok (.iconst 1, 1) := by decide +kernel
theorem d_X_pool_49 : decode b_X_pool 49 = .ok (.istore_n 3, 1) := by decide +kernel
theorem d_X_pool_50 : decode b_X_pool 50 = .ok (.iload_n 3, 1) := by decide +kernel
theorem d_X_pool_51 : decode b_X_pool 51 = .ok (.iload_n 1, 1) := by decide +kernel
theorem d_X_pool_52 : decode b_X_pool 52 = .ok (.if_icmp .gt 30, 3) := by decide +kernel
theorem d_X_pool_55 : decode b_X_pool 55 = .ok (.aload_n 0, 1) := by decide +kernel
theorem d_X_pool_56 : decode b_X_pool 56 = .ok (.getfield 7, 3) := by decide +kernel
theorem d_X_pool_59 : decode b_X_pool 59 = .ok (.iload_n 3, 1) := by decide +kernel
theorem d_X_pool_60 : decode b_X_pool 60 = .ok (.invokestatic 49, 3) := by decide +kernel
theorem d_X_pool_63 : decode b_X_pool 63 = .ok (.iload_n 3, 1) := by decide +kernel
theorem d_X_pool_64 : decode b_X_pool 64 = .ok (.iload_n 1, 1) := by decide +kernel
theorem d_X_pool_65 : decode b_X_pool 65 = .ok (.if_icmp .ge 9, 3) := by decide +kernel
theorem d_X_pool_68 : decode b_X_pool 68 = .ok (.iload_n 3, 1) := by decide +kernel
theorem d_X_pool_69 : decode b_X_pool 69 = .ok (.iconst 1, 1) := by decide +kernel
theorem d_X_pool_70 : decode b_X_pool 70 = .ok (.iadd, 1) := by decide +kernel
theorem d_X_pool_71 : decode b_X_pool 71 = .ok (.goto 4, 3) := by decide +kernel
theorem d_X_pool_74 : decode b_X_pool 74 = .ok (.iconst 0, 1) := by decide +kernel
theorem d_X_pool_75 : decode b_X_pool 75 = .ok (.iastore, 1) := by decide +kernel
theorem d_X_pool_76 : decode b_X_pool 76 = .ok (.iinc 3 1, 3) := by decide +kernel
theorem d_X_pool_79 : decode b_X_pool 79 = .ok (.goto (-29), 3) := by decide +kernel
theorem d_X_pool_82 : decode b_X_pool 82 = .ok (.aload_n 0, 1) := by decide +kernel
theorem d_X_pool_83 : decode b_X_pool 83 = .ok (.getfield 19, 3) := by decide +kernel
theorem d_X_pool_86 : decode b_X_pool 86 = .ok (.iconst 1, 1) := by decide +kernel
theorem d_X_pool_87 : decode b_X_pool 87 = .ok (.iload_n 1, 1) := by decide +kernel
theorem d_X_pool_88 : decode b_X_pool 88 = .ok (.ifCond .le 7, 3) := by decide +kernel
theorem d_X_pool_91 : decode b_X_pool 91 = .ok (.iconst 1, 1) := by decide +kernel
theorem d_X_pool_92 : decode b_X_pool 92 = .ok (.goto 4, 3) := by decide +kernel
theorem d_X_pool_95 : decode b_X_pool 95 = .ok (.iconst 0, 1) := by decide +kernel
theorem d_X_pool_96 : decode b_X_pool 96 = .ok (.iastore, 1) := by decide +kernel
theorem d_X_pool_97 : decode b_X_pool 97 = .ok (.aload_n 0, 1) := by decide +kernel
theorem d_X_pool_98 : decode b_X_pool 98 = .ok (.getfield 19, 3) := by decide +kernel
theorem d_X_pool_101 : decode b_X_pool 101 = .ok (.iconst 2, 1) := by decide +kernel
theorem d_X_pool_102 : decode b_X_pool 102 = .ok (.iload_n 2, 1) := by decide +kernel
theorem d_X_pool_103 : decode b_X_pool 103 = .ok (.iastore, 1) := by decide +kernel
theorem d_X_pool_104 : decode b_X_pool 104 = .ok (.aload_n 0, 1) := by decide +kernel
theorem d_X_pool_105 : decode b_X_pool 105 = .ok (.getfield 19, 3) := by decide +kernel
theorem d_X_pool_108 : decode b_X_pool 108 = .ok (.iconst 3, 1) := by decide +kernel
theorem d_X_pool_109 : decode b_X_pool 109 = .ok (.iconst 0, 1) := by decide +kernel
theorem d_X_pool_110 : decode b_X_pool 110 = .ok (.iastore, 1) := by decide +kernel
theorem d_X_pool_111 : decode b_X_pool 111 = .ok (.return_, 1) := by decide +kernel
theorem d_X_put_0 : decode b_X_put 0 = .ok (.aload_n 0, 1) := by decide +kernel
theorem d_X_put_1 : decode b_X_put 1 = .ok (.iconst 0, 1) := by decide +kernel
theorem d_X_put_2 : decode b_X_put 2 = .ok (.putfield 38, 3) := by decide +kernel
theorem d_X_put_5 : decode b_X_put 5 = .ok (.iload_n 1, 1) := by decide +kernel
theorem d_X_put_6 : decode b_X_put 6 = .ok (.ifCond .lt 10, 3) := by decide +kernel
theorem d_X_put_9 : decode b_X_put 9 = .ok (.iload_n 1, 1) := by decide +kernel
theorem d_X_put_10 : decode b_X_put 10 = .ok (.sipush 512, 3) := by decide +kernel
theorem d_X_put_13 : decode b_X_put 13 = .ok (.if_icmp .lt 5, 3) := by decide +kernel
theorem d_X_put_16 : decode b_X_put 16 = .ok (.iconst 0, 1) := by decide +kernel
theorem d_X_put_17 : decode b_X_put 17 = .ok (.ireturn, 1) := by decide +kernel
theorem d_X_put_18 : decode b_X_put 18 = .ok (.aload_n 0, 1) := by decide +kernel
theorem d_X_put_19 : decode b_X_put 19 = .ok (.getfield 7, 3) := by decide +kernel
theorem d_X_put_22 : decode b_X_put 22 = .ok (.iload_n 1, 1) := by decide +kernel
theorem d_X_put_23 : decode b_X_put 23 = .ok (.iload_n 2, 1) := by decide +kernel
theorem d_X_put_24 : decode b_X_put 24 = .ok (.iastore, 1) := by decide +kernel
theorem d_X_put_25 : decode b_X_put 25 = .ok (.iconst 1, 1) := by decide +kernel
theorem d_X_put_26 : decode b_X_put 26 = .ok (.ireturn, 1) := by decide +kernel
theorem d_X_range_0 : decode b_X_range 0 = .ok (.aload_n 0, 1) := by decide +kernel
theorem d_X_range_1 : decode b_X_range 1 = .ok (.iload_n 1, 1) := by decide +kernel
theorem d_X_range_2 : decode b_X_range 2 = .ok (.ifCond .lt 28, 3) := by decide +kernel
theorem d_X_range_5 : decode b_X_range 5 = .ok (.iload_n 1, 1) := by decide +kernel
theorem d_X_range_6 : decode b_X_range 6 = .ok (.iconst 1, 1) := by decide +kernel
theorem d_X_range_7 : decode b_X_range 7 = .ok (.if_icmp .gt 23, 3) := by decide +kernel
theorem d_X_range_10 : decode b_X_range 10 = .ok (.iload_n 2, 1) := by decide +kernel
theorem d_X_range_11 : decode b_X_range 11 = .ok (.ifCond .lt 19, 3) := by decide +kernel
theorem d_X_range_14 : decode b_X_range 14 = .ok (.iload_n 2, 1) := by decide +kernel
theorem d_X_range_15 : decode b_X_range 15 = .ok (.iconst 2, 1) := by decide +kernel
theorem d_X_range_16 : decode b_X_range 16 = .ok (.if_icmp .gt 14, 3) := by decide +kernel
theorem d_X_range_19 : decode b_X_range 19 = .ok (.iload 5, 2) := by decide +kernel
theorem d_X_range_21 : decode b_X_range 21 = .ok (.ifCond .lt 9, 3) := by decide +kernel
theorem d_X_range_24 : decode b_X_range 24 = .ok (.iload 5, 2) := by decide +kernel
theorem d_X_range_26 : decode b_X_range 26 = .ok (.iconst 3, 1) := by decide +kernel
theorem d_X_range_27 : decode b_X_range 27 = .ok (.if_icmp .le 7, 3) := by decide +kernel
theorem d_X_range_30 : decode b_X_range 30 = .ok (.iconst 1, 1) := by decide +kernel
theorem d_X_range_31 : decode b_X_range 31 = .ok (.goto 4, 3) := by decide +kernel
theorem d_X_range_34 : decode b_X_range 34 = .ok (.iconst 0, 1) := by decide +kernel
theorem d_X_range_35 : decode b_X_range 35 = .ok (.putfield 38, 3) := by decide +kernel
theorem d_X_range_38 : decode b_X_range 38 = .ok (.aload_n 0, 1) := by decide +kernel
theorem d_X_range_39 : decode b_X_range 39 = .ok (.getfield 38, 3) := by decide +kernel
theorem d_X_range_42 : decode b_X_range 42 = .ok (.ifCond .le 4, 3) := by decide +kernel
theorem d_X_range_45 : decode b_X_range 45 = .ok (.return_, 1) := by decide +kernel
theorem d_X_range_46 : decode b_X_range 46 = .ok (.aload_n 0, 1) := by decide +kernel
theorem d_X_range_47 : decode b_X_range 47 = .ok (.getfield 26, 3) := by decide +kernel
theorem d_X_range_50 : decode b_X_range 50 = .ok (.iconst 3, 1) := by decide +kernel
theorem d_X_range_51 : decode b_X_range 51 = .ok (.iload_n 1, 1) := by decide +kernel
theorem d_X_range_52 : decode b_X_range 52 = .ok (.imul, 1) := by decide +kernel
theorem d_X_range_53 : decode b_X_range 53 = .ok (.iload_n 2, 1) := by decide +kernel
theorem d_X_range_54 : decode b_X_range 54 = .ok (.iadd, 1) := by decide +kernel
theorem d_X_range_55 : decode b_X_range 55 = .ok (.iload_n 3, 1) := by decide +kernel
theorem d_X_range_56 : decode b_X_range 56 = .ok (.iastore, 1) := by decide +kernel
theorem d_X_range_57 : decode b_X_range 57 = .ok (.aload_n 0, 1) := by decide +kernel
theorem d_X_range_58 : decode b_X_range 58 = .ok (.getfield 29, 3) := by decide +kernel
