theorem dX4_outcome_29 : decode cX4_outcome 29 = .ok (.if_icmp .eq 8, 3) := by decide +kernel
theorem dX4_outcome_32 : decode cX4_outcome 32 = .ok (.iload_n 2, 1) := by decide +kernel
theorem dX4_outcome_33 : decode cX4_outcome 33 = .ok (.iconst 2, 1) := by decide +kernel
theorem dX4_outcome_34 : decode cX4_outcome 34 = .ok (.if_icmp .ne 14, 3) := by decide +kernel
theorem dX4_outcome_37 : decode cX4_outcome 37 = .ok (.aload_n 0, 1) := by decide +kernel
theorem dX4_outcome_38 : decode cX4_outcome 38 = .ok (.iload_n 1, 1) := by decide +kernel
theorem dX4_outcome_39 : decode cX4_outcome 39 = .ok (.iload_n 3, 1) := by decide +kernel
theorem dX4_outcome_40 : decode cX4_outcome 40 = .ok (.iconst 1, 1) := by decide +kernel
theorem dX4_outcome_41 : decode cX4_outcome 41 = .ok (.isub, 1) := by decide +kernel
theorem dX4_outcome_42 : decode cX4_outcome 42 = .ok (.invokevirtual 130, 3) := by decide +kernel
theorem dX4_outcome_45 : decode cX4_outcome 45 = .ok (.goto 9, 3) := by decide +kernel
theorem dX4_outcome_48 : decode cX4_outcome 48 = .ok (.aload_n 0, 1) := by decide +kernel
theorem dX4_outcome_49 : decode cX4_outcome 49 = .ok (.iload_n 1, 1) := by decide +kernel
theorem dX4_outcome_50 : decode cX4_outcome 50 = .ok (.iconst 0, 1) := by decide +kernel
theorem dX4_outcome_51 : decode cX4_outcome 51 = .ok (.invokevirtual 130, 3) := by decide +kernel
theorem dX4_outcome_54 : decode cX4_outcome 54 = .ok (.lstore 4, 2) := by decide +kernel
theorem dX4_outcome_56 : decode cX4_outcome 56 = .ok (.iconst 1, 1) := by decide +kernel
theorem dX4_outcome_57 : decode cX4_outcome 57 = .ok (.istore 6, 2) := by decide +kernel
theorem dX4_outcome_59 : decode cX4_outcome 59 = .ok (.iload 6, 2) := by decide +kernel
theorem dX4_outcome_61 : decode cX4_outcome 61 = .ok (.iload_n 3, 1) := by decide +kernel
theorem dX4_outcome_62 : decode cX4_outcome 62 = .ok (.if_icmp .ge 89, 3) := by decide +kernel
theorem dX4_outcome_65 : decode cX4_outcome 65 = .ok (.aload_n 0, 1) := by decide +kernel
theorem dX4_outcome_66 : decode cX4_outcome 66 = .ok (.iload_n 1, 1) := by decide +kernel
theorem dX4_outcome_67 : decode cX4_outcome 67 = .ok (.iload 6, 2) := by decide +kernel
theorem dX4_outcome_69 : decode cX4_outcome 69 = .ok (.invokevirtual 130, 3) := by decide +kernel
theorem dX4_outcome_72 : decode cX4_outcome 72 = .ok (.lstore 7, 2) := by decide +kernel
theorem dX4_outcome_74 : decode cX4_outcome 74 = .ok (.iload_n 2, 1) := by decide +kernel
theorem dX4_outcome_75 : decode cX4_outcome 75 = .ok (.ifCond .eq 8, 3) := by decide +kernel
theorem dX4_outcome_78 : decode cX4_outcome 78 = .ok (.iload_n 2, 1) := by decide +kernel
theorem dX4_outcome_79 : decode cX4_outcome 79 = .ok (.iconst 4, 1) := by decide +kernel
theorem dX4_outcome_80 : decode cX4_outcome 80 = .ok (.if_icmp .ne 13, 3) := by decide +kernel
theorem dX4_outcome_83 : decode cX4_outcome 83 = .ok (.lload 4, 2) := by decide +kernel
theorem dX4_outcome_85 : decode cX4_outcome 85 = .ok (.lload 7, 2) := by decide +kernel
theorem dX4_outcome_87 : decode cX4_outcome 87 = .ok (.ladd, 1) := by decide +kernel
theorem dX4_outcome_88 : decode cX4_outcome 88 = .ok (.lstore 4, 2) := by decide +kernel
theorem dX4_outcome_90 : decode cX4_outcome 90 = .ok (.goto 55, 3) := by decide +kernel
theorem dX4_outcome_93 : decode cX4_outcome 93 = .ok (.iload_n 2, 1) := by decide +kernel
theorem dX4_outcome_94 : decode cX4_outcome 94 = .ok (.iconst 3, 1) := by decide +kernel
theorem dX4_outcome_95 : decode cX4_outcome 95 = .ok (.if_icmp .ne 28, 3) := by decide +kernel
theorem dX4_outcome_98 : decode cX4_outcome 98 = .ok (.lload 7, 2) := by decide +kernel
theorem dX4_outcome_100 : decode cX4_outcome 100 = .ok (.ldc2_w 138, 3) := by decide +kernel
theorem dX4_outcome_103 : decode cX4_outcome 103 = .ok (.lcmp, 1) := by decide +kernel
theorem dX4_outcome_104 : decode cX4_outcome 104 = .ok (.ifCond .ne 9, 3) := by decide +kernel
theorem dX4_outcome_107 : decode cX4_outcome 107 = .ok (.lload 4, 2) := by decide +kernel
theorem dX4_outcome_109 : decode cX4_outcome 109 = .ok (.lneg, 1) := by decide +kernel
theorem dX4_outcome_110 : decode cX4_outcome 110 = .ok (.goto 8, 3) := by decide +kernel
theorem dX4_outcome_113 : decode cX4_outcome 113 = .ok (.lload 4, 2) := by decide +kernel
theorem dX4_outcome_115 : decode cX4_outcome 115 = .ok (.lload 7, 2) := by decide +kernel
theorem dX4_outcome_117 : decode cX4_outcome 117 = .ok (.ldiv, 1) := by decide +kernel
theorem dX4_outcome_118 : decode cX4_outcome 118 = .ok (.lstore 4, 2) := by decide +kernel
theorem dX4_outcome_120 : decode cX4_outcome 120 = .ok (.goto 25, 3) := by decide +kernel
theorem dX4_outcome_123 : decode cX4_outcome 123 = .ok (.iload_n 2, 1) := by decide +kernel
theorem dX4_outcome_124 : decode cX4_outcome 124 = .ok (.iconst 5, 1) := by decide +kernel
theorem dX4_outcome_125 : decode cX4_outcome 125 = .ok (.if_icmp .ne 20, 3) := by decide +kernel
theorem dX4_outcome_128 : decode cX4_outcome 128 = .ok (.lload 7, 2) := by decide +kernel
theorem dX4_outcome_130 : decode cX4_outcome 130 = .ok (.lload 4, 2) := by decide +kernel
theorem dX4_outcome_132 : decode cX4_outcome 132 = .ok (.lcmp, 1) := by decide +kernel
theorem dX4_outcome_133 : decode cX4_outcome 133 = .ok (.ifCond .le 8, 3) := by decide +kernel
theorem dX4_outcome_136 : decode cX4_outcome 136 = .ok (.lload 7, 2) := by decide +kernel
theorem dX4_outcome_138 : decode cX4_outcome 138 = .ok (.goto 5, 3) := by decide +kernel
theorem dX4_outcome_141 : decode cX4_outcome 141 = .ok (.lload 4, 2) := by decide +kernel
theorem dX4_outcome_143 : decode cX4_outcome 143 = .ok (.lstore 4, 2) := by decide +kernel
theorem dX4_outcome_145 : decode cX4_outcome 145 = .ok (.iinc 6 1, 3) := by decide +kernel
theorem dX4_outcome_148 : decode cX4_outcome 148 = .ok (.goto (-89), 3) := by decide +kernel
theorem dX4_outcome_151 : decode cX4_outcome 151 = .ok (.iload_n 2, 1) := by decide +kernel
theorem dX4_outcome_152 : decode cX4_outcome 152 = .ok (.iconst 4, 1) := by decide +kernel
theorem dX4_outcome_153 : decode cX4_outcome 153 = .ok (.if_icmp .ne 10, 3) := by decide +kernel
theorem dX4_outcome_156 : decode cX4_outcome 156 = .ok (.lload 4, 2) := by decide +kernel
theorem dX4_outcome_158 : decode cX4_outcome 158 = .ok (.lconst 1, 1) := by decide +kernel
theorem dX4_outcome_159 : decode cX4_outcome 159 = .ok (.land, 1) := by decide +kernel
theorem dX4_outcome_160 : decode cX4_outcome 160 = .ok (.goto 5, 3) := by decide +kernel
theorem dX4_outcome_163 : decode cX4_outcome 163 = .ok (.lload 4, 2) := by decide +kernel
theorem dX4_outcome_165 : decode cX4_outcome 165 = .ok (.lreturn, 1) := by decide +kernel
theorem dX4_end_0 : decode cX4_end 0 = .ok (.bipush 40, 2) := by decide +kernel
theorem dX4_end_2 : decode cX4_end 2 = .ok (.iload_n 1, 1) := by decide +kernel
theorem dX4_end_3 : decode cX4_end 3 = .ok (.imul, 1) := by decide +kernel
theorem dX4_end_4 : decode cX4_end 4 = .ok (.aload_n 0, 1) := by decide +kernel
theorem dX4_end_5 : decode cX4_end 5 = .ok (.getfield 54, 3) := by decide +kernel
theorem dX4_end_8 : decode cX4_end 8 = .ok (.iload_n 1, 1) := by decide +kernel
theorem dX4_end_9 : decode cX4_end 9 = .ok (.iaload, 1) := by decide +kernel
theorem dX4_end_10 : decode cX4_end 10 = .ok (.iadd, 1) := by decide +kernel
theorem dX4_end_11 : decode cX4_end 11 = .ok (.iconst 1, 1) := by decide +kernel
theorem dX4_end_12 : decode cX4_end 12 = .ok (.isub, 1) := by decide +kernel
theorem dX4_end_13 : decode cX4_end 13 = .ok (.istore 5, 2) := by decide +kernel
theorem dX4_end_15 : decode cX4_end 15 = .ok (.aload_n 0, 1) := by decide +kernel
theorem dX4_end_16 : decode cX4_end 16 = .ok (.getfield 57, 3) := by decide +kernel
theorem dX4_end_19 : decode cX4_end 19 = .ok (.iload 5, 2) := by decide +kernel
theorem dX4_end_21 : decode cX4_end 21 = .ok (.iaload, 1) := by decide +kernel
theorem dX4_end_22 : decode cX4_end 22 = .ok (.istore 6, 2) := by decide +kernel
theorem dX4_end_24 : decode cX4_end 24 = .ok (.aload_n 0, 1) := by decide +kernel
theorem dX4_end_25 : decode cX4_end 25 = .ok (.getfield 51, 3) := by decide +kernel
theorem dX4_end_28 : decode cX4_end 28 = .ok (.iload 6, 2) := by decide +kernel
theorem dX4_end_30 : decode cX4_end 30 = .ok (.baload, 1) := by decide +kernel
theorem dX4_end_31 : decode cX4_end 31 = .ok (.ifCond .eq 35, 3) := by decide +kernel
theorem dX4_end_34 : decode cX4_end 34 = .ok (.aload_n 0, 1) := by decide +kernel
theorem dX4_end_35 : decode cX4_end 35 = .ok (.getfield 19, 3) := by decide +kernel
theorem dX4_end_38 : decode cX4_end 38 = .ok (.iload 6, 2) := by decide +kernel
theorem dX4_end_40 : decode cX4_end 40 = .ok (.iaload, 1) := by decide +kernel
theorem dX4_end_41 : decode cX4_end 41 = .ok (.iload_n 2, 1) := by decide +kernel
theorem dX4_end_42 : decode cX4_end 42 = .ok (.if_icmp .ne 24, 3) := by decide +kernel
theorem dX4_end_45 : decode cX4_end 45 = .ok (.iload_n 2, 1) := by decide +kernel
theorem dX4_end_46 : decode cX4_end 46 = .ok (.iconst 1, 1) := by decide +kernel
theorem dX4_end_47 : decode cX4_end 47 = .ok (.if_icmp .ne 15, 3) := by decide +kernel
theorem dX4_end_50 : decode cX4_end 50 = .ok (.aload_n 0, 1) := by decide +kernel
theorem dX4_end_51 : decode cX4_end 51 = .ok (.getfield 43, 3) := by decide +kernel
theorem dX4_end_54 : decode cX4_end 54 = .ok (.iload 6, 2) := by decide +kernel
theorem dX4_end_56 : decode cX4_end 56 = .ok (.laload, 1) := by decide +kernel
theorem dX4_end_57 : decode cX4_end 57 = .ok (.lload_n 3, 1) := by decide +kernel
theorem dX4_end_58 : decode cX4_end 58 = .ok (.lcmp, 1) := by decide +kernel
theorem dX4_end_59 : decode cX4_end 59 = .ok (.ifCond .ne 7, 3) := by decide +kernel
theorem dX4_end_62 : decode cX4_end 62 = .ok (.iconst 1, 1) := by decide +kernel
theorem dX4_end_63 : decode cX4_end 63 = .ok (.goto 4, 3) := by decide +kernel
theorem dX4_end_66 : decode cX4_end 66 = .ok (.iconst 0, 1) := by decide +kernel
theorem dX4_end_67 : decode cX4_end 67 = .ok (.istore 7, 2) := by decide +kernel
theorem dX4_end_69 : decode cX4_end 69 = .ok (.aload_n 0, 1) := by decide +kernel
theorem dX4_end_70 : decode cX4_end 70 = .ok (.getfield 25, 3) := by decide +kernel
theorem dX4_end_73 : decode cX4_end 73 = .ok (.iload 6, 2) := by decide +kernel
theorem dX4_end_75 : decode cX4_end 75 = .ok (.iload 7, 2) := by decide +kernel
theorem dX4_end_77 : decode cX4_end 77 = .ok (.ifCond .eq 13, 3) := by decide +kernel
theorem dX4_end_80 : decode cX4_end 80 = .ok (.aload_n 0, 1) := by decide +kernel
theorem dX4_end_81 : decode cX4_end 81 = .ok (.getfield 25, 3) := by decide +kernel
theorem dX4_end_84 : decode cX4_end 84 = .ok (.iload 6, 2) := by decide +kernel
theorem dX4_end_86 : decode cX4_end 86 = .ok (.iaload, 1) := by decide +kernel
theorem dX4_end_87 : decode cX4_end 87 = .ok (.goto 7, 3) := by decide +kernel
theorem dX4_end_90 : decode cX4_end 90 = .ok (.aload_n 0, 1) := by decide +kernel
theorem dX4_end_91 : decode cX4_end 91 = .ok (.getfield 86, 3) := by decide +kernel
theorem dX4_end_94 : decode cX4_end 94 = .ok (.iastore, 1) := by decide +kernel
theorem dX4_end_95 : decode cX4_end 95 = .ok (.aload_n 0, 1) := by decide +kernel
theorem dX4_end_96 : decode cX4_end 96 = .ok (.getfield 19, 3) := by decide +kernel
theorem dX4_end_99 : decode cX4_end 99 = .ok (.iload 6, 2) := by decide +kernel
theorem dX4_end_101 : decode cX4_end 101 = .ok (.iload_n 2, 1) := by decide +kernel
theorem dX4_end_102 : decode cX4_end 102 = .ok (.iastore, 1) := by decide +kernel
theorem dX4_end_103 : decode cX4_end 103 = .ok (.aload_n 0, 1) := by decide +kernel
theorem dX4_end_104 : decode cX4_end 104 = .ok (.getfield 43, 3) := by decide +kernel
theorem dX4_end_107 : decode cX4_end 107 = .ok (.iload 6, 2) := by decide +kernel
theorem dX4_end_109 : decode cX4_end 109 = .ok (.lload_n 3, 1) := by decide +kernel
theorem dX4_end_110 : decode cX4_end 110 = .ok (.lastore, 1) := by decide +kernel
theorem dX4_end_111 : decode cX4_end 111 = .ok (.aload_n 0, 1) := by decide +kernel
theorem dX4_end_112 : decode cX4_end 112 = .ok (.getfield 51, 3) := by decide +kernel
theorem dX4_end_115 : decode cX4_end 115 = .ok (.iload 6, 2) := by decide +kernel
theorem dX4_end_117 : decode cX4_end 117 = .ok (.iconst 1, 1) := by decide +kernel
theorem dX4_end_118 : decode cX4_end 118 = .ok (.bastore, 1) := by decide +kernel
theorem dX4_end_119 : decode cX4_end 119 = .ok (.aload_n 0, 1) := by decide +kernel
theorem dX4_end_120 : decode cX4_end 120 = .ok (.getfield 22, 3) := by decide +kernel
theorem dX4_end_123 : decode cX4_end 123 = .ok (.iload 6, 2) := by decide +kernel
theorem dX4_end_125 : decode cX4_end 125 = .ok (.aload_n 0, 1) := by decide +kernel
theorem dX4_end_126 : decode cX4_end 126 = .ok (.getfield 86, 3) := by decide +kernel
theorem dX4_end_129 : decode cX4_end 129 = .ok (.iastore, 1) := by decide +kernel
theorem dX4_end_130 : decode cX4_end 130 = .ok (.aload_n 0, 1) := by decide +kernel
theorem dX4_end_131 : decode cX4_end 131 = .ok (.getfield 31, 3) := by decide +kernel
theorem dX4_end_134 : decode cX4_end 134 = .ok (.iload 6, 2) := by decide +kernel
theorem dX4_end_136 : decode cX4_end 136 = .ok (.aload_n 0, 1) := by decide +kernel
theorem dX4_end_137 : decode cX4_end 137 = .ok (.getfield 60, 3) := by decide +kernel
theorem dX4_end_140 : decode cX4_end 140 = .ok (.iload 5, 2) := by decide +kernel
theorem dX4_end_142 : decode cX4_end 142 = .ok (.iaload, 1) := by decide +kernel
theorem dX4_end_143 : decode cX4_end 143 = .ok (.iastore, 1) := by decide +kernel
theorem dX4_end_144 : decode cX4_end 144 = .ok (.iconst 0, 1) := by decide +kernel
theorem dX4_end_145 : decode cX4_end 145 = .ok (.istore 8, 2) := by decide +kernel
theorem dX4_end_147 : decode cX4_end 147 = .ok (.iload 8, 2) := by decide +kernel
theorem dX4_end_149 : decode cX4_end 149 = .ok (.aload_n 0, 1) := by decide +kernel
theorem dX4_end_150 : decode cX4_end 150 = .ok (.getfield 60, 3) := by decide +kernel
theorem dX4_end_153 : decode cX4_end 153 = .ok (.iload 5, 2) := by decide +kernel
theorem dX4_end_155 : decode cX4_end 155 = .ok (.iaload, 1) := by decide +kernel
theorem dX4_end_156 : decode cX4_end 156 = .ok (.if_icmp .ge 35, 3) := by decide +kernel
theorem dX4_end_159 : decode cX4_end 159 = .ok (.aload_n 0, 1) := by decide +kernel
theorem dX4_end_160 : decode cX4_end 160 = .ok (.getfield 34, 3) := by decide +kernel
theorem dX4_end_163 : decode cX4_end 163 = .ok (.bipush 8, 2) := by decide +kernel
theorem dX4_end_165 : decode cX4_end 165 = .ok (.iload 6, 2) := by decide +kernel
theorem dX4_end_167 : decode cX4_end 167 = .ok (.imul, 1) := by decide +kernel
theorem dX4_end_168 : decode cX4_end 168 = .ok (.iload 8, 2) := by decide +kernel
theorem dX4_end_170 : decode cX4_end 170 = .ok (.iadd, 1) := by decide +kernel
theorem dX4_end_171 : decode cX4_end 171 = .ok (.aload_n 0, 1) := by decide +kernel
theorem dX4_end_172 : decode cX4_end 172 = .ok (.getfield 63, 3) := by decide +kernel
theorem dX4_end_175 : decode cX4_end 175 = .ok (.bipush 8, 2) := by decide +kernel
theorem dX4_end_177 : decode cX4_end 177 = .ok (.iload 5, 2) := by decide +kernel
theorem dX4_end_179 : decode cX4_end 179 = .ok (.imul, 1) := by decide +kernel
theorem dX4_end_180 : decode cX4_end 180 = .ok (.iload 8, 2) := by decide +kernel
theorem dX4_end_182 : decode cX4_end 182 = .ok (.iadd, 1) := by decide +kernel
theorem dX4_end_183 : decode cX4_end 183 = .ok (.iaload, 1) := by decide +kernel
theorem dX4_end_184 : decode cX4_end 184 = .ok (.iastore, 1) := by decide +kernel
theorem dX4_end_185 : decode cX4_end 185 = .ok (.iinc 8 1, 3) := by decide +kernel
theorem dX4_end_188 : decode cX4_end 188 = .ok (.goto (-41), 3) := by decide +kernel
theorem dX4_end_191 : decode cX4_end 191 = .ok (.aload_n 0, 1) := by decide +kernel
theorem dX4_end_192 : decode cX4_end 192 = .ok (.getfield 37, 3) := by decide +kernel
theorem dX4_end_195 : decode cX4_end 195 = .ok (.iload 6, 2) := by decide +kernel
theorem dX4_end_197 : decode cX4_end 197 = .ok (.dup2, 1) := by decide +kernel
theorem dX4_end_198 : decode cX4_end 198 = .ok (.iaload, 1) := by decide +kernel
theorem dX4_end_199 : decode cX4_end 199 = .ok (.iconst 1, 1) := by decide +kernel
theorem dX4_end_200 : decode cX4_end 200 = .ok (.iadd, 1) := by decide +kernel
theorem dX4_end_201 : decode cX4_end 201 = .ok (.iastore, 1) := by decide +kernel
theorem dX4_end_202 : decode cX4_end 202 = .ok (.aload_n 0, 1) := by decide +kernel
theorem dX4_end_203 : decode cX4_end 203 = .ok (.getfield 54, 3) := by decide +kernel
theorem dX4_end_206 : decode cX4_end 206 = .ok (.iload_n 1, 1) := by decide +kernel
theorem dX4_end_207 : decode cX4_end 207 = .ok (.dup2, 1) := by decide +kernel
theorem dX4_end_208 : decode cX4_end 208 = .ok (.iaload, 1) := by decide +kernel
theorem dX4_end_209 : decode cX4_end 209 = .ok (.iconst 1, 1) := by decide +kernel
theorem dX4_end_210 : decode cX4_end 210 = .ok (.isub, 1) := by decide +kernel
theorem dX4_end_211 : decode cX4_end 211 = .ok (.iastore, 1) := by decide +kernel
theorem dX4_end_212 : decode cX4_end 212 = .ok (.iconst 2, 1) := by decide +kernel
theorem dX4_end_213 : decode cX4_end 213 = .ok (.ireturn, 1) := by decide +kernel
theorem dX4_await_0 : decode cX4_await 0 = .ok (.aload_n 0, 1) := by decide +kernel
theorem dX4_await_1 : decode cX4_await 1 = .ok (.iload_n 2, 1) := by decide +kernel
theorem dX4_await_2 : decode cX4_await 2 = .ok (.invokevirtual 120, 3) := by decide +kernel
theorem dX4_await_5 : decode cX4_await 5 = .ok (.iconst (-1), 1) := by decide +kernel
theorem dX4_await_6 : decode cX4_await 6 = .ok (.if_icmp .eq 5, 3) := by decide +kernel
theorem dX4_await_9 : decode cX4_await 9 = .ok (.iconst 3, 1) := by decide +kernel
theorem dX4_await_10 : decode cX4_await 10 = .ok (.ireturn, 1) := by decide +kernel
theorem dX4_await_11 : decode cX4_await 11 = .ok (.aload_n 0, 1) := by decide +kernel
theorem dX4_await_12 : decode cX4_await 12 = .ok (.iload_n 1, 1) := by decide +kernel
theorem dX4_await_13 : decode cX4_await 13 = .ok (.iload_n 2, 1) := by decide +kernel
theorem dX4_await_14 : decode cX4_await 14 = .ok (.invokevirtual 126, 3) := by decide +kernel
theorem dX4_await_17 : decode cX4_await 17 = .ok (.iconst 1, 1) := by decide +kernel
theorem dX4_await_18 : decode cX4_await 18 = .ok (.ireturn, 1) := by decide +kernel
theorem dX4_check_0 : decode cX4_check 0 = .ok (.aload_n 0, 1) := by decide +kernel
theorem dX4_check_1 : decode cX4_check 1 = .ok (.getfield 57, 3) := by decide +kernel
theorem dX4_check_4 : decode cX4_check 4 = .ok (.iload_n 2, 1) := by decide +kernel
theorem dX4_check_5 : decode cX4_check 5 = .ok (.iaload, 1) := by decide +kernel
theorem dX4_check_6 : decode cX4_check 6 = .ok (.istore_n 3, 1) := by decide +kernel
theorem dX4_check_7 : decode cX4_check 7 = .ok (.aload_n 0, 1) := by decide +kernel
theorem dX4_check_8 : decode cX4_check 8 = .ok (.getfield 60, 3) := by decide +kernel
theorem dX4_check_11 : decode cX4_check 11 = .ok (.iload_n 2, 1) := by decide +kernel
theorem dX4_check_12 : decode cX4_check 12 = .ok (.iaload, 1) := by decide +kernel
theorem dX4_check_13 : decode cX4_check 13 = .ok (.aload_n 0, 1) := by decide +kernel
theorem dX4_check_14 : decode cX4_check 14 = .ok (.getfield 31, 3) := by decide +kernel
theorem dX4_check_17 : decode cX4_check 17 = .ok (.iload_n 3, 1) := by decide +kernel
theorem dX4_check_18 : decode cX4_check 18 = .ok (.iaload, 1) := by decide +kernel
theorem dX4_check_19 : decode cX4_check 19 = .ok (.if_icmp .ne 35, 3) := by decide +kernel
theorem dX4_check_22 : decode cX4_check 22 = .ok (.aload_n 0, 1) := by decide +kernel
theorem dX4_check_23 : decode cX4_check 23 = .ok (.getfield 22, 3) := by decide +kernel
theorem dX4_check_26 : decode cX4_check 26 = .ok (.iload_n 3, 1) := by decide +kernel
theorem dX4_check_27 : decode cX4_check 27 = .ok (.aload_n 0, 1) := by decide +kernel
theorem dX4_check_28 : decode cX4_check 28 = .ok (.getfield 86, 3) := by decide +kernel
theorem dX4_check_31 : decode cX4_check 31 = .ok (.iastore, 1) := by decide +kernel
theorem dX4_check_32 : decode cX4_check 32 = .ok (.aload_n 0, 1) := by decide +kernel
theorem dX4_check_33 : decode cX4_check 33 = .ok (.getfield 40, 3) := by decide +kernel
theorem dX4_check_36 : decode cX4_check 36 = .ok (.iload_n 3, 1) := by decide +kernel
theorem dX4_check_37 : decode cX4_check 37 = .ok (.dup2, 1) := by decide +kernel
theorem dX4_check_38 : decode cX4_check 38 = .ok (.iaload, 1) := by decide +kernel
theorem dX4_check_39 : decode cX4_check 39 = .ok (.iconst 1, 1) := by decide +kernel
theorem dX4_check_40 : decode cX4_check 40 = .ok (.iadd, 1) := by decide +kernel
theorem dX4_check_41 : decode cX4_check 41 = .ok (.iastore, 1) := by decide +kernel
theorem dX4_check_42 : decode cX4_check 42 = .ok (.aload_n 0, 1) := by decide +kernel
theorem dX4_check_43 : decode cX4_check 43 = .ok (.getfield 54, 3) := by decide +kernel
theorem dX4_check_46 : decode cX4_check 46 = .ok (.iload_n 1, 1) := by decide +kernel
theorem dX4_check_47 : decode cX4_check 47 = .ok (.dup2, 1) := by decide +kernel
theorem dX4_check_48 : decode cX4_check 48 = .ok (.iaload, 1) := by decide +kernel
theorem dX4_check_49 : decode cX4_check 49 = .ok (.iconst 1, 1) := by decide +kernel
theorem dX4_check_50 : decode cX4_check 50 = .ok (.isub, 1) := by decide +kernel
theorem dX4_check_51 : decode cX4_check 51 = .ok (.iastore, 1) := by decide +kernel
theorem dX4_check_52 : decode cX4_check 52 = .ok (.iconst 2, 1) := by decide +kernel
theorem dX4_check_53 : decode cX4_check 53 = .ok (.ireturn, 1) := by decide +kernel
theorem dX4_check_54 : decode cX4_check 54 = .ok (.aload_n 0, 1) := by decide +kernel
theorem dX4_check_55 : decode cX4_check 55 = .ok (.iload_n 3, 1) := by decide +kernel
theorem dX4_check_56 : decode cX4_check 56 = .ok (.aload_n 0, 1) := by decide +kernel
theorem dX4_check_57 : decode cX4_check 57 = .ok (.getfield 34, 3) := by decide +kernel
theorem dX4_check_60 : decode cX4_check 60 = .ok (.bipush 8, 2) := by decide +kernel
theorem dX4_check_62 : decode cX4_check 62 = .ok (.iload_n 3, 1) := by decide +kernel
theorem dX4_check_63 : decode cX4_check 63 = .ok (.imul, 1) := by decide +kernel
theorem dX4_check_64 : decode cX4_check 64 = .ok (.aload_n 0, 1) := by decide +kernel
theorem dX4_check_65 : decode cX4_check 65 = .ok (.getfield 60, 3) := by decide +kernel
theorem dX4_check_68 : decode cX4_check 68 = .ok (.iload_n 2, 1) := by decide +kernel
theorem dX4_check_69 : decode cX4_check 69 = .ok (.iaload, 1) := by decide +kernel
theorem dX4_check_70 : decode cX4_check 70 = .ok (.iadd, 1) := by decide +kernel
theorem dX4_check_71 : decode cX4_check 71 = .ok (.iaload, 1) := by decide +kernel
theorem dX4_check_72 : decode cX4_check 72 = .ok (.invokevirtual 97, 3) := by decide +kernel
theorem dX4_check_75 : decode cX4_check 75 = .ok (.istore 4, 2) := by decide +kernel
theorem dX4_check_77 : decode cX4_check 77 = .ok (.aload_n 0, 1) := by decide +kernel
theorem dX4_check_78 : decode cX4_check 78 = .ok (.iload 4, 2) := by decide +kernel
theorem dX4_check_80 : decode cX4_check 80 = .ok (.invokevirtual 123, 3) := by decide +kernel
theorem dX4_check_83 : decode cX4_check 83 = .ok (.ifCond .ne 11, 3) := by decide +kernel
theorem dX4_check_86 : decode cX4_check 86 = .ok (.aload_n 0, 1) := by decide +kernel
theorem dX4_check_87 : decode cX4_check 87 = .ok (.iload_n 1, 1) := by decide +kernel
theorem dX4_check_88 : decode cX4_check 88 = .ok (.iload 4, 2) := by decide +kernel
theorem dX4_check_90 : decode cX4_check 90 = .ok (.invokevirtual 140, 3) := by decide +kernel
theorem dX4_check_93 : decode cX4_check 93 = .ok (.ireturn, 1) := by decide +kernel
theorem dX4_check_94 : decode cX4_check 94 = .ok (.aload_n 0, 1) := by decide +kernel
theorem dX4_check_95 : decode cX4_check 95 = .ok (.getfield 25, 3) := by decide +kernel
theorem dX4_check_98 : decode cX4_check 98 = .ok (.iload 4, 2) := by decide +kernel
theorem dX4_check_100 : decode cX4_check 100 = .ok (.iaload, 1) := by decide +kernel
theorem dX4_check_101 : decode cX4_check 101 = .ok (.aload_n 0, 1) := by decide +kernel
theorem dX4_check_102 : decode cX4_check 102 = .ok (.getfield 22, 3) := by decide +kernel
theorem dX4_check_105 : decode cX4_check 105 = .ok (.iload_n 3, 1) := by decide +kernel
theorem dX4_check_106 : decode cX4_check 106 = .ok (.iaload, 1) := by decide +kernel
theorem dX4_check_107 : decode cX4_check 107 = .ok (.if_icmp .le 19, 3) := by decide +kernel
theorem dX4_check_110 : decode cX4_check 110 = .ok (.aload_n 0, 1) := by decide +kernel
theorem dX4_check_111 : decode cX4_check 111 = .ok (.getfield 66, 3) := by decide +kernel
theorem dX4_check_114 : decode cX4_check 114 = .ok (.iload_n 2, 1) := by decide +kernel
theorem dX4_check_115 : decode cX4_check 115 = .ok (.iconst 1, 1) := by decide +kernel
theorem dX4_check_116 : decode cX4_check 116 = .ok (.bastore, 1) := by decide +kernel
theorem dX4_check_117 : decode cX4_check 117 = .ok (.aload_n 0, 1) := by decide +kernel
theorem dX4_check_118 : decode cX4_check 118 = .ok (.getfield 60, 3) := by decide +kernel
theorem dX4_check_121 : decode cX4_check 121 = .ok (.iload_n 2, 1) := by decide +kernel
theorem dX4_check_122 : decode cX4_check 122 = .ok (.iconst 0, 1) := by decide +kernel
theorem dX4_check_123 : decode cX4_check 123 = .ok (.iastore, 1) := by decide +kernel
theorem dX4_check_124 : decode cX4_check 124 = .ok (.iconst 5, 1) := by decide +kernel
theorem dX4_check_125 : decode cX4_check 125 = .ok (.ireturn, 1) := by decide +kernel
theorem dX4_check_126 : decode cX4_check 126 = .ok (.aload_n 0, 1) := by decide +kernel
theorem dX4_check_127 : decode cX4_check 127 = .ok (.getfield 60, 3) := by decide +kernel
theorem dX4_check_130 : decode cX4_check 130 = .ok (.iload_n 2, 1) := by decide +kernel
theorem dX4_check_131 : decode cX4_check 131 = .ok (.dup2, 1) := by decide +kernel
theorem dX4_check_132 : decode cX4_check 132 = .ok (.iaload, 1) := by decide +kernel
theorem dX4_check_133 : decode cX4_check 133 = .ok (.iconst 1, 1) := by decide +kernel
theorem dX4_check_134 : decode cX4_check 134 = .ok (.iadd, 1) := by decide +kernel
theorem dX4_check_135 : decode cX4_check 135 = .ok (.iastore, 1) := by decide +kernel
theorem dX4_check_136 : decode cX4_check 136 = .ok (.iconst 4, 1) := by decide +kernel
theorem dX4_check_137 : decode cX4_check 137 = .ok (.ireturn, 1) := by decide +kernel
theorem dX4_go_0 : decode cX4_go 0 = .ok (.aload_n 0, 1) := by decide +kernel
theorem dX4_go_1 : decode cX4_go 1 = .ok (.getfield 54, 3) := by decide +kernel
theorem dX4_go_4 : decode cX4_go 4 = .ok (.iload_n 1, 1) := by decide +kernel
theorem dX4_go_5 : decode cX4_go 5 = .ok (.iaload, 1) := by decide +kernel
theorem dX4_go_6 : decode cX4_go 6 = .ok (.ifCond .ne 5, 3) := by decide +kernel
theorem dX4_go_9 : decode cX4_go 9 = .ok (.iconst 0, 1) := by decide +kernel
theorem dX4_go_10 : decode cX4_go 10 = .ok (.ireturn, 1) := by decide +kernel
theorem dX4_go_11 : decode cX4_go 11 = .ok (.bipush 40, 2) := by decide +kernel
theorem dX4_go_13 : decode cX4_go 13 = .ok (.iload_n 1, 1) := by decide +kernel
theorem dX4_go_14 : decode cX4_go 14 = .ok (.imul, 1) := by decide +kernel
theorem dX4_go_15 : decode cX4_go 15 = .ok (.aload_n 0, 1) := by decide +kernel
theorem dX4_go_16 : decode cX4_go 16 = .ok (.getfield 54, 3) := by decide +kernel
theorem dX4_go_19 : decode cX4_go 19 = .ok (.iload_n 1, 1) := by decide +kernel
theorem dX4_go_20 : decode cX4_go 20 = .ok (.iaload, 1) := by decide +kernel
theorem dX4_go_21 : decode cX4_go 21 = .ok (.iadd, 1) := by decide +kernel
theorem dX4_go_22 : decode cX4_go 22 = .ok (.iconst 1, 1) := by decide +kernel
theorem dX4_go_23 : decode cX4_go 23 = .ok (.isub, 1) := by decide +kernel
theorem dX4_go_24 : decode cX4_go 24 = .ok (.istore_n 2, 1) := by decide +kernel
theorem dX4_go_25 : decode cX4_go 25 = .ok (.aload_n 0, 1) := by decide +kernel
theorem dX4_go_26 : decode cX4_go 26 = .ok (.getfield 66, 3) := by decide +kernel
theorem dX4_go_29 : decode cX4_go 29 = .ok (.iload_n 2, 1) := by decide +kernel
theorem dX4_go_30 : decode cX4_go 30 = .ok (.baload, 1) := by decide +kernel
theorem dX4_go_31 : decode cX4_go 31 = .ok (.ifCond .ne 10, 3) := by decide +kernel
theorem dX4_go_34 : decode cX4_go 34 = .ok (.aload_n 0, 1) := by decide +kernel
theorem dX4_go_35 : decode cX4_go 35 = .ok (.iload_n 1, 1) := by decide +kernel
theorem dX4_go_36 : decode cX4_go 36 = .ok (.iload_n 2, 1) := by decide +kernel
theorem dX4_go_37 : decode cX4_go 37 = .ok (.invokevirtual 143, 3) := by decide +kernel
theorem dX4_go_40 : decode cX4_go 40 = .ok (.ireturn, 1) := by decide +kernel
theorem dX4_go_41 : decode cX4_go 41 = .ok (.aload_n 0, 1) := by decide +kernel
theorem dX4_go_42 : decode cX4_go 42 = .ok (.iload_n 2, 1) := by decide +kernel
theorem dX4_go_43 : decode cX4_go 43 = .ok (.invokevirtual 146, 3) := by decide +kernel
theorem dX4_go_46 : decode cX4_go 46 = .ok (.istore_n 3, 1) := by decide +kernel
theorem dX4_go_47 : decode cX4_go 47 = .ok (.iload_n 3, 1) := by decide +kernel
theorem dX4_go_48 : decode cX4_go 48 = .ok (.bipush (-2), 2) := by decide +kernel
theorem dX4_go_50 : decode cX4_go 50 = .ok (.if_icmp .ne 11, 3) := by decide +kernel
theorem dX4_go_53 : decode cX4_go 53 = .ok (.aload_n 0, 1) := by decide +kernel
theorem dX4_go_54 : decode cX4_go 54 = .ok (.iload_n 1, 1) := by decide +kernel
theorem dX4_go_55 : decode cX4_go 55 = .ok (.iconst 2, 1) := by decide +kernel
theorem dX4_go_56 : decode cX4_go 56 = .ok (.lconst 0, 1) := by decide +kernel
theorem dX4_go_57 : decode cX4_go 57 = .ok (.invokevirtual 149, 3) := by decide +kernel
theorem dX4_go_60 : decode cX4_go 60 = .ok (.ireturn, 1) := by decide +kernel
theorem dX4_go_61 : decode cX4_go 61 = .ok (.iload_n 3, 1) := by decide +kernel
theorem dX4_go_62 : decode cX4_go 62 = .ok (.iconst (-1), 1) := by decide +kernel
theorem dX4_go_63 : decode cX4_go 63 = .ok (.if_icmp .ne 15, 3) := by decide +kernel
theorem dX4_go_66 : decode cX4_go 66 = .ok (.aload_n 0, 1) := by decide +kernel
theorem dX4_go_67 : decode cX4_go 67 = .ok (.iload_n 1, 1) := by decide +kernel
theorem dX4_go_68 : decode cX4_go 68 = .ok (.iconst 1, 1) := by decide +kernel
theorem dX4_go_69 : decode cX4_go 69 = .ok (.aload_n 0, 1) := by decide +kernel
theorem dX4_go_70 : decode cX4_go 70 = .ok (.iload_n 2, 1) := by decide +kernel
theorem dX4_go_71 : decode cX4_go 71 = .ok (.invokevirtual 153, 3) := by decide +kernel
theorem dX4_go_74 : decode cX4_go 74 = .ok (.invokevirtual 149, 3) := by decide +kernel
theorem dX4_go_77 : decode cX4_go 77 = .ok (.ireturn, 1) := by decide +kernel
theorem dX4_go_78 : decode cX4_go 78 = .ok (.aload_n 0, 1) := by decide +kernel
theorem dX4_go_79 : decode cX4_go 79 = .ok (.aload_n 0, 1) := by decide +kernel
theorem dX4_go_80 : decode cX4_go 80 = .ok (.getfield 57, 3) := by decide +kernel
theorem dX4_go_83 : decode cX4_go 83 = .ok (.iload_n 2, 1) := by decide +kernel
theorem dX4_go_84 : decode cX4_go 84 = .ok (.iaload, 1) := by decide +kernel
theorem dX4_go_85 : decode cX4_go 85 = .ok (.iload_n 3, 1) := by decide +kernel
theorem dX4_go_86 : decode cX4_go 86 = .ok (.invokevirtual 97, 3) := by decide +kernel
theorem dX4_go_89 : decode cX4_go 89 = .ok (.istore 4, 2) := by decide +kernel
theorem dX4_go_91 : decode cX4_go 91 = .ok (.aload_n 0, 1) := by decide +kernel
theorem dX4_go_92 : decode cX4_go 92 = .ok (.iload 4, 2) := by decide +kernel
theorem dX4_go_94 : decode cX4_go 94 = .ok (.invokevirtual 123, 3) := by decide +kernel
theorem dX4_go_97 : decode cX4_go 97 = .ok (.ifCond .ne 11, 3) := by decide +kernel
theorem dX4_go_100 : decode cX4_go 100 = .ok (.aload_n 0, 1) := by decide +kernel
theorem dX4_go_101 : decode cX4_go 101 = .ok (.iload_n 1, 1) := by decide +kernel
theorem dX4_go_102 : decode cX4_go 102 = .ok (.iload 4, 2) := by decide +kernel
theorem dX4_go_104 : decode cX4_go 104 = .ok (.invokevirtual 140, 3) := by decide +kernel
theorem dX4_go_107 : decode cX4_go 107 = .ok (.ireturn, 1) := by decide +kernel
theorem dX4_go_108 : decode cX4_go 108 = .ok (.aload_n 0, 1) := by decide +kernel
theorem dX4_go_109 : decode cX4_go 109 = .ok (.getfield 63, 3) := by decide +kernel
theorem dX4_go_112 : decode cX4_go 112 = .ok (.bipush 8, 2) := by decide +kernel
theorem dX4_go_114 : decode cX4_go 114 = .ok (.iload_n 2, 1) := by decide +kernel
theorem dX4_go_115 : decode cX4_go 115 = .ok (.imul, 1) := by decide +kernel
theorem dX4_go_116 : decode cX4_go 116 = .ok (.aload_n 0, 1) := by decide +kernel
theorem dX4_go_117 : decode cX4_go 117 = .ok (.getfield 60, 3) := by decide +kernel
theorem dX4_go_120 : decode cX4_go 120 = .ok (.iload_n 2, 1) := by decide +kernel
theorem dX4_go_121 : decode cX4_go 121 = .ok (.iaload, 1) := by decide +kernel
theorem dX4_go_122 : decode cX4_go 122 = .ok (.iadd, 1) := by decide +kernel
theorem dX4_go_123 : decode cX4_go 123 = .ok (.iload_n 3, 1) := by decide +kernel
theorem dX4_go_124 : decode cX4_go 124 = .ok (.iastore, 1) := by decide +kernel
theorem dX4_go_125 : decode cX4_go 125 = .ok (.aload_n 0, 1) := by decide +kernel
theorem dX4_go_126 : decode cX4_go 126 = .ok (.getfield 60, 3) := by decide +kernel
theorem dX4_go_129 : decode cX4_go 129 = .ok (.iload_n 2, 1) := by decide +kernel
theorem dX4_go_130 : decode cX4_go 130 = .ok (.dup2, 1) := by decide +kernel
theorem dX4_go_131 : decode cX4_go 131 = .ok (.iaload, 1) := by decide +kernel
theorem dX4_go_132 : decode cX4_go 132 = .ok (.iconst 1, 1) := by decide +kernel
theorem dX4_go_133 : decode cX4_go 133 = .ok (.iadd, 1) := by decide +kernel
theorem dX4_go_134 : decode cX4_go 134 = .ok (.iastore, 1) := by decide +kernel
theorem dX4_go_135 : decode cX4_go 135 = .ok (.aload_n 0, 1) := by decide +kernel
theorem dX4_go_136 : decode cX4_go 136 = .ok (.getfield 19, 3) := by decide +kernel
theorem dX4_go_139 : decode cX4_go 139 = .ok (.iload 4, 2) := by decide +kernel
theorem dX4_go_141 : decode cX4_go 141 = .ok (.iaload, 1) := by decide +kernel
theorem dX4_go_142 : decode cX4_go 142 = .ok (.iconst 1, 1) := by decide +kernel
