theorem d_Md_trace_0 : decode b_Md_trace 0 = .ok (.aload_n 0, 1) := by decide +kernel
theorem d_Md_trace_1 : decode b_Md_trace 1 = .ok (.iload_n 1, 1) := by decide +kernel
theorem d_Md_trace_2 : decode b_Md_trace 2 = .ok (.iconst 0, 1) := by decide +kernel
theorem d_Md_trace_3 : decode b_Md_trace 3 = .ok (.aload_n 0, 1) := by decide +kernel
theorem d_Md_trace_4 : decode b_Md_trace 4 = .ok (.getfield 111, 3) := by decide +kernel
theorem d_Md_trace_7 : decode b_Md_trace 7 = .ok (.bipush 60, 2) := by decide +kernel
theorem d_Md_trace_9 : decode b_Md_trace 9 = .ok (.if_icmp .ge 10, 3) := by decide +kernel
theorem d_Md_trace_12 : decode b_Md_trace 12 = .ok (.aload_n 0, 1) := by decide +kernel
theorem d_Md_trace_13 : decode b_Md_trace 13 = .ok (.getfield 111, 3) := by decide +kernel
theorem d_Md_trace_16 : decode b_Md_trace 16 = .ok (.goto 5, 3) := by decide +kernel
theorem d_Md_trace_19 : decode b_Md_trace 19 = .ok (.bipush 60, 2) := by decide +kernel
theorem d_Md_trace_21 : decode b_Md_trace 21 = .ok (.iconst 1, 1) := by decide +kernel
theorem d_Md_trace_22 : decode b_Md_trace 22 = .ok (.isub, 1) := by decide +kernel
theorem d_Md_trace_23 : decode b_Md_trace 23 = .ok (.invokestatic 103, 3) := by decide +kernel
theorem d_Md_trace_26 : decode b_Md_trace 26 = .ok (.ifCond .eq 7, 3) := by decide +kernel
theorem d_Md_trace_29 : decode b_Md_trace 29 = .ok (.iconst 0, 1) := by decide +kernel
theorem d_Md_trace_30 : decode b_Md_trace 30 = .ok (.goto 4, 3) := by decide +kernel
theorem d_Md_trace_33 : decode b_Md_trace 33 = .ok (.iconst 1, 1) := by decide +kernel
theorem d_Md_trace_34 : decode b_Md_trace 34 = .ok (.putfield 98, 3) := by decide +kernel
theorem d_Md_trace_37 : decode b_Md_trace 37 = .ok (.aload_n 0, 1) := by decide +kernel
theorem d_Md_trace_38 : decode b_Md_trace 38 = .ok (.getfield 98, 3) := by decide +kernel
theorem d_Md_trace_41 : decode b_Md_trace 41 = .ok (.ifCond .le 7, 3) := by decide +kernel
theorem d_Md_trace_44 : decode b_Md_trace 44 = .ok (.iconst 0, 1) := by decide +kernel
theorem d_Md_trace_45 : decode b_Md_trace 45 = .ok (.goto 9, 3) := by decide +kernel
theorem d_Md_trace_48 : decode b_Md_trace 48 = .ok (.aload_n 0, 1) := by decide +kernel
theorem d_Md_trace_49 : decode b_Md_trace 49 = .ok (.getfield 92, 3) := by decide +kernel
theorem d_Md_trace_52 : decode b_Md_trace 52 = .ok (.iload_n 1, 1) := by decide +kernel
theorem d_Md_trace_53 : decode b_Md_trace 53 = .ok (.iaload, 1) := by decide +kernel
theorem d_Md_trace_54 : decode b_Md_trace 54 = .ok (.ireturn, 1) := by decide +kernel
theorem d_Md_count_0 : decode b_Md_count 0 = .ok (.iload_n 1, 1) := by decide +kernel
theorem d_Md_count_1 : decode b_Md_count 1 = .ok (.iconst 0, 1) := by decide +kernel
theorem d_Md_count_2 : decode b_Md_count 2 = .ok (.iconst 5, 1) := by decide +kernel
theorem d_Md_count_3 : decode b_Md_count 3 = .ok (.invokestatic 103, 3) := by decide +kernel
theorem d_Md_count_6 : decode b_Md_count 6 = .ok (.ifCond .ne 42, 3) := by decide +kernel
theorem d_Md_count_9 : decode b_Md_count 9 = .ok (.iload_n 1, 1) := by decide +kernel
theorem d_Md_count_10 : decode b_Md_count 10 = .ok (.bipush 10, 2) := by decide +kernel
theorem d_Md_count_12 : decode b_Md_count 12 = .ok (.bipush 17, 2) := by decide +kernel
theorem d_Md_count_14 : decode b_Md_count 14 = .ok (.invokestatic 103, 3) := by decide +kernel
theorem d_Md_count_17 : decode b_Md_count 17 = .ok (.ifCond .ne 31, 3) := by decide +kernel
theorem d_Md_count_20 : decode b_Md_count 20 = .ok (.iload_n 1, 1) := by decide +kernel
theorem d_Md_count_21 : decode b_Md_count 21 = .ok (.bipush 20, 2) := by decide +kernel
theorem d_Md_count_23 : decode b_Md_count 23 = .ok (.bipush 27, 2) := by decide +kernel
theorem d_Md_count_25 : decode b_Md_count 25 = .ok (.invokestatic 103, 3) := by decide +kernel
theorem d_Md_count_28 : decode b_Md_count 28 = .ok (.ifCond .ne 20, 3) := by decide +kernel
theorem d_Md_count_31 : decode b_Md_count 31 = .ok (.iload_n 1, 1) := by decide +kernel
theorem d_Md_count_32 : decode b_Md_count 32 = .ok (.bipush 30, 2) := by decide +kernel
theorem d_Md_count_34 : decode b_Md_count 34 = .ok (.bipush 34, 2) := by decide +kernel
theorem d_Md_count_36 : decode b_Md_count 36 = .ok (.invokestatic 103, 3) := by decide +kernel
theorem d_Md_count_39 : decode b_Md_count 39 = .ok (.ifCond .ne 9, 3) := by decide +kernel
theorem d_Md_count_42 : decode b_Md_count 42 = .ok (.aload_n 0, 1) := by decide +kernel
theorem d_Md_count_43 : decode b_Md_count 43 = .ok (.iconst 1, 1) := by decide +kernel
theorem d_Md_count_44 : decode b_Md_count 44 = .ok (.invokevirtual 161, 3) := by decide +kernel
theorem d_Md_count_47 : decode b_Md_count 47 = .ok (.ireturn, 1) := by decide +kernel
theorem d_Md_count_48 : decode b_Md_count 48 = .ok (.aload_n 0, 1) := by decide +kernel
theorem d_Md_count_49 : decode b_Md_count 49 = .ok (.iconst 0, 1) := by decide +kernel
theorem d_Md_count_50 : decode b_Md_count 50 = .ok (.putfield 98, 3) := by decide +kernel
theorem d_Md_count_53 : decode b_Md_count 53 = .ok (.iload_n 1, 1) := by decide +kernel
theorem d_Md_count_54 : decode b_Md_count 54 = .ok (.bipush 29, 2) := by decide +kernel
theorem d_Md_count_56 : decode b_Md_count 56 = .ok (.if_icmp .le 28, 3) := by decide +kernel
theorem d_Md_count_59 : decode b_Md_count 59 = .ok (.iload_n 1, 1) := by decide +kernel
theorem d_Md_count_60 : decode b_Md_count 60 = .ok (.bipush 30, 2) := by decide +kernel
theorem d_Md_count_62 : decode b_Md_count 62 = .ok (.isub, 1) := by decide +kernel
theorem d_Md_count_63 : decode b_Md_count 63 = .ok (.aload_n 0, 1) := by decide +kernel
theorem d_Md_count_64 : decode b_Md_count 64 = .ok (.getfield 129, 3) := by decide +kernel
theorem d_Md_count_67 : decode b_Md_count 67 = .ok (.if_icmp .ge 15, 3) := by decide +kernel
theorem d_Md_count_70 : decode b_Md_count 70 = .ok (.aload_n 0, 1) := by decide +kernel
theorem d_Md_count_71 : decode b_Md_count 71 = .ok (.getfield 50, 3) := by decide +kernel
theorem d_Md_count_74 : decode b_Md_count 74 = .ok (.iload_n 1, 1) := by decide +kernel
theorem d_Md_count_75 : decode b_Md_count 75 = .ok (.bipush 30, 2) := by decide +kernel
theorem d_Md_count_77 : decode b_Md_count 77 = .ok (.isub, 1) := by decide +kernel
theorem d_Md_count_78 : decode b_Md_count 78 = .ok (.iaload, 1) := by decide +kernel
theorem d_Md_count_79 : decode b_Md_count 79 = .ok (.goto 4, 3) := by decide +kernel
theorem d_Md_count_82 : decode b_Md_count 82 = .ok (.iconst (-1), 1) := by decide +kernel
theorem d_Md_count_83 : decode b_Md_count 83 = .ok (.ireturn, 1) := by decide +kernel
theorem d_Md_count_84 : decode b_Md_count 84 = .ok (.iload_n 1, 1) := by decide +kernel
theorem d_Md_count_85 : decode b_Md_count 85 = .ok (.bipush 19, 2) := by decide +kernel
theorem d_Md_count_87 : decode b_Md_count 87 = .ok (.if_icmp .le 29, 3) := by decide +kernel
theorem d_Md_count_90 : decode b_Md_count 90 = .ok (.aload_n 0, 1) := by decide +kernel
theorem d_Md_count_91 : decode b_Md_count 91 = .ok (.getfield 68, 3) := by decide +kernel
theorem d_Md_count_94 : decode b_Md_count 94 = .ok (.iload_n 1, 1) := by decide +kernel
theorem d_Md_count_95 : decode b_Md_count 95 = .ok (.bipush 20, 2) := by decide +kernel
theorem d_Md_count_97 : decode b_Md_count 97 = .ok (.isub, 1) := by decide +kernel
theorem d_Md_count_98 : decode b_Md_count 98 = .ok (.baload, 1) := by decide +kernel
theorem d_Md_count_99 : decode b_Md_count 99 = .ok (.ifCond .eq 15, 3) := by decide +kernel
theorem d_Md_count_102 : decode b_Md_count 102 = .ok (.aload_n 0, 1) := by decide +kernel
theorem d_Md_count_103 : decode b_Md_count 103 = .ok (.getfield 74, 3) := by decide +kernel
theorem d_Md_count_106 : decode b_Md_count 106 = .ok (.iload_n 1, 1) := by decide +kernel
theorem d_Md_count_107 : decode b_Md_count 107 = .ok (.bipush 20, 2) := by decide +kernel
theorem d_Md_count_109 : decode b_Md_count 109 = .ok (.isub, 1) := by decide +kernel
theorem d_Md_count_110 : decode b_Md_count 110 = .ok (.iaload, 1) := by decide +kernel
theorem d_Md_count_111 : decode b_Md_count 111 = .ok (.goto 4, 3) := by decide +kernel
theorem d_Md_count_114 : decode b_Md_count 114 = .ok (.iconst (-1), 1) := by decide +kernel
theorem d_Md_count_115 : decode b_Md_count 115 = .ok (.ireturn, 1) := by decide +kernel
theorem d_Md_count_116 : decode b_Md_count 116 = .ok (.iload_n 1, 1) := by decide +kernel
theorem d_Md_count_117 : decode b_Md_count 117 = .ok (.bipush 9, 2) := by decide +kernel
theorem d_Md_count_119 : decode b_Md_count 119 = .ok (.if_icmp .le 29, 3) := by decide +kernel
theorem d_Md_count_122 : decode b_Md_count 122 = .ok (.aload_n 0, 1) := by decide +kernel
theorem d_Md_count_123 : decode b_Md_count 123 = .ok (.getfield 68, 3) := by decide +kernel
theorem d_Md_count_126 : decode b_Md_count 126 = .ok (.iload_n 1, 1) := by decide +kernel
theorem d_Md_count_127 : decode b_Md_count 127 = .ok (.bipush 10, 2) := by decide +kernel
theorem d_Md_count_129 : decode b_Md_count 129 = .ok (.isub, 1) := by decide +kernel
theorem d_Md_count_130 : decode b_Md_count 130 = .ok (.baload, 1) := by decide +kernel
theorem d_Md_count_131 : decode b_Md_count 131 = .ok (.ifCond .eq 15, 3) := by decide +kernel
theorem d_Md_count_134 : decode b_Md_count 134 = .ok (.aload_n 0, 1) := by decide +kernel
theorem d_Md_count_135 : decode b_Md_count 135 = .ok (.getfield 77, 3) := by decide +kernel
theorem d_Md_count_138 : decode b_Md_count 138 = .ok (.iload_n 1, 1) := by decide +kernel
theorem d_Md_count_139 : decode b_Md_count 139 = .ok (.bipush 10, 2) := by decide +kernel
theorem d_Md_count_141 : decode b_Md_count 141 = .ok (.isub, 1) := by decide +kernel
theorem d_Md_count_142 : decode b_Md_count 142 = .ok (.iaload, 1) := by decide +kernel
theorem d_Md_count_143 : decode b_Md_count 143 = .ok (.goto 4, 3) := by decide +kernel
theorem d_Md_count_146 : decode b_Md_count 146 = .ok (.iconst 0, 1) := by decide +kernel
theorem d_Md_count_147 : decode b_Md_count 147 = .ok (.ireturn, 1) := by decide +kernel
theorem d_Md_count_148 : decode b_Md_count 148 = .ok (.iconst 0, 1) := by decide +kernel
theorem d_Md_count_149 : decode b_Md_count 149 = .ok (.istore_n 2, 1) := by decide +kernel
theorem d_Md_count_150 : decode b_Md_count 150 = .ok (.iconst 0, 1) := by decide +kernel
theorem d_Md_count_151 : decode b_Md_count 151 = .ok (.istore_n 3, 1) := by decide +kernel
theorem d_Md_count_152 : decode b_Md_count 152 = .ok (.iconst 0, 1) := by decide +kernel
theorem d_Md_count_153 : decode b_Md_count 153 = .ok (.istore 4, 2) := by decide +kernel
theorem d_Md_count_155 : decode b_Md_count 155 = .ok (.iload 4, 2) := by decide +kernel
theorem d_Md_count_157 : decode b_Md_count 157 = .ok (.bipush 8, 2) := by decide +kernel
theorem d_Md_count_159 : decode b_Md_count 159 = .ok (.if_icmp .ge 22, 3) := by decide +kernel
theorem d_Md_count_162 : decode b_Md_count 162 = .ok (.aload_n 0, 1) := by decide +kernel
theorem d_Md_count_163 : decode b_Md_count 163 = .ok (.getfield 68, 3) := by decide +kernel
theorem d_Md_count_166 : decode b_Md_count 166 = .ok (.iload 4, 2) := by decide +kernel
theorem d_Md_count_168 : decode b_Md_count 168 = .ok (.baload, 1) := by decide +kernel
theorem d_Md_count_169 : decode b_Md_count 169 = .ok (.ifCond .eq 6, 3) := by decide +kernel
theorem d_Md_count_172 : decode b_Md_count 172 = .ok (.iinc 2 1, 3) := by decide +kernel
theorem d_Md_count_175 : decode b_Md_count 175 = .ok (.iinc 4 1, 3) := by decide +kernel
theorem d_Md_count_178 : decode b_Md_count 178 = .ok (.goto (-23), 3) := by decide +kernel
theorem d_Md_count_181 : decode b_Md_count 181 = .ok (.iconst 0, 1) := by decide +kernel
theorem d_Md_count_182 : decode b_Md_count 182 = .ok (.istore 4, 2) := by decide +kernel
theorem d_Md_count_184 : decode b_Md_count 184 = .ok (.iload 4, 2) := by decide +kernel
theorem d_Md_count_186 : decode b_Md_count 186 = .ok (.aload_n 0, 1) := by decide +kernel
theorem d_Md_count_187 : decode b_Md_count 187 = .ok (.getfield 158, 3) := by decide +kernel
theorem d_Md_count_190 : decode b_Md_count 190 = .ok (.if_icmp .ge 22, 3) := by decide +kernel
theorem d_Md_count_193 : decode b_Md_count 193 = .ok (.aload_n 0, 1) := by decide +kernel
theorem d_Md_count_194 : decode b_Md_count 194 = .ok (.getfield 89, 3) := by decide +kernel
theorem d_Md_count_197 : decode b_Md_count 197 = .ok (.iload 4, 2) := by decide +kernel
theorem d_Md_count_199 : decode b_Md_count 199 = .ok (.iaload, 1) := by decide +kernel
theorem d_Md_count_200 : decode b_Md_count 200 = .ok (.ifCond .ne 6, 3) := by decide +kernel
theorem d_Md_count_203 : decode b_Md_count 203 = .ok (.iinc 3 1, 3) := by decide +kernel
theorem d_Md_count_206 : decode b_Md_count 206 = .ok (.iinc 4 1, 3) := by decide +kernel
theorem d_Md_count_209 : decode b_Md_count 209 = .ok (.goto (-25), 3) := by decide +kernel
theorem d_Md_count_212 : decode b_Md_count 212 = .ok (.iload_n 1, 1) := by decide +kernel
theorem d_Md_count_213 : decode b_Md_count 213 = .ok (.ifCond .ne 10, 3) := by decide +kernel
theorem d_Md_count_216 : decode b_Md_count 216 = .ok (.aload_n 0, 1) := by decide +kernel
theorem d_Md_count_217 : decode b_Md_count 217 = .ok (.getfield 129, 3) := by decide +kernel
theorem d_Md_count_220 : decode b_Md_count 220 = .ok (.goto 49, 3) := by decide +kernel
theorem d_Md_count_223 : decode b_Md_count 223 = .ok (.iload_n 1, 1) := by decide +kernel
theorem d_Md_count_224 : decode b_Md_count 224 = .ok (.iconst 1, 1) := by decide +kernel
theorem d_Md_count_225 : decode b_Md_count 225 = .ok (.if_icmp .ne 10, 3) := by decide +kernel
theorem d_Md_count_228 : decode b_Md_count 228 = .ok (.aload_n 0, 1) := by decide +kernel
theorem d_Md_count_229 : decode b_Md_count 229 = .ok (.getfield 164, 3) := by decide +kernel
theorem d_Md_count_232 : decode b_Md_count 232 = .ok (.goto 37, 3) := by decide +kernel
theorem d_Md_count_235 : decode b_Md_count 235 = .ok (.iload_n 1, 1) := by decide +kernel
theorem d_Md_count_236 : decode b_Md_count 236 = .ok (.iconst 2, 1) := by decide +kernel
theorem d_Md_count_237 : decode b_Md_count 237 = .ok (.if_icmp .ne 7, 3) := by decide +kernel
theorem d_Md_count_240 : decode b_Md_count 240 = .ok (.iload_n 2, 1) := by decide +kernel
theorem d_Md_count_241 : decode b_Md_count 241 = .ok (.goto 28, 3) := by decide +kernel
theorem d_Md_count_244 : decode b_Md_count 244 = .ok (.iload_n 1, 1) := by decide +kernel
theorem d_Md_count_245 : decode b_Md_count 245 = .ok (.iconst 3, 1) := by decide +kernel
theorem d_Md_count_246 : decode b_Md_count 246 = .ok (.if_icmp .ne 10, 3) := by decide +kernel
theorem d_Md_count_249 : decode b_Md_count 249 = .ok (.aload_n 0, 1) := by decide +kernel
theorem d_Md_count_250 : decode b_Md_count 250 = .ok (.getfield 158, 3) := by decide +kernel
theorem d_Md_count_253 : decode b_Md_count 253 = .ok (.goto 16, 3) := by decide +kernel
theorem d_Md_count_256 : decode b_Md_count 256 = .ok (.iload_n 1, 1) := by decide +kernel
theorem d_Md_count_257 : decode b_Md_count 257 = .ok (.iconst 4, 1) := by decide +kernel
theorem d_Md_count_258 : decode b_Md_count 258 = .ok (.if_icmp .ne 7, 3) := by decide +kernel
theorem d_Md_count_261 : decode b_Md_count 261 = .ok (.iload_n 3, 1) := by decide +kernel
theorem d_Md_count_262 : decode b_Md_count 262 = .ok (.goto 7, 3) := by decide +kernel
theorem d_Md_count_265 : decode b_Md_count 265 = .ok (.aload_n 0, 1) := by decide +kernel
theorem d_Md_count_266 : decode b_Md_count 266 = .ok (.getfield 111, 3) := by decide +kernel
theorem d_Md_count_269 : decode b_Md_count 269 = .ok (.ireturn, 1) := by decide +kernel
