theorem d_Md_init_0 : decode b_Md_init 0 = .ok (.aload_n 0, 1) := by decide +kernel
theorem d_Md_init_1 : decode b_Md_init 1 = .ok (.invokespecial 1, 3) := by decide +kernel
theorem d_Md_init_4 : decode b_Md_init 4 = .ok (.aload_n 0, 1) := by decide +kernel
theorem d_Md_init_5 : decode b_Md_init 5 = .ok (.iconst 4, 1) := by decide +kernel
theorem d_Md_init_6 : decode b_Md_init 6 = .ok (.newarray .int, 2) := by decide +kernel
theorem d_Md_init_8 : decode b_Md_init 8 = .ok (.putfield 7, 3) := by decide +kernel
theorem d_Md_init_11 : decode b_Md_init 11 = .ok (.aload_n 0, 1) := by decide +kernel
theorem d_Md_init_12 : decode b_Md_init 12 = .ok (.iconst 4, 1) := by decide +kernel
theorem d_Md_init_13 : decode b_Md_init 13 = .ok (.newarray .int, 2) := by decide +kernel
theorem d_Md_init_15 : decode b_Md_init 15 = .ok (.putfield 13, 3) := by decide +kernel
theorem d_Md_init_18 : decode b_Md_init 18 = .ok (.aload_n 0, 1) := by decide +kernel
theorem d_Md_init_19 : decode b_Md_init 19 = .ok (.iconst 4, 1) := by decide +kernel
theorem d_Md_init_20 : decode b_Md_init 20 = .ok (.newarray .int, 2) := by decide +kernel
theorem d_Md_init_22 : decode b_Md_init 22 = .ok (.putfield 16, 3) := by decide +kernel
theorem d_Md_init_25 : decode b_Md_init 25 = .ok (.aload_n 0, 1) := by decide +kernel
theorem d_Md_init_26 : decode b_Md_init 26 = .ok (.iconst 4, 1) := by decide +kernel
theorem d_Md_init_27 : decode b_Md_init 27 = .ok (.newarray .int, 2) := by decide +kernel
theorem d_Md_init_29 : decode b_Md_init 29 = .ok (.putfield 19, 3) := by decide +kernel
theorem d_Md_init_32 : decode b_Md_init 32 = .ok (.aload_n 0, 1) := by decide +kernel
theorem d_Md_init_33 : decode b_Md_init 33 = .ok (.bipush 41, 2) := by decide +kernel
theorem d_Md_init_35 : decode b_Md_init 35 = .ok (.newarray .int, 2) := by decide +kernel
theorem d_Md_init_37 : decode b_Md_init 37 = .ok (.putfield 22, 3) := by decide +kernel
theorem d_Md_init_40 : decode b_Md_init 40 = .ok (.aload_n 0, 1) := by decide +kernel
theorem d_Md_init_41 : decode b_Md_init 41 = .ok (.bipush 41, 2) := by decide +kernel
theorem d_Md_init_43 : decode b_Md_init 43 = .ok (.newarray .int, 2) := by decide +kernel
theorem d_Md_init_45 : decode b_Md_init 45 = .ok (.putfield 25, 3) := by decide +kernel
theorem d_Md_init_48 : decode b_Md_init 48 = .ok (.aload_n 0, 1) := by decide +kernel
theorem d_Md_init_49 : decode b_Md_init 49 = .ok (.bipush 41, 2) := by decide +kernel
theorem d_Md_init_51 : decode b_Md_init 51 = .ok (.newarray .int, 2) := by decide +kernel
theorem d_Md_init_53 : decode b_Md_init 53 = .ok (.putfield 28, 3) := by decide +kernel
theorem d_Md_init_56 : decode b_Md_init 56 = .ok (.aload_n 0, 1) := by decide +kernel
theorem d_Md_init_57 : decode b_Md_init 57 = .ok (.bipush 41, 2) := by decide +kernel
theorem d_Md_init_59 : decode b_Md_init 59 = .ok (.newarray .int, 2) := by decide +kernel
theorem d_Md_init_61 : decode b_Md_init 61 = .ok (.putfield 31, 3) := by decide +kernel
theorem d_Md_init_64 : decode b_Md_init 64 = .ok (.aload_n 0, 1) := by decide +kernel
theorem d_Md_init_65 : decode b_Md_init 65 = .ok (.bipush 41, 2) := by decide +kernel
theorem d_Md_init_67 : decode b_Md_init 67 = .ok (.newarray .int, 2) := by decide +kernel
theorem d_Md_init_69 : decode b_Md_init 69 = .ok (.putfield 34, 3) := by decide +kernel
theorem d_Md_init_72 : decode b_Md_init 72 = .ok (.aload_n 0, 1) := by decide +kernel
theorem d_Md_init_73 : decode b_Md_init 73 = .ok (.bipush 41, 2) := by decide +kernel
theorem d_Md_init_75 : decode b_Md_init 75 = .ok (.newarray .int, 2) := by decide +kernel
theorem d_Md_init_77 : decode b_Md_init 77 = .ok (.putfield 37, 3) := by decide +kernel
theorem d_Md_init_80 : decode b_Md_init 80 = .ok (.aload_n 0, 1) := by decide +kernel
theorem d_Md_init_81 : decode b_Md_init 81 = .ok (.sipush 164, 3) := by decide +kernel
theorem d_Md_init_84 : decode b_Md_init 84 = .ok (.newarray .int, 2) := by decide +kernel
theorem d_Md_init_86 : decode b_Md_init 86 = .ok (.putfield 40, 3) := by decide +kernel
theorem d_Md_init_89 : decode b_Md_init 89 = .ok (.aload_n 0, 1) := by decide +kernel
theorem d_Md_init_90 : decode b_Md_init 90 = .ok (.sipush 164, 3) := by decide +kernel
theorem d_Md_init_93 : decode b_Md_init 93 = .ok (.newarray .int, 2) := by decide +kernel
theorem d_Md_init_95 : decode b_Md_init 95 = .ok (.putfield 43, 3) := by decide +kernel
theorem d_Md_init_98 : decode b_Md_init 98 = .ok (.aload_n 0, 1) := by decide +kernel
theorem d_Md_init_99 : decode b_Md_init 99 = .ok (.bipush 41, 2) := by decide +kernel
theorem d_Md_init_101 : decode b_Md_init 101 = .ok (.newarray .boolean, 2) := by decide +kernel
theorem d_Md_init_103 : decode b_Md_init 103 = .ok (.putfield 46, 3) := by decide +kernel
theorem d_Md_init_106 : decode b_Md_init 106 = .ok (.aload_n 0, 1) := by decide +kernel
theorem d_Md_init_107 : decode b_Md_init 107 = .ok (.bipush 6, 2) := by decide +kernel
theorem d_Md_init_109 : decode b_Md_init 109 = .ok (.newarray .int, 2) := by decide +kernel
theorem d_Md_init_111 : decode b_Md_init 111 = .ok (.putfield 50, 3) := by decide +kernel
theorem d_Md_init_114 : decode b_Md_init 114 = .ok (.aload_n 0, 1) := by decide +kernel
theorem d_Md_init_115 : decode b_Md_init 115 = .ok (.bipush 6, 2) := by decide +kernel
theorem d_Md_init_117 : decode b_Md_init 117 = .ok (.newarray .int, 2) := by decide +kernel
theorem d_Md_init_119 : decode b_Md_init 119 = .ok (.putfield 53, 3) := by decide +kernel
theorem d_Md_init_122 : decode b_Md_init 122 = .ok (.aload_n 0, 1) := by decide +kernel
theorem d_Md_init_123 : decode b_Md_init 123 = .ok (.bipush 6, 2) := by decide +kernel
theorem d_Md_init_125 : decode b_Md_init 125 = .ok (.newarray .int, 2) := by decide +kernel
theorem d_Md_init_127 : decode b_Md_init 127 = .ok (.putfield 56, 3) := by decide +kernel
theorem d_Md_init_130 : decode b_Md_init 130 = .ok (.aload_n 0, 1) := by decide +kernel
theorem d_Md_init_131 : decode b_Md_init 131 = .ok (.bipush 6, 2) := by decide +kernel
theorem d_Md_init_133 : decode b_Md_init 133 = .ok (.newarray .int, 2) := by decide +kernel
theorem d_Md_init_135 : decode b_Md_init 135 = .ok (.putfield 59, 3) := by decide +kernel
theorem d_Md_init_138 : decode b_Md_init 138 = .ok (.aload_n 0, 1) := by decide +kernel
theorem d_Md_init_139 : decode b_Md_init 139 = .ok (.bipush 6, 2) := by decide +kernel
theorem d_Md_init_141 : decode b_Md_init 141 = .ok (.newarray .int, 2) := by decide +kernel
theorem d_Md_init_143 : decode b_Md_init 143 = .ok (.putfield 62, 3) := by decide +kernel
theorem d_Md_init_146 : decode b_Md_init 146 = .ok (.aload_n 0, 1) := by decide +kernel
theorem d_Md_init_147 : decode b_Md_init 147 = .ok (.bipush 6, 2) := by decide +kernel
theorem d_Md_init_149 : decode b_Md_init 149 = .ok (.newarray .boolean, 2) := by decide +kernel
theorem d_Md_init_151 : decode b_Md_init 151 = .ok (.putfield 65, 3) := by decide +kernel
theorem d_Md_init_154 : decode b_Md_init 154 = .ok (.aload_n 0, 1) := by decide +kernel
theorem d_Md_init_155 : decode b_Md_init 155 = .ok (.bipush 8, 2) := by decide +kernel
theorem d_Md_init_157 : decode b_Md_init 157 = .ok (.newarray .boolean, 2) := by decide +kernel
theorem d_Md_init_159 : decode b_Md_init 159 = .ok (.putfield 68, 3) := by decide +kernel
theorem d_Md_init_162 : decode b_Md_init 162 = .ok (.aload_n 0, 1) := by decide +kernel
theorem d_Md_init_163 : decode b_Md_init 163 = .ok (.bipush 60, 2) := by decide +kernel
theorem d_Md_init_165 : decode b_Md_init 165 = .ok (.newarray .boolean, 2) := by decide +kernel
theorem d_Md_init_167 : decode b_Md_init 167 = .ok (.putfield 71, 3) := by decide +kernel
theorem d_Md_init_170 : decode b_Md_init 170 = .ok (.aload_n 0, 1) := by decide +kernel
theorem d_Md_init_171 : decode b_Md_init 171 = .ok (.bipush 8, 2) := by decide +kernel
theorem d_Md_init_173 : decode b_Md_init 173 = .ok (.newarray .int, 2) := by decide +kernel
theorem d_Md_init_175 : decode b_Md_init 175 = .ok (.putfield 74, 3) := by decide +kernel
theorem d_Md_init_178 : decode b_Md_init 178 = .ok (.aload_n 0, 1) := by decide +kernel
theorem d_Md_init_179 : decode b_Md_init 179 = .ok (.bipush 8, 2) := by decide +kernel
theorem d_Md_init_181 : decode b_Md_init 181 = .ok (.newarray .int, 2) := by decide +kernel
theorem d_Md_init_183 : decode b_Md_init 183 = .ok (.putfield 77, 3) := by decide +kernel
theorem d_Md_init_186 : decode b_Md_init 186 = .ok (.aload_n 0, 1) := by decide +kernel
theorem d_Md_init_187 : decode b_Md_init 187 = .ok (.bipush 60, 2) := by decide +kernel
theorem d_Md_init_189 : decode b_Md_init 189 = .ok (.newarray .int, 2) := by decide +kernel
theorem d_Md_init_191 : decode b_Md_init 191 = .ok (.putfield 80, 3) := by decide +kernel
theorem d_Md_init_194 : decode b_Md_init 194 = .ok (.aload_n 0, 1) := by decide +kernel
theorem d_Md_init_195 : decode b_Md_init 195 = .ok (.bipush 60, 2) := by decide +kernel
theorem d_Md_init_197 : decode b_Md_init 197 = .ok (.newarray .int, 2) := by decide +kernel
theorem d_Md_init_199 : decode b_Md_init 199 = .ok (.putfield 83, 3) := by decide +kernel
theorem d_Md_init_202 : decode b_Md_init 202 = .ok (.aload_n 0, 1) := by decide +kernel
theorem d_Md_init_203 : decode b_Md_init 203 = .ok (.bipush 60, 2) := by decide +kernel
theorem d_Md_init_205 : decode b_Md_init 205 = .ok (.newarray .int, 2) := by decide +kernel
theorem d_Md_init_207 : decode b_Md_init 207 = .ok (.putfield 86, 3) := by decide +kernel
theorem d_Md_init_210 : decode b_Md_init 210 = .ok (.aload_n 0, 1) := by decide +kernel
theorem d_Md_init_211 : decode b_Md_init 211 = .ok (.bipush 60, 2) := by decide +kernel
theorem d_Md_init_213 : decode b_Md_init 213 = .ok (.newarray .int, 2) := by decide +kernel
theorem d_Md_init_215 : decode b_Md_init 215 = .ok (.putfield 89, 3) := by decide +kernel
theorem d_Md_init_218 : decode b_Md_init 218 = .ok (.aload_n 0, 1) := by decide +kernel
theorem d_Md_init_219 : decode b_Md_init 219 = .ok (.bipush 60, 2) := by decide +kernel
theorem d_Md_init_221 : decode b_Md_init 221 = .ok (.newarray .int, 2) := by decide +kernel
theorem d_Md_init_223 : decode b_Md_init 223 = .ok (.putfield 92, 3) := by decide +kernel
theorem d_Md_init_226 : decode b_Md_init 226 = .ok (.aload_n 0, 1) := by decide +kernel
theorem d_Md_init_227 : decode b_Md_init 227 = .ok (.bipush 8, 2) := by decide +kernel
theorem d_Md_init_229 : decode b_Md_init 229 = .ok (.newarray .int, 2) := by decide +kernel
theorem d_Md_init_231 : decode b_Md_init 231 = .ok (.putfield 95, 3) := by decide +kernel
theorem d_Md_init_234 : decode b_Md_init 234 = .ok (.return_, 1) := by decide +kernel
theorem d_Md_thrown_0 : decode b_Md_thrown 0 = .ok (.aload_n 0, 1) := by decide +kernel
theorem d_Md_thrown_1 : decode b_Md_thrown 1 = .ok (.getfield 98, 3) := by decide +kernel
theorem d_Md_thrown_4 : decode b_Md_thrown 4 = .ok (.ireturn, 1) := by decide +kernel
theorem d_Md_in_0 : decode b_Md_in 0 = .ok (.iload_n 0, 1) := by decide +kernel
theorem d_Md_in_1 : decode b_Md_in 1 = .ok (.iload_n 1, 1) := by decide +kernel
theorem d_Md_in_2 : decode b_Md_in 2 = .ok (.if_icmp .lt 12, 3) := by decide +kernel
theorem d_Md_in_5 : decode b_Md_in 5 = .ok (.iload_n 0, 1) := by decide +kernel
theorem d_Md_in_6 : decode b_Md_in 6 = .ok (.iload_n 2, 1) := by decide +kernel
theorem d_Md_in_7 : decode b_Md_in 7 = .ok (.if_icmp .gt 7, 3) := by decide +kernel
theorem d_Md_in_10 : decode b_Md_in 10 = .ok (.iconst 1, 1) := by decide +kernel
theorem d_Md_in_11 : decode b_Md_in 11 = .ok (.goto 4, 3) := by decide +kernel
theorem d_Md_in_14 : decode b_Md_in 14 = .ok (.iconst 0, 1) := by decide +kernel
theorem d_Md_in_15 : decode b_Md_in 15 = .ok (.ireturn, 1) := by decide +kernel
theorem d_Md_fail_0 : decode b_Md_fail 0 = .ok (.aload_n 0, 1) := by decide +kernel
theorem d_Md_fail_1 : decode b_Md_fail 1 = .ok (.iload_n 1, 1) := by decide +kernel
theorem d_Md_fail_2 : decode b_Md_fail 2 = .ok (.putfield 98, 3) := by decide +kernel
theorem d_Md_fail_5 : decode b_Md_fail 5 = .ok (.iconst 0, 1) := by decide +kernel
theorem d_Md_fail_6 : decode b_Md_fail 6 = .ok (.ireturn, 1) := by decide +kernel
theorem d_Md_isPath_0 : decode b_Md_isPath 0 = .ok (.iload_n 0, 1) := by decide +kernel
theorem d_Md_isPath_1 : decode b_Md_isPath 1 = .ok (.iconst 0, 1) := by decide +kernel
theorem d_Md_isPath_2 : decode b_Md_isPath 2 = .ok (.ldc 102, 2) := by decide +kernel
theorem d_Md_isPath_4 : decode b_Md_isPath 4 = .ok (.invokestatic 103, 3) := by decide +kernel
theorem d_Md_isPath_7 : decode b_Md_isPath 7 = .ok (.ifCond .ne 5, 3) := by decide +kernel
theorem d_Md_isPath_10 : decode b_Md_isPath 10 = .ok (.iconst 0, 1) := by decide +kernel
theorem d_Md_isPath_11 : decode b_Md_isPath 11 = .ok (.ireturn, 1) := by decide +kernel
theorem d_Md_isPath_12 : decode b_Md_isPath 12 = .ok (.iload_n 0, 1) := by decide +kernel
theorem d_Md_isPath_13 : decode b_Md_isPath 13 = .ok (.istore_n 1, 1) := by decide +kernel
theorem d_Md_isPath_14 : decode b_Md_isPath 14 = .ok (.iload_n 1, 1) := by decide +kernel
theorem d_Md_isPath_15 : decode b_Md_isPath 15 = .ok (.ifCond .le 20, 3) := by decide +kernel
theorem d_Md_isPath_18 : decode b_Md_isPath 18 = .ok (.iload_n 1, 1) := by decide +kernel
theorem d_Md_isPath_19 : decode b_Md_isPath 19 = .ok (.bipush 27, 2) := by decide +kernel
theorem d_Md_isPath_21 : decode b_Md_isPath 21 = .ok (.irem, 1) := by decide +kernel
theorem d_Md_isPath_22 : decode b_Md_isPath 22 = .ok (.ifCond .ne 5, 3) := by decide +kernel
theorem d_Md_isPath_25 : decode b_Md_isPath 25 = .ok (.iconst 0, 1) := by decide +kernel
theorem d_Md_isPath_26 : decode b_Md_isPath 26 = .ok (.ireturn, 1) := by decide +kernel
theorem d_Md_isPath_27 : decode b_Md_isPath 27 = .ok (.iload_n 1, 1) := by decide +kernel
theorem d_Md_isPath_28 : decode b_Md_isPath 28 = .ok (.bipush 27, 2) := by decide +kernel
theorem d_Md_isPath_30 : decode b_Md_isPath 30 = .ok (.idiv, 1) := by decide +kernel
theorem d_Md_isPath_31 : decode b_Md_isPath 31 = .ok (.istore_n 1, 1) := by decide +kernel
theorem d_Md_isPath_32 : decode b_Md_isPath 32 = .ok (.goto (-18), 3) := by decide +kernel
theorem d_Md_isPath_35 : decode b_Md_isPath 35 = .ok (.iconst 1, 1) := by decide +kernel
theorem d_Md_isPath_36 : decode b_Md_isPath 36 = .ok (.ireturn, 1) := by decide +kernel
theorem d_Md_weight_0 : decode b_Md_weight 0 = .ok (.iconst 1, 1) := by decide +kernel
theorem d_Md_weight_1 : decode b_Md_weight 1 = .ok (.istore_n 1, 1) := by decide +kernel
theorem d_Md_weight_2 : decode b_Md_weight 2 = .ok (.iload_n 1, 1) := by decide +kernel
theorem d_Md_weight_3 : decode b_Md_weight 3 = .ok (.iload_n 0, 1) := by decide +kernel
theorem d_Md_weight_4 : decode b_Md_weight 4 = .ok (.if_icmp .gt 11, 3) := by decide +kernel
theorem d_Md_weight_7 : decode b_Md_weight 7 = .ok (.iload_n 1, 1) := by decide +kernel
theorem d_Md_weight_8 : decode b_Md_weight 8 = .ok (.bipush 27, 2) := by decide +kernel
theorem d_Md_weight_10 : decode b_Md_weight 10 = .ok (.imul, 1) := by decide +kernel
theorem d_Md_weight_11 : decode b_Md_weight 11 = .ok (.istore_n 1, 1) := by decide +kernel
theorem d_Md_weight_12 : decode b_Md_weight 12 = .ok (.goto (-10), 3) := by decide +kernel
theorem d_Md_weight_15 : decode b_Md_weight 15 = .ok (.iload_n 1, 1) := by decide +kernel
theorem d_Md_weight_16 : decode b_Md_weight 16 = .ok (.ireturn, 1) := by decide +kernel
theorem d_Md_begins_0 : decode b_Md_begins 0 = .ok (.iload_n 1, 1) := by decide +kernel
theorem d_Md_begins_1 : decode b_Md_begins 1 = .ok (.iload_n 0, 1) := by decide +kernel
theorem d_Md_begins_2 : decode b_Md_begins 2 = .ok (.invokestatic 107, 3) := by decide +kernel
theorem d_Md_begins_5 : decode b_Md_begins 5 = .ok (.irem, 1) := by decide +kernel
theorem d_Md_begins_6 : decode b_Md_begins 6 = .ok (.iload_n 0, 1) := by decide +kernel
theorem d_Md_begins_7 : decode b_Md_begins 7 = .ok (.if_icmp .ne 7, 3) := by decide +kernel
theorem d_Md_begins_10 : decode b_Md_begins 10 = .ok (.iconst 1, 1) := by decide +kernel
theorem d_Md_begins_11 : decode b_Md_begins 11 = .ok (.goto 4, 3) := by decide +kernel
theorem d_Md_begins_14 : decode b_Md_begins 14 = .ok (.iconst 0, 1) := by decide +kernel
theorem d_Md_begins_15 : decode b_Md_begins 15 = .ok (.ireturn, 1) := by decide +kernel
theorem d_Md_write_0 : decode b_Md_write 0 = .ok (.aload_n 0, 1) := by decide +kernel
theorem d_Md_write_1 : decode b_Md_write 1 = .ok (.getfield 111, 3) := by decide +kernel
theorem d_Md_write_4 : decode b_Md_write 4 = .ok (.bipush 60, 2) := by decide +kernel
theorem d_Md_write_6 : decode b_Md_write 6 = .ok (.if_icmp .ge 13, 3) := by decide +kernel
theorem d_Md_write_9 : decode b_Md_write 9 = .ok (.aload_n 0, 1) := by decide +kernel
theorem d_Md_write_10 : decode b_Md_write 10 = .ok (.getfield 92, 3) := by decide +kernel
theorem d_Md_write_13 : decode b_Md_write 13 = .ok (.aload_n 0, 1) := by decide +kernel
theorem d_Md_write_14 : decode b_Md_write 14 = .ok (.getfield 111, 3) := by decide +kernel
theorem d_Md_write_17 : decode b_Md_write 17 = .ok (.iload_n 1, 1) := by decide +kernel
theorem d_Md_write_18 : decode b_Md_write 18 = .ok (.iastore, 1) := by decide +kernel
theorem d_Md_write_19 : decode b_Md_write 19 = .ok (.aload_n 0, 1) := by decide +kernel
theorem d_Md_write_20 : decode b_Md_write 20 = .ok (.dup, 1) := by decide +kernel
theorem d_Md_write_21 : decode b_Md_write 21 = .ok (.getfield 111, 3) := by decide +kernel
theorem d_Md_write_24 : decode b_Md_write 24 = .ok (.iconst 1, 1) := by decide +kernel
theorem d_Md_write_25 : decode b_Md_write 25 = .ok (.iadd, 1) := by decide +kernel
theorem d_Md_write_26 : decode b_Md_write 26 = .ok (.putfield 111, 3) := by decide +kernel
theorem d_Md_write_29 : decode b_Md_write 29 = .ok (.return_, 1) := by decide +kernel
theorem d_Md_come_0 : decode b_Md_come 0 = .ok (.aload_n 0, 1) := by decide +kernel
theorem d_Md_come_1 : decode b_Md_come 1 = .ok (.getfield 25, 3) := by decide +kernel
theorem d_Md_come_4 : decode b_Md_come 4 = .ok (.iload_n 1, 1) := by decide +kernel
theorem d_Md_come_5 : decode b_Md_come 5 = .ok (.iload_n 2, 1) := by decide +kernel
theorem d_Md_come_6 : decode b_Md_come 6 = .ok (.iastore, 1) := by decide +kernel
theorem d_Md_come_7 : decode b_Md_come 7 = .ok (.aload_n 0, 1) := by decide +kernel
theorem d_Md_come_8 : decode b_Md_come 8 = .ok (.bipush 8, 2) := by decide +kernel
theorem d_Md_come_10 : decode b_Md_come 10 = .ok (.iload_n 1, 1) := by decide +kernel
theorem d_Md_come_11 : decode b_Md_come 11 = .ok (.imul, 1) := by decide +kernel
theorem d_Md_come_12 : decode b_Md_come 12 = .ok (.iload_n 2, 1) := by decide +kernel
theorem d_Md_come_13 : decode b_Md_come 13 = .ok (.iadd, 1) := by decide +kernel
theorem d_Md_come_14 : decode b_Md_come 14 = .ok (.invokevirtual 114, 3) := by decide +kernel
theorem d_Md_come_17 : decode b_Md_come 17 = .ok (.return_, 1) := by decide +kernel
theorem d_Md_control_0 : decode b_Md_control 0 = .ok (.aload_n 0, 1) := by decide +kernel
theorem d_Md_control_1 : decode b_Md_control 1 = .ok (.getfield 77, 3) := by decide +kernel
theorem d_Md_control_4 : decode b_Md_control 4 = .ok (.iload_n 1, 1) := by decide +kernel
theorem d_Md_control_5 : decode b_Md_control 5 = .ok (.iaload, 1) := by decide +kernel
theorem d_Md_control_6 : decode b_Md_control 6 = .ok (.iload_n 2, 1) := by decide +kernel
theorem d_Md_control_7 : decode b_Md_control 7 = .ok (.if_icmp .ne 4, 3) := by decide +kernel
theorem d_Md_control_10 : decode b_Md_control 10 = .ok (.return_, 1) := by decide +kernel
theorem d_Md_control_11 : decode b_Md_control 11 = .ok (.aload_n 0, 1) := by decide +kernel
theorem d_Md_control_12 : decode b_Md_control 12 = .ok (.getfield 77, 3) := by decide +kernel
theorem d_Md_control_15 : decode b_Md_control 15 = .ok (.iload_n 1, 1) := by decide +kernel
theorem d_Md_control_16 : decode b_Md_control 16 = .ok (.iload_n 2, 1) := by decide +kernel
theorem d_Md_control_17 : decode b_Md_control 17 = .ok (.iastore, 1) := by decide +kernel
theorem d_Md_control_18 : decode b_Md_control 18 = .ok (.aload_n 0, 1) := by decide +kernel
theorem d_Md_control_19 : decode b_Md_control 19 = .ok (.bipush 64, 2) := by decide +kernel
theorem d_Md_control_21 : decode b_Md_control 21 = .ok (.iload_n 1, 1) := by decide +kernel
theorem d_Md_control_22 : decode b_Md_control 22 = .ok (.imul, 1) := by decide +kernel
theorem d_Md_control_23 : decode b_Md_control 23 = .ok (.iload_n 2, 1) := by decide +kernel
theorem d_Md_control_24 : decode b_Md_control 24 = .ok (.iadd, 1) := by decide +kernel
theorem d_Md_control_25 : decode b_Md_control 25 = .ok (.ineg, 1) := by decide +kernel
theorem d_Md_control_26 : decode b_Md_control 26 = .ok (.iconst 1, 1) := by decide +kernel
theorem d_Md_control_27 : decode b_Md_control 27 = .ok (.isub, 1) := by decide +kernel
theorem d_Md_control_28 : decode b_Md_control 28 = .ok (.invokevirtual 114, 3) := by decide +kernel
theorem d_Md_control_31 : decode b_Md_control 31 = .ok (.return_, 1) := by decide +kernel
theorem d_Md_finish_0 : decode b_Md_finish 0 = .ok (.aload_n 0, 1) := by decide +kernel
theorem d_Md_finish_1 : decode b_Md_finish 1 = .ok (.getfield 89, 3) := by decide +kernel
theorem d_Md_finish_4 : decode b_Md_finish 4 = .ok (.iload_n 1, 1) := by decide +kernel
theorem d_Md_finish_5 : decode b_Md_finish 5 = .ok (.iload_n 2, 1) := by decide +kernel
theorem d_Md_finish_6 : decode b_Md_finish 6 = .ok (.iastore, 1) := by decide +kernel
theorem d_Md_finish_7 : decode b_Md_finish 7 = .ok (.aload_n 0, 1) := by decide +kernel
theorem d_Md_finish_8 : decode b_Md_finish 8 = .ok (.sipush 1000, 3) := by decide +kernel
theorem d_Md_finish_11 : decode b_Md_finish 11 = .ok (.iload_n 1, 1) := by decide +kernel
theorem d_Md_finish_12 : decode b_Md_finish 12 = .ok (.iadd, 1) := by decide +kernel
theorem d_Md_finish_13 : decode b_Md_finish 13 = .ok (.invokevirtual 114, 3) := by decide +kernel
theorem d_Md_finish_16 : decode b_Md_finish 16 = .ok (.return_, 1) := by decide +kernel
theorem d_Md_serve_0 : decode b_Md_serve 0 = .ok (.aload_n 0, 1) := by decide +kernel
theorem d_Md_serve_1 : decode b_Md_serve 1 = .ok (.iload_n 1, 1) := by decide +kernel
theorem d_Md_serve_2 : decode b_Md_serve 2 = .ok (.iconst 0, 1) := by decide +kernel
theorem d_Md_serve_3 : decode b_Md_serve 3 = .ok (.iconst 3, 1) := by decide +kernel
theorem d_Md_serve_4 : decode b_Md_serve 4 = .ok (.invokestatic 103, 3) := by decide +kernel
theorem d_Md_serve_7 : decode b_Md_serve 7 = .ok (.ifCond .eq 34, 3) := by decide +kernel
theorem d_Md_serve_10 : decode b_Md_serve 10 = .ok (.iload_n 3, 1) := by decide +kernel
theorem d_Md_serve_11 : decode b_Md_serve 11 = .ok (.invokestatic 118, 3) := by decide +kernel
theorem d_Md_serve_14 : decode b_Md_serve 14 = .ok (.ifCond .eq 27, 3) := by decide +kernel
theorem d_Md_serve_17 : decode b_Md_serve 17 = .ok (.iload 4, 2) := by decide +kernel
theorem d_Md_serve_19 : decode b_Md_serve 19 = .ok (.iconst 0, 1) := by decide +kernel
theorem d_Md_serve_20 : decode b_Md_serve 20 = .ok (.iconst 1, 1) := by decide +kernel
theorem d_Md_serve_21 : decode b_Md_serve 21 = .ok (.invokestatic 103, 3) := by decide +kernel
theorem d_Md_serve_24 : decode b_Md_serve 24 = .ok (.ifCond .eq 17, 3) := by decide +kernel
theorem d_Md_serve_27 : decode b_Md_serve 27 = .ok (.iload 5, 2) := by decide +kernel
theorem d_Md_serve_29 : decode b_Md_serve 29 = .ok (.iconst 0, 1) := by decide +kernel
theorem d_Md_serve_30 : decode b_Md_serve 30 = .ok (.iconst 3, 1) := by decide +kernel
theorem d_Md_serve_31 : decode b_Md_serve 31 = .ok (.invokestatic 103, 3) := by decide +kernel
theorem d_Md_serve_34 : decode b_Md_serve 34 = .ok (.ifCond .eq 7, 3) := by decide +kernel
theorem d_Md_serve_37 : decode b_Md_serve 37 = .ok (.iconst 0, 1) := by decide +kernel
theorem d_Md_serve_38 : decode b_Md_serve 38 = .ok (.goto 4, 3) := by decide +kernel
theorem d_Md_serve_41 : decode b_Md_serve 41 = .ok (.iconst 1, 1) := by decide +kernel
theorem d_Md_serve_42 : decode b_Md_serve 42 = .ok (.putfield 98, 3) := by decide +kernel
theorem d_Md_serve_45 : decode b_Md_serve 45 = .ok (.aload_n 0, 1) := by decide +kernel
theorem d_Md_serve_46 : decode b_Md_serve 46 = .ok (.getfield 98, 3) := by decide +kernel
theorem d_Md_serve_49 : decode b_Md_serve 49 = .ok (.ifCond .le 4, 3) := by decide +kernel
theorem d_Md_serve_52 : decode b_Md_serve 52 = .ok (.return_, 1) := by decide +kernel
theorem d_Md_serve_53 : decode b_Md_serve 53 = .ok (.aload_n 0, 1) := by decide +kernel
theorem d_Md_serve_54 : decode b_Md_serve 54 = .ok (.getfield 7, 3) := by decide +kernel
theorem d_Md_serve_57 : decode b_Md_serve 57 = .ok (.iload_n 1, 1) := by decide +kernel
theorem d_Md_serve_58 : decode b_Md_serve 58 = .ok (.iload_n 2, 1) := by decide +kernel
theorem d_Md_serve_59 : decode b_Md_serve 59 = .ok (.iastore, 1) := by decide +kernel
theorem d_Md_serve_60 : decode b_Md_serve 60 = .ok (.aload_n 0, 1) := by decide +kernel
theorem d_Md_serve_61 : decode b_Md_serve 61 = .ok (.getfield 13, 3) := by decide +kernel
theorem d_Md_serve_64 : decode b_Md_serve 64 = .ok (.iload_n 1, 1) := by decide +kernel
theorem d_Md_serve_65 : decode b_Md_serve 65 = .ok (.iload_n 3, 1) := by decide +kernel
theorem d_Md_serve_66 : decode b_Md_serve 66 = .ok (.iastore, 1) := by decide +kernel
theorem d_Md_serve_67 : decode b_Md_serve 67 = .ok (.aload_n 0, 1) := by decide +kernel
theorem d_Md_serve_68 : decode b_Md_serve 68 = .ok (.getfield 16, 3) := by decide +kernel
theorem d_Md_serve_71 : decode b_Md_serve 71 = .ok (.iload_n 1, 1) := by decide +kernel
theorem d_Md_serve_72 : decode b_Md_serve 72 = .ok (.iload 4, 2) := by decide +kernel
theorem d_Md_serve_74 : decode b_Md_serve 74 = .ok (.iastore, 1) := by decide +kernel
theorem d_Md_serve_75 : decode b_Md_serve 75 = .ok (.aload_n 0, 1) := by decide +kernel
theorem d_Md_serve_76 : decode b_Md_serve 76 = .ok (.getfield 19, 3) := by decide +kernel
theorem d_Md_serve_79 : decode b_Md_serve 79 = .ok (.iload_n 1, 1) := by decide +kernel
theorem d_Md_serve_80 : decode b_Md_serve 80 = .ok (.iload 5, 2) := by decide +kernel
theorem d_Md_serve_82 : decode b_Md_serve 82 = .ok (.iastore, 1) := by decide +kernel
theorem d_Md_serve_83 : decode b_Md_serve 83 = .ok (.return_, 1) := by decide +kernel
theorem d_Md_network_0 : decode b_Md_network 0 = .ok (.aload_n 0, 1) := by decide +kernel
theorem d_Md_network_1 : decode b_Md_network 1 = .ok (.iconst 0, 1) := by decide +kernel
theorem d_Md_network_2 : decode b_Md_network 2 = .ok (.putfield 98, 3) := by decide +kernel
theorem d_Md_network_5 : decode b_Md_network 5 = .ok (.aload_n 0, 1) := by decide +kernel
theorem d_Md_network_6 : decode b_Md_network 6 = .ok (.getfield 122, 3) := by decide +kernel
theorem d_Md_network_9 : decode b_Md_network 9 = .ok (.ifCond .ne 7, 3) := by decide +kernel
theorem d_Md_network_12 : decode b_Md_network 12 = .ok (.iconst 1, 1) := by decide +kernel
theorem d_Md_network_13 : decode b_Md_network 13 = .ok (.goto 4, 3) := by decide +kernel
theorem d_Md_network_16 : decode b_Md_network 16 = .ok (.iconst 0, 1) := by decide +kernel
theorem d_Md_network_17 : decode b_Md_network 17 = .ok (.istore_n 3, 1) := by decide +kernel
theorem d_Md_network_18 : decode b_Md_network 18 = .ok (.aload_n 0, 1) := by decide +kernel
theorem d_Md_network_19 : decode b_Md_network 19 = .ok (.iload_n 1, 1) := by decide +kernel
theorem d_Md_network_20 : decode b_Md_network 20 = .ok (.ifCond .ne 7, 3) := by decide +kernel
theorem d_Md_network_23 : decode b_Md_network 23 = .ok (.iconst 1, 1) := by decide +kernel
theorem d_Md_network_24 : decode b_Md_network 24 = .ok (.goto 4, 3) := by decide +kernel
theorem d_Md_network_27 : decode b_Md_network 27 = .ok (.iconst 0, 1) := by decide +kernel
theorem d_Md_network_28 : decode b_Md_network 28 = .ok (.putfield 122, 3) := by decide +kernel
theorem d_Md_network_31 : decode b_Md_network 31 = .ok (.aload_n 0, 1) := by decide +kernel
theorem d_Md_network_32 : decode b_Md_network 32 = .ok (.iload_n 2, 1) := by decide +kernel
theorem d_Md_network_33 : decode b_Md_network 33 = .ok (.putfield 126, 3) := by decide +kernel
theorem d_Md_network_36 : decode b_Md_network 36 = .ok (.iload_n 3, 1) := by decide +kernel
theorem d_Md_network_37 : decode b_Md_network 37 = .ok (.ireturn, 1) := by decide +kernel
theorem d_Md_find_0 : decode b_Md_find 0 = .ok (.iconst 0, 1) := by decide +kernel
theorem d_Md_find_1 : decode b_Md_find 1 = .ok (.istore_n 2, 1) := by decide +kernel
theorem d_Md_find_2 : decode b_Md_find 2 = .ok (.iload_n 2, 1) := by decide +kernel
theorem d_Md_find_3 : decode b_Md_find 3 = .ok (.aload_n 0, 1) := by decide +kernel
theorem d_Md_find_4 : decode b_Md_find 4 = .ok (.getfield 129, 3) := by decide +kernel
theorem d_Md_find_7 : decode b_Md_find 7 = .ok (.if_icmp .ge 21, 3) := by decide +kernel
theorem d_Md_find_10 : decode b_Md_find 10 = .ok (.aload_n 0, 1) := by decide +kernel
theorem d_Md_find_11 : decode b_Md_find 11 = .ok (.getfield 50, 3) := by decide +kernel
theorem d_Md_find_14 : decode b_Md_find 14 = .ok (.iload_n 2, 1) := by decide +kernel
theorem d_Md_find_15 : decode b_Md_find 15 = .ok (.iaload, 1) := by decide +kernel
theorem d_Md_find_16 : decode b_Md_find 16 = .ok (.iload_n 1, 1) := by decide +kernel
theorem d_Md_find_17 : decode b_Md_find 17 = .ok (.if_icmp .ne 5, 3) := by decide +kernel
theorem d_Md_find_20 : decode b_Md_find 20 = .ok (.iload_n 2, 1) := by decide +kernel
theorem d_Md_find_21 : decode b_Md_find 21 = .ok (.ireturn, 1) := by decide +kernel
theorem d_Md_find_22 : decode b_Md_find 22 = .ok (.iinc 2 1, 3) := by decide +kernel
theorem d_Md_find_25 : decode b_Md_find 25 = .ok (.goto (-23), 3) := by decide +kernel
theorem d_Md_find_28 : decode b_Md_find 28 = .ok (.iconst (-1), 1) := by decide +kernel
theorem d_Md_find_29 : decode b_Md_find 29 = .ok (.ireturn, 1) := by decide +kernel
theorem d_Md_withActive_0 : decode b_Md_withActive 0 = .ok (.iconst 0, 1) := by decide +kernel
theorem d_Md_withActive_1 : decode b_Md_withActive 1 = .ok (.istore_n 2, 1) := by decide +kernel
theorem d_Md_withActive_2 : decode b_Md_withActive 2 = .ok (.iload_n 2, 1) := by decide +kernel
theorem d_Md_withActive_3 : decode b_Md_withActive 3 = .ok (.aload_n 0, 1) := by decide +kernel
theorem d_Md_withActive_4 : decode b_Md_withActive 4 = .ok (.getfield 129, 3) := by decide +kernel
theorem d_Md_withActive_7 : decode b_Md_withActive 7 = .ok (.if_icmp .ge 21, 3) := by decide +kernel
theorem d_Md_withActive_10 : decode b_Md_withActive 10 = .ok (.aload_n 0, 1) := by decide +kernel
theorem d_Md_withActive_11 : decode b_Md_withActive 11 = .ok (.getfield 62, 3) := by decide +kernel
theorem d_Md_withActive_14 : decode b_Md_withActive 14 = .ok (.iload_n 2, 1) := by decide +kernel
theorem d_Md_withActive_15 : decode b_Md_withActive 15 = .ok (.iaload, 1) := by decide +kernel
theorem d_Md_withActive_16 : decode b_Md_withActive 16 = .ok (.iload_n 1, 1) := by decide +kernel
theorem d_Md_withActive_17 : decode b_Md_withActive 17 = .ok (.if_icmp .ne 5, 3) := by decide +kernel
theorem d_Md_withActive_20 : decode b_Md_withActive 20 = .ok (.iload_n 2, 1) := by decide +kernel
theorem d_Md_withActive_21 : decode b_Md_withActive 21 = .ok (.ireturn, 1) := by decide +kernel
theorem d_Md_withActive_22 : decode b_Md_withActive 22 = .ok (.iinc 2 1, 3) := by decide +kernel
theorem d_Md_withActive_25 : decode b_Md_withActive 25 = .ok (.goto (-23), 3) := by decide +kernel
theorem d_Md_withActive_28 : decode b_Md_withActive 28 = .ok (.iconst (-1), 1) := by decide +kernel
theorem d_Md_withActive_29 : decode b_Md_withActive 29 = .ok (.ireturn, 1) := by decide +kernel
theorem d_Md_forPath_0 : decode b_Md_forPath 0 = .ok (.iconst (-1), 1) := by decide +kernel
theorem d_Md_forPath_1 : decode b_Md_forPath 1 = .ok (.istore_n 2, 1) := by decide +kernel
theorem d_Md_forPath_2 : decode b_Md_forPath 2 = .ok (.iconst 0, 1) := by decide +kernel
theorem d_Md_forPath_3 : decode b_Md_forPath 3 = .ok (.istore_n 3, 1) := by decide +kernel
theorem d_Md_forPath_4 : decode b_Md_forPath 4 = .ok (.iload_n 3, 1) := by decide +kernel
theorem d_Md_forPath_5 : decode b_Md_forPath 5 = .ok (.aload_n 0, 1) := by decide +kernel
theorem d_Md_forPath_6 : decode b_Md_forPath 6 = .ok (.getfield 129, 3) := by decide +kernel
theorem d_Md_forPath_9 : decode b_Md_forPath 9 = .ok (.if_icmp .ge 70, 3) := by decide +kernel
theorem d_Md_forPath_12 : decode b_Md_forPath 12 = .ok (.aload_n 0, 1) := by decide +kernel
theorem d_Md_forPath_13 : decode b_Md_forPath 13 = .ok (.getfield 65, 3) := by decide +kernel
theorem d_Md_forPath_16 : decode b_Md_forPath 16 = .ok (.iload_n 3, 1) := by decide +kernel
theorem d_Md_forPath_17 : decode b_Md_forPath 17 = .ok (.baload, 1) := by decide +kernel
theorem d_Md_forPath_18 : decode b_Md_forPath 18 = .ok (.ifCond .ne 55, 3) := by decide +kernel
theorem d_Md_forPath_21 : decode b_Md_forPath 21 = .ok (.aload_n 0, 1) := by decide +kernel
theorem d_Md_forPath_22 : decode b_Md_forPath 22 = .ok (.getfield 62, 3) := by decide +kernel
theorem d_Md_forPath_25 : decode b_Md_forPath 25 = .ok (.iload_n 3, 1) := by decide +kernel
theorem d_Md_forPath_26 : decode b_Md_forPath 26 = .ok (.iaload, 1) := by decide +kernel
theorem d_Md_forPath_27 : decode b_Md_forPath 27 = .ok (.ifCond .eq 46, 3) := by decide +kernel
theorem d_Md_forPath_30 : decode b_Md_forPath 30 = .ok (.aload_n 0, 1) := by decide +kernel
theorem d_Md_forPath_31 : decode b_Md_forPath 31 = .ok (.getfield 50, 3) := by decide +kernel
theorem d_Md_forPath_34 : decode b_Md_forPath 34 = .ok (.iload_n 3, 1) := by decide +kernel
theorem d_Md_forPath_35 : decode b_Md_forPath 35 = .ok (.iaload, 1) := by decide +kernel
theorem d_Md_forPath_36 : decode b_Md_forPath 36 = .ok (.iload_n 1, 1) := by decide +kernel
theorem d_Md_forPath_37 : decode b_Md_forPath 37 = .ok (.invokestatic 132, 3) := by decide +kernel
theorem d_Md_forPath_40 : decode b_Md_forPath 40 = .ok (.ifCond .ne 6, 3) := by decide +kernel
theorem d_Md_forPath_43 : decode b_Md_forPath 43 = .ok (.goto 30, 3) := by decide +kernel
theorem d_Md_forPath_46 : decode b_Md_forPath 46 = .ok (.iload_n 2, 1) := by decide +kernel
theorem d_Md_forPath_47 : decode b_Md_forPath 47 = .ok (.ifCond .lt 24, 3) := by decide +kernel
theorem d_Md_forPath_50 : decode b_Md_forPath 50 = .ok (.aload_n 0, 1) := by decide +kernel
theorem d_Md_forPath_51 : decode b_Md_forPath 51 = .ok (.getfield 50, 3) := by decide +kernel
theorem d_Md_forPath_54 : decode b_Md_forPath 54 = .ok (.iload_n 3, 1) := by decide +kernel
theorem d_Md_forPath_55 : decode b_Md_forPath 55 = .ok (.iaload, 1) := by decide +kernel
theorem d_Md_forPath_56 : decode b_Md_forPath 56 = .ok (.invokestatic 107, 3) := by decide +kernel
theorem d_Md_forPath_59 : decode b_Md_forPath 59 = .ok (.aload_n 0, 1) := by decide +kernel
theorem d_Md_forPath_60 : decode b_Md_forPath 60 = .ok (.getfield 50, 3) := by decide +kernel
theorem d_Md_forPath_63 : decode b_Md_forPath 63 = .ok (.iload_n 2, 1) := by decide +kernel
theorem d_Md_forPath_64 : decode b_Md_forPath 64 = .ok (.iaload, 1) := by decide +kernel
theorem d_Md_forPath_65 : decode b_Md_forPath 65 = .ok (.invokestatic 107, 3) := by decide +kernel
theorem d_Md_forPath_68 : decode b_Md_forPath 68 = .ok (.if_icmp .le 5, 3) := by decide +kernel
theorem d_Md_forPath_71 : decode b_Md_forPath 71 = .ok (.iload_n 3, 1) := by decide +kernel
theorem d_Md_forPath_72 : decode b_Md_forPath 72 = .ok (.istore_n 2, 1) := by decide +kernel
theorem d_Md_forPath_73 : decode b_Md_forPath 73 = .ok (.iinc 3 1, 3) := by decide +kernel
theorem d_Md_forPath_76 : decode b_Md_forPath 76 = .ok (.goto (-72), 3) := by decide +kernel
theorem d_Md_forPath_79 : decode b_Md_forPath 79 = .ok (.iload_n 2, 1) := by decide +kernel
theorem d_Md_forPath_80 : decode b_Md_forPath 80 = .ok (.ireturn, 1) := by decide +kernel
