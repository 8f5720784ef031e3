theorem d_K_fetch_0 : decode b_K_fetch 0 = .ok (.iload_n 2, 1) := by decide +kernel
theorem d_K_fetch_1 : decode b_K_fetch 1 = .ok (.invokestatic 98, 3) := by decide +kernel
theorem d_K_fetch_4 : decode b_K_fetch 4 = .ok (.aload_n 0, 1) := by decide +kernel
theorem d_K_fetch_5 : decode b_K_fetch 5 = .ok (.iload_n 1, 1) := by decide +kernel
theorem d_K_fetch_6 : decode b_K_fetch 6 = .ok (.invokevirtual 176, 3) := by decide +kernel
theorem d_K_fetch_9 : decode b_K_fetch 9 = .ok (.aload_n 0, 1) := by decide +kernel
theorem d_K_fetch_10 : decode b_K_fetch 10 = .ok (.getfield 43, 3) := by decide +kernel
theorem d_K_fetch_13 : decode b_K_fetch 13 = .ok (.iload_n 1, 1) := by decide +kernel
theorem d_K_fetch_14 : decode b_K_fetch 14 = .ok (.aaload, 1) := by decide +kernel
theorem d_K_fetch_15 : decode b_K_fetch 15 = .ok (.getfield 173, 3) := by decide +kernel
theorem d_K_fetch_18 : decode b_K_fetch 18 = .ok (.astore_n 3, 1) := by decide +kernel
theorem d_K_fetch_19 : decode b_K_fetch 19 = .ok (.aload_n 3, 1) := by decide +kernel
theorem d_K_fetch_20 : decode b_K_fetch 20 = .ok (.ifnonnull 7, 3) := by decide +kernel
theorem d_K_fetch_23 : decode b_K_fetch 23 = .ok (.iconst 0, 1) := by decide +kernel
theorem d_K_fetch_24 : decode b_K_fetch 24 = .ok (.goto 7, 3) := by decide +kernel
theorem d_K_fetch_27 : decode b_K_fetch 27 = .ok (.aload_n 3, 1) := by decide +kernel
theorem d_K_fetch_28 : decode b_K_fetch 28 = .ok (.getfield 212, 3) := by decide +kernel
theorem d_K_fetch_31 : decode b_K_fetch 31 = .ok (.istore 4, 2) := by decide +kernel
theorem d_K_fetch_33 : decode b_K_fetch 33 = .ok (.aload_n 3, 1) := by decide +kernel
theorem d_K_fetch_34 : decode b_K_fetch 34 = .ok (.ifnull 8, 3) := by decide +kernel
theorem d_K_fetch_37 : decode b_K_fetch 37 = .ok (.iload 4, 2) := by decide +kernel
theorem d_K_fetch_39 : decode b_K_fetch 39 = .ok (.ifCond .ne 9, 3) := by decide +kernel
theorem d_K_fetch_42 : decode b_K_fetch 42 = .ok (.aload_n 0, 1) := by decide +kernel
theorem d_K_fetch_43 : decode b_K_fetch 43 = .ok (.iload_n 2, 1) := by decide +kernel
theorem d_K_fetch_44 : decode b_K_fetch 44 = .ok (.invokevirtual 213, 3) := by decide +kernel
theorem d_K_fetch_47 : decode b_K_fetch 47 = .ok (.ireturn, 1) := by decide +kernel
theorem d_K_fetch_48 : decode b_K_fetch 48 = .ok (.iload 4, 2) := by decide +kernel
theorem d_K_fetch_50 : decode b_K_fetch 50 = .ok (.iconst 3, 1) := by decide +kernel
theorem d_K_fetch_51 : decode b_K_fetch 51 = .ok (.if_icmp .ne 8, 3) := by decide +kernel
theorem d_K_fetch_54 : decode b_K_fetch 54 = .ok (.aload_n 3, 1) := by decide +kernel
theorem d_K_fetch_55 : decode b_K_fetch 55 = .ok (.getfield 216, 3) := by decide +kernel
theorem d_K_fetch_58 : decode b_K_fetch 58 = .ok (.ireturn, 1) := by decide +kernel
theorem d_K_fetch_59 : decode b_K_fetch 59 = .ok (.aload_n 3, 1) := by decide +kernel
theorem d_K_fetch_60 : decode b_K_fetch 60 = .ok (.getfield 217, 3) := by decide +kernel
theorem d_K_fetch_63 : decode b_K_fetch 63 = .ok (.astore 5, 2) := by decide +kernel
theorem d_K_fetch_65 : decode b_K_fetch 65 = .ok (.iload 4, 2) := by decide +kernel
theorem d_K_fetch_67 : decode b_K_fetch 67 = .ok (.iconst 1, 1) := by decide +kernel
theorem d_K_fetch_68 : decode b_K_fetch 68 = .ok (.if_icmp .eq 10, 3) := by decide +kernel
theorem d_K_fetch_71 : decode b_K_fetch 71 = .ok (.aload_n 0, 1) := by decide +kernel
theorem d_K_fetch_72 : decode b_K_fetch 72 = .ok (.getfield 15, 3) := by decide +kernel
theorem d_K_fetch_75 : decode b_K_fetch 75 = .ok (.ifCond .ne 7, 3) := by decide +kernel
theorem d_K_fetch_78 : decode b_K_fetch 78 = .ok (.iconst 1, 1) := by decide +kernel
theorem d_K_fetch_79 : decode b_K_fetch 79 = .ok (.goto 4, 3) := by decide +kernel
theorem d_K_fetch_82 : decode b_K_fetch 82 = .ok (.iconst 0, 1) := by decide +kernel
theorem d_K_fetch_83 : decode b_K_fetch 83 = .ok (.istore 6, 2) := by decide +kernel
theorem d_K_fetch_85 : decode b_K_fetch 85 = .ok (.iload 6, 2) := by decide +kernel
theorem d_K_fetch_87 : decode b_K_fetch 87 = .ok (.ifCond .eq 19, 3) := by decide +kernel
theorem d_K_fetch_90 : decode b_K_fetch 90 = .ok (.aload 5, 2) := by decide +kernel
theorem d_K_fetch_92 : decode b_K_fetch 92 = .ok (.iload_n 2, 1) := by decide +kernel
theorem d_K_fetch_93 : decode b_K_fetch 93 = .ok (.invokevirtual 221, 3) := by decide +kernel
theorem d_K_fetch_96 : decode b_K_fetch 96 = .ok (.ifCond .eq 10, 3) := by decide +kernel
theorem d_K_fetch_99 : decode b_K_fetch 99 = .ok (.aload 5, 2) := by decide +kernel
theorem d_K_fetch_101 : decode b_K_fetch 101 = .ok (.iload_n 2, 1) := by decide +kernel
theorem d_K_fetch_102 : decode b_K_fetch 102 = .ok (.invokevirtual 226, 3) := by decide +kernel
theorem d_K_fetch_105 : decode b_K_fetch 105 = .ok (.ireturn, 1) := by decide +kernel
theorem d_K_fetch_106 : decode b_K_fetch 106 = .ok (.aload_n 0, 1) := by decide +kernel
theorem d_K_fetch_107 : decode b_K_fetch 107 = .ok (.iload_n 2, 1) := by decide +kernel
theorem d_K_fetch_108 : decode b_K_fetch 108 = .ok (.invokevirtual 213, 3) := by decide +kernel
theorem d_K_fetch_111 : decode b_K_fetch 111 = .ok (.istore 7, 2) := by decide +kernel
theorem d_K_fetch_113 : decode b_K_fetch 113 = .ok (.aload 5, 2) := by decide +kernel
theorem d_K_fetch_115 : decode b_K_fetch 115 = .ok (.iload_n 2, 1) := by decide +kernel
theorem d_K_fetch_116 : decode b_K_fetch 116 = .ok (.iload 7, 2) := by decide +kernel
theorem d_K_fetch_118 : decode b_K_fetch 118 = .ok (.invokevirtual 229, 3) := by decide +kernel
theorem d_K_fetch_121 : decode b_K_fetch 121 = .ok (.iload 7, 2) := by decide +kernel
theorem d_K_fetch_123 : decode b_K_fetch 123 = .ok (.ireturn, 1) := by decide +kernel
theorem d_K_registration_0 : decode b_K_registration 0 = .ok (.iload_n 2, 1) := by decide +kernel
theorem d_K_registration_1 : decode b_K_registration 1 = .ok (.ifCond .lt 8, 3) := by decide +kernel
theorem d_K_registration_4 : decode b_K_registration 4 = .ok (.iload_n 2, 1) := by decide +kernel
theorem d_K_registration_5 : decode b_K_registration 5 = .ok (.iconst 4, 1) := by decide +kernel
theorem d_K_registration_6 : decode b_K_registration 6 = .ok (.if_icmp .le 13, 3) := by decide +kernel
theorem d_K_registration_9 : decode b_K_registration 9 = .ok (.new 75, 3) := by decide +kernel
theorem d_K_registration_12 : decode b_K_registration 12 = .ok (.dup, 1) := by decide +kernel
theorem d_K_registration_13 : decode b_K_registration 13 = .ok (.ldc 233, 2) := by decide +kernel
theorem d_K_registration_15 : decode b_K_registration 15 = .ok (.invokespecial 79, 3) := by decide +kernel
theorem d_K_registration_18 : decode b_K_registration 18 = .ok (.athrow, 1) := by decide +kernel
theorem d_K_registration_19 : decode b_K_registration 19 = .ok (.aload_n 0, 1) := by decide +kernel
theorem d_K_registration_20 : decode b_K_registration 20 = .ok (.iload_n 1, 1) := by decide +kernel
theorem d_K_registration_21 : decode b_K_registration 21 = .ok (.invokevirtual 187, 3) := by decide +kernel
theorem d_K_registration_24 : decode b_K_registration 24 = .ok (.astore_n 3, 1) := by decide +kernel
theorem d_K_registration_25 : decode b_K_registration 25 = .ok (.iload_n 2, 1) := by decide +kernel
theorem d_K_registration_26 : decode b_K_registration 26 = .ok (.tableswitch 59 0 3 #[30, 35, 43, 51], 30) := by decide +kernel
theorem d_K_registration_56 : decode b_K_registration 56 = .ok (.aload_n 3, 1) := by decide +kernel
theorem d_K_registration_57 : decode b_K_registration 57 = .ok (.getfield 235, 3) := by decide +kernel
theorem d_K_registration_60 : decode b_K_registration 60 = .ok (.ireturn, 1) := by decide +kernel
theorem d_K_registration_61 : decode b_K_registration 61 = .ok (.aload_n 3, 1) := by decide +kernel
theorem d_K_registration_62 : decode b_K_registration 62 = .ok (.getfield 199, 3) := by decide +kernel
theorem d_K_registration_65 : decode b_K_registration 65 = .ok (.invokestatic 183, 3) := by decide +kernel
theorem d_K_registration_68 : decode b_K_registration 68 = .ok (.ireturn, 1) := by decide +kernel
theorem d_K_registration_69 : decode b_K_registration 69 = .ok (.aload_n 3, 1) := by decide +kernel
theorem d_K_registration_70 : decode b_K_registration 70 = .ok (.getfield 196, 3) := by decide +kernel
theorem d_K_registration_73 : decode b_K_registration 73 = .ok (.invokestatic 183, 3) := by decide +kernel
theorem d_K_registration_76 : decode b_K_registration 76 = .ok (.ireturn, 1) := by decide +kernel
theorem d_K_registration_77 : decode b_K_registration 77 = .ok (.aload_n 3, 1) := by decide +kernel
theorem d_K_registration_78 : decode b_K_registration 78 = .ok (.getfield 169, 3) := by decide +kernel
theorem d_K_registration_81 : decode b_K_registration 81 = .ok (.invokestatic 183, 3) := by decide +kernel
theorem d_K_registration_84 : decode b_K_registration 84 = .ok (.ireturn, 1) := by decide +kernel
theorem d_K_registration_85 : decode b_K_registration 85 = .ok (.aload_n 3, 1) := by decide +kernel
theorem d_K_registration_86 : decode b_K_registration 86 = .ok (.getfield 236, 3) := by decide +kernel
theorem d_K_registration_89 : decode b_K_registration 89 = .ok (.ifCond .eq 7, 3) := by decide +kernel
theorem d_K_registration_92 : decode b_K_registration 92 = .ok (.iconst 1, 1) := by decide +kernel
theorem d_K_registration_93 : decode b_K_registration 93 = .ok (.goto 4, 3) := by decide +kernel
theorem d_K_registration_96 : decode b_K_registration 96 = .ok (.iconst 0, 1) := by decide +kernel
theorem d_K_registration_97 : decode b_K_registration 97 = .ok (.ireturn, 1) := by decide +kernel
theorem d_K_worker_0 : decode b_K_worker 0 = .ok (.iload_n 2, 1) := by decide +kernel
theorem d_K_worker_1 : decode b_K_worker 1 = .ok (.ifCond .lt 12, 3) := by decide +kernel
theorem d_K_worker_4 : decode b_K_worker 4 = .ok (.iload_n 2, 1) := by decide +kernel
theorem d_K_worker_5 : decode b_K_worker 5 = .ok (.iconst 4, 1) := by decide +kernel
theorem d_K_worker_6 : decode b_K_worker 6 = .ok (.if_icmp .gt 7, 3) := by decide +kernel
theorem d_K_worker_9 : decode b_K_worker 9 = .ok (.iconst 1, 1) := by decide +kernel
theorem d_K_worker_10 : decode b_K_worker 10 = .ok (.goto 4, 3) := by decide +kernel
theorem d_K_worker_13 : decode b_K_worker 13 = .ok (.iconst 0, 1) := by decide +kernel
theorem d_K_worker_14 : decode b_K_worker 14 = .ok (.istore_n 3, 1) := by decide +kernel
theorem d_K_worker_15 : decode b_K_worker 15 = .ok (.iload_n 2, 1) := by decide +kernel
theorem d_K_worker_16 : decode b_K_worker 16 = .ok (.bipush 10, 2) := by decide +kernel
theorem d_K_worker_18 : decode b_K_worker 18 = .ok (.iconst 4, 1) := by decide +kernel
theorem d_K_worker_19 : decode b_K_worker 19 = .ok (.invokestatic 239, 3) := by decide +kernel
theorem d_K_worker_22 : decode b_K_worker 22 = .ok (.ifCond .ne 13, 3) := by decide +kernel
theorem d_K_worker_25 : decode b_K_worker 25 = .ok (.iload_n 2, 1) := by decide +kernel
theorem d_K_worker_26 : decode b_K_worker 26 = .ok (.bipush 20, 2) := by decide +kernel
theorem d_K_worker_28 : decode b_K_worker 28 = .ok (.iconst 4, 1) := by decide +kernel
theorem d_K_worker_29 : decode b_K_worker 29 = .ok (.invokestatic 239, 3) := by decide +kernel
theorem d_K_worker_32 : decode b_K_worker 32 = .ok (.ifCond .eq 7, 3) := by decide +kernel
theorem d_K_worker_35 : decode b_K_worker 35 = .ok (.iconst 1, 1) := by decide +kernel
theorem d_K_worker_36 : decode b_K_worker 36 = .ok (.goto 4, 3) := by decide +kernel
theorem d_K_worker_39 : decode b_K_worker 39 = .ok (.iconst 0, 1) := by decide +kernel
theorem d_K_worker_40 : decode b_K_worker 40 = .ok (.istore 4, 2) := by decide +kernel
theorem d_K_worker_42 : decode b_K_worker 42 = .ok (.iload_n 3, 1) := by decide +kernel
theorem d_K_worker_43 : decode b_K_worker 43 = .ok (.ifCond .ne 18, 3) := by decide +kernel
theorem d_K_worker_46 : decode b_K_worker 46 = .ok (.iload 4, 2) := by decide +kernel
theorem d_K_worker_48 : decode b_K_worker 48 = .ok (.ifCond .ne 13, 3) := by decide +kernel
theorem d_K_worker_51 : decode b_K_worker 51 = .ok (.new 75, 3) := by decide +kernel
theorem d_K_worker_54 : decode b_K_worker 54 = .ok (.dup, 1) := by decide +kernel
theorem d_K_worker_55 : decode b_K_worker 55 = .ok (.ldc 233, 2) := by decide +kernel
theorem d_K_worker_57 : decode b_K_worker 57 = .ok (.invokespecial 79, 3) := by decide +kernel
theorem d_K_worker_60 : decode b_K_worker 60 = .ok (.athrow, 1) := by decide +kernel
theorem d_K_worker_61 : decode b_K_worker 61 = .ok (.iload_n 1, 1) := by decide +kernel
theorem d_K_worker_62 : decode b_K_worker 62 = .ok (.iconst 1, 1) := by decide +kernel
theorem d_K_worker_63 : decode b_K_worker 63 = .ok (.if_icmp .lt 11, 3) := by decide +kernel
theorem d_K_worker_66 : decode b_K_worker 66 = .ok (.iload_n 1, 1) := by decide +kernel
theorem d_K_worker_67 : decode b_K_worker 67 = .ok (.aload_n 0, 1) := by decide +kernel
theorem d_K_worker_68 : decode b_K_worker 68 = .ok (.getfield 29, 3) := by decide +kernel
theorem d_K_worker_71 : decode b_K_worker 71 = .ok (.if_icmp .le 13, 3) := by decide +kernel
theorem d_K_worker_74 : decode b_K_worker 74 = .ok (.new 243, 3) := by decide +kernel
theorem d_K_worker_77 : decode b_K_worker 77 = .ok (.dup, 1) := by decide +kernel
theorem d_K_worker_78 : decode b_K_worker 78 = .ok (.ldc 245, 2) := by decide +kernel
theorem d_K_worker_80 : decode b_K_worker 80 = .ok (.invokespecial 247, 3) := by decide +kernel
theorem d_K_worker_83 : decode b_K_worker 83 = .ok (.athrow, 1) := by decide +kernel
theorem d_K_worker_84 : decode b_K_worker 84 = .ok (.aload_n 0, 1) := by decide +kernel
theorem d_K_worker_85 : decode b_K_worker 85 = .ok (.getfield 25, 3) := by decide +kernel
theorem d_K_worker_88 : decode b_K_worker 88 = .ok (.iload_n 1, 1) := by decide +kernel
theorem d_K_worker_89 : decode b_K_worker 89 = .ok (.iconst 1, 1) := by decide +kernel
theorem d_K_worker_90 : decode b_K_worker 90 = .ok (.isub, 1) := by decide +kernel
theorem d_K_worker_91 : decode b_K_worker 91 = .ok (.aaload, 1) := by decide +kernel
theorem d_K_worker_92 : decode b_K_worker 92 = .ok (.astore 5, 2) := by decide +kernel
theorem d_K_worker_94 : decode b_K_worker 94 = .ok (.iload_n 2, 1) := by decide +kernel
theorem d_K_worker_95 : decode b_K_worker 95 = .ok (.tableswitch 67 0 4 #[33, 39, 45, 51, 58], 33) := by decide +kernel
theorem d_K_worker_128 : decode b_K_worker 128 = .ok (.aload 5, 2) := by decide +kernel
theorem d_K_worker_130 : decode b_K_worker 130 = .ok (.getfield 248, 3) := by decide +kernel
theorem d_K_worker_133 : decode b_K_worker 133 = .ok (.ireturn, 1) := by decide +kernel
theorem d_K_worker_134 : decode b_K_worker 134 = .ok (.aload 5, 2) := by decide +kernel
theorem d_K_worker_136 : decode b_K_worker 136 = .ok (.getfield 216, 3) := by decide +kernel
theorem d_K_worker_139 : decode b_K_worker 139 = .ok (.ireturn, 1) := by decide +kernel
theorem d_K_worker_140 : decode b_K_worker 140 = .ok (.aload 5, 2) := by decide +kernel
theorem d_K_worker_142 : decode b_K_worker 142 = .ok (.getfield 212, 3) := by decide +kernel
theorem d_K_worker_145 : decode b_K_worker 145 = .ok (.ireturn, 1) := by decide +kernel
theorem d_K_worker_146 : decode b_K_worker 146 = .ok (.aload_n 0, 1) := by decide +kernel
theorem d_K_worker_147 : decode b_K_worker 147 = .ok (.aload 5, 2) := by decide +kernel
theorem d_K_worker_149 : decode b_K_worker 149 = .ok (.invokevirtual 251, 3) := by decide +kernel
theorem d_K_worker_152 : decode b_K_worker 152 = .ok (.ireturn, 1) := by decide +kernel
theorem d_K_worker_153 : decode b_K_worker 153 = .ok (.aload 5, 2) := by decide +kernel
theorem d_K_worker_155 : decode b_K_worker 155 = .ok (.getfield 217, 3) := by decide +kernel
theorem d_K_worker_158 : decode b_K_worker 158 = .ok (.getfield 254, 3) := by decide +kernel
theorem d_K_worker_161 : decode b_K_worker 161 = .ok (.ireturn, 1) := by decide +kernel
theorem d_K_worker_162 : decode b_K_worker 162 = .ok (.iload_n 2, 1) := by decide +kernel
theorem d_K_worker_163 : decode b_K_worker 163 = .ok (.bipush 20, 2) := by decide +kernel
theorem d_K_worker_165 : decode b_K_worker 165 = .ok (.if_icmp .ge 18, 3) := by decide +kernel
theorem d_K_worker_168 : decode b_K_worker 168 = .ok (.aload 5, 2) := by decide +kernel
theorem d_K_worker_170 : decode b_K_worker 170 = .ok (.getfield 217, 3) := by decide +kernel
theorem d_K_worker_173 : decode b_K_worker 173 = .ok (.iload_n 2, 1) := by decide +kernel
theorem d_K_worker_174 : decode b_K_worker 174 = .ok (.bipush 10, 2) := by decide +kernel
theorem d_K_worker_176 : decode b_K_worker 176 = .ok (.isub, 1) := by decide +kernel
theorem d_K_worker_177 : decode b_K_worker 177 = .ok (.invokevirtual 257, 3) := by decide +kernel
theorem d_K_worker_180 : decode b_K_worker 180 = .ok (.goto 15, 3) := by decide +kernel
theorem d_K_worker_183 : decode b_K_worker 183 = .ok (.aload 5, 2) := by decide +kernel
theorem d_K_worker_185 : decode b_K_worker 185 = .ok (.getfield 217, 3) := by decide +kernel
theorem d_K_worker_188 : decode b_K_worker 188 = .ok (.iload_n 2, 1) := by decide +kernel
theorem d_K_worker_189 : decode b_K_worker 189 = .ok (.bipush 20, 2) := by decide +kernel
theorem d_K_worker_191 : decode b_K_worker 191 = .ok (.isub, 1) := by decide +kernel
theorem d_K_worker_192 : decode b_K_worker 192 = .ok (.invokevirtual 260, 3) := by decide +kernel
theorem d_K_worker_195 : decode b_K_worker 195 = .ok (.ireturn, 1) := by decide +kernel
theorem d_K_outcome_0 : decode b_K_outcome 0 = .ok (.iload_n 1, 1) := by decide +kernel
theorem d_K_outcome_1 : decode b_K_outcome 1 = .ok (.ifCond .lt 11, 3) := by decide +kernel
theorem d_K_outcome_4 : decode b_K_outcome 4 = .ok (.iload_n 1, 1) := by decide +kernel
theorem d_K_outcome_5 : decode b_K_outcome 5 = .ok (.aload_n 0, 1) := by decide +kernel
theorem d_K_outcome_6 : decode b_K_outcome 6 = .ok (.getfield 56, 3) := by decide +kernel
theorem d_K_outcome_9 : decode b_K_outcome 9 = .ok (.if_icmp .lt 14, 3) := by decide +kernel
theorem d_K_outcome_12 : decode b_K_outcome 12 = .ok (.new 243, 3) := by decide +kernel
theorem d_K_outcome_15 : decode b_K_outcome 15 = .ok (.dup, 1) := by decide +kernel
theorem d_K_outcome_16 : decode b_K_outcome 16 = .ok (.ldc_w 263, 3) := by decide +kernel
theorem d_K_outcome_19 : decode b_K_outcome 19 = .ok (.invokespecial 247, 3) := by decide +kernel
theorem d_K_outcome_22 : decode b_K_outcome 22 = .ok (.athrow, 1) := by decide +kernel
theorem d_K_outcome_23 : decode b_K_outcome 23 = .ok (.aload_n 0, 1) := by decide +kernel
theorem d_K_outcome_24 : decode b_K_outcome 24 = .ok (.getfield 52, 3) := by decide +kernel
theorem d_K_outcome_27 : decode b_K_outcome 27 = .ok (.iload_n 1, 1) := by decide +kernel
theorem d_K_outcome_28 : decode b_K_outcome 28 = .ok (.aaload, 1) := by decide +kernel
theorem d_K_outcome_29 : decode b_K_outcome 29 = .ok (.getfield 147, 3) := by decide +kernel
theorem d_K_outcome_32 : decode b_K_outcome 32 = .ok (.ireturn, 1) := by decide +kernel
theorem d_K_trace_0 : decode b_K_trace 0 = .ok (.iload_n 1, 1) := by decide +kernel
theorem d_K_trace_1 : decode b_K_trace 1 = .ok (.ifCond .lt 14, 3) := by decide +kernel
theorem d_K_trace_4 : decode b_K_trace 4 = .ok (.iload_n 1, 1) := by decide +kernel
theorem d_K_trace_5 : decode b_K_trace 5 = .ok (.aload_n 0, 1) := by decide +kernel
theorem d_K_trace_6 : decode b_K_trace 6 = .ok (.getfield 62, 3) := by decide +kernel
theorem d_K_trace_9 : decode b_K_trace 9 = .ok (.getfield 265, 3) := by decide +kernel
theorem d_K_trace_12 : decode b_K_trace 12 = .ok (.if_icmp .lt 14, 3) := by decide +kernel
theorem d_K_trace_15 : decode b_K_trace 15 = .ok (.new 243, 3) := by decide +kernel
theorem d_K_trace_18 : decode b_K_trace 18 = .ok (.dup, 1) := by decide +kernel
theorem d_K_trace_19 : decode b_K_trace 19 = .ok (.ldc_w 268, 3) := by decide +kernel
theorem d_K_trace_22 : decode b_K_trace 22 = .ok (.invokespecial 247, 3) := by decide +kernel
theorem d_K_trace_25 : decode b_K_trace 25 = .ok (.athrow, 1) := by decide +kernel
theorem d_K_trace_26 : decode b_K_trace 26 = .ok (.aload_n 0, 1) := by decide +kernel
theorem d_K_trace_27 : decode b_K_trace 27 = .ok (.getfield 62, 3) := by decide +kernel
theorem d_K_trace_30 : decode b_K_trace 30 = .ok (.getfield 270, 3) := by decide +kernel
theorem d_K_trace_33 : decode b_K_trace 33 = .ok (.iload_n 1, 1) := by decide +kernel
theorem d_K_trace_34 : decode b_K_trace 34 = .ok (.iaload, 1) := by decide +kernel
theorem d_K_trace_35 : decode b_K_trace 35 = .ok (.ireturn, 1) := by decide +kernel
theorem d_K_count_0 : decode b_K_count 0 = .ok (.iload_n 1, 1) := by decide +kernel
theorem d_K_count_1 : decode b_K_count 1 = .ok (.bipush 10, 2) := by decide +kernel
theorem d_K_count_3 : decode b_K_count 3 = .ok (.bipush 8, 2) := by decide +kernel
theorem d_K_count_5 : decode b_K_count 5 = .ok (.invokestatic 239, 3) := by decide +kernel
theorem d_K_count_8 : decode b_K_count 8 = .ok (.ifCond .eq 19, 3) := by decide +kernel
theorem d_K_count_11 : decode b_K_count 11 = .ok (.aload_n 0, 1) := by decide +kernel
theorem d_K_count_12 : decode b_K_count 12 = .ok (.getfield 43, 3) := by decide +kernel
theorem d_K_count_15 : decode b_K_count 15 = .ok (.iload_n 1, 1) := by decide +kernel
theorem d_K_count_16 : decode b_K_count 16 = .ok (.bipush 10, 2) := by decide +kernel
theorem d_K_count_18 : decode b_K_count 18 = .ok (.isub, 1) := by decide +kernel
theorem d_K_count_19 : decode b_K_count 19 = .ok (.aaload, 1) := by decide +kernel
theorem d_K_count_20 : decode b_K_count 20 = .ok (.getfield 173, 3) := by decide +kernel
theorem d_K_count_23 : decode b_K_count 23 = .ok (.invokestatic 183, 3) := by decide +kernel
theorem d_K_count_26 : decode b_K_count 26 = .ok (.ireturn, 1) := by decide +kernel
theorem d_K_count_27 : decode b_K_count 27 = .ok (.iload_n 1, 1) := by decide +kernel
theorem d_K_count_28 : decode b_K_count 28 = .ok (.bipush 20, 2) := by decide +kernel
theorem d_K_count_30 : decode b_K_count 30 = .ok (.bipush 8, 2) := by decide +kernel
theorem d_K_count_32 : decode b_K_count 32 = .ok (.invokestatic 239, 3) := by decide +kernel
theorem d_K_count_35 : decode b_K_count 35 = .ok (.ifCond .eq 29, 3) := by decide +kernel
theorem d_K_count_38 : decode b_K_count 38 = .ok (.aload_n 0, 1) := by decide +kernel
theorem d_K_count_39 : decode b_K_count 39 = .ok (.getfield 43, 3) := by decide +kernel
theorem d_K_count_42 : decode b_K_count 42 = .ok (.iload_n 1, 1) := by decide +kernel
theorem d_K_count_43 : decode b_K_count 43 = .ok (.bipush 20, 2) := by decide +kernel
theorem d_K_count_45 : decode b_K_count 45 = .ok (.isub, 1) := by decide +kernel
theorem d_K_count_46 : decode b_K_count 46 = .ok (.aaload, 1) := by decide +kernel
theorem d_K_count_47 : decode b_K_count 47 = .ok (.astore_n 2, 1) := by decide +kernel
theorem d_K_count_48 : decode b_K_count 48 = .ok (.aload_n 2, 1) := by decide +kernel
theorem d_K_count_49 : decode b_K_count 49 = .ok (.getfield 163, 3) := by decide +kernel
theorem d_K_count_52 : decode b_K_count 52 = .ok (.ifCond .eq 10, 3) := by decide +kernel
theorem d_K_count_55 : decode b_K_count 55 = .ok (.aload_n 2, 1) := by decide +kernel
theorem d_K_count_56 : decode b_K_count 56 = .ok (.getfield 166, 3) := by decide +kernel
theorem d_K_count_59 : decode b_K_count 59 = .ok (.goto 4, 3) := by decide +kernel
theorem d_K_count_62 : decode b_K_count 62 = .ok (.iconst (-1), 1) := by decide +kernel
theorem d_K_count_63 : decode b_K_count 63 = .ok (.ireturn, 1) := by decide +kernel
theorem d_K_count_64 : decode b_K_count 64 = .ok (.iload_n 1, 1) := by decide +kernel
theorem d_K_count_65 : decode b_K_count 65 = .ok (.bipush 30, 2) := by decide +kernel
theorem d_K_count_67 : decode b_K_count 67 = .ok (.iconst 5, 1) := by decide +kernel
theorem d_K_count_68 : decode b_K_count 68 = .ok (.invokestatic 239, 3) := by decide +kernel
theorem d_K_count_71 : decode b_K_count 71 = .ok (.ifCond .eq 30, 3) := by decide +kernel
theorem d_K_count_74 : decode b_K_count 74 = .ok (.iload_n 1, 1) := by decide +kernel
theorem d_K_count_75 : decode b_K_count 75 = .ok (.bipush 30, 2) := by decide +kernel
theorem d_K_count_77 : decode b_K_count 77 = .ok (.isub, 1) := by decide +kernel
theorem d_K_count_78 : decode b_K_count 78 = .ok (.istore_n 2, 1) := by decide +kernel
theorem d_K_count_79 : decode b_K_count 79 = .ok (.iload_n 2, 1) := by decide +kernel
theorem d_K_count_80 : decode b_K_count 80 = .ok (.aload_n 0, 1) := by decide +kernel
theorem d_K_count_81 : decode b_K_count 81 = .ok (.getfield 38, 3) := by decide +kernel
theorem d_K_count_84 : decode b_K_count 84 = .ok (.if_icmp .ge 15, 3) := by decide +kernel
theorem d_K_count_87 : decode b_K_count 87 = .ok (.aload_n 0, 1) := by decide +kernel
theorem d_K_count_88 : decode b_K_count 88 = .ok (.getfield 34, 3) := by decide +kernel
theorem d_K_count_91 : decode b_K_count 91 = .ok (.iload_n 2, 1) := by decide +kernel
theorem d_K_count_92 : decode b_K_count 92 = .ok (.aaload, 1) := by decide +kernel
theorem d_K_count_93 : decode b_K_count 93 = .ok (.getfield 274, 3) := by decide +kernel
theorem d_K_count_96 : decode b_K_count 96 = .ok (.goto 4, 3) := by decide +kernel
theorem d_K_count_99 : decode b_K_count 99 = .ok (.iconst (-1), 1) := by decide +kernel
theorem d_K_count_100 : decode b_K_count 100 = .ok (.ireturn, 1) := by decide +kernel
theorem d_K_count_101 : decode b_K_count 101 = .ok (.iload_n 1, 1) := by decide +kernel
theorem d_K_count_102 : decode b_K_count 102 = .ok (.tableswitch 71 0 5 #[38, 43, 48, 53, 58, 63], 38) := by decide +kernel
theorem d_K_count_140 : decode b_K_count 140 = .ok (.aload_n 0, 1) := by decide +kernel
theorem d_K_count_141 : decode b_K_count 141 = .ok (.getfield 38, 3) := by decide +kernel
theorem d_K_count_144 : decode b_K_count 144 = .ok (.ireturn, 1) := by decide +kernel
theorem d_K_count_145 : decode b_K_count 145 = .ok (.aload_n 0, 1) := by decide +kernel
theorem d_K_count_146 : decode b_K_count 146 = .ok (.getfield 29, 3) := by decide +kernel
theorem d_K_count_149 : decode b_K_count 149 = .ok (.ireturn, 1) := by decide +kernel
theorem d_K_count_150 : decode b_K_count 150 = .ok (.aload_n 0, 1) := by decide +kernel
theorem d_K_count_151 : decode b_K_count 151 = .ok (.invokevirtual 277, 3) := by decide +kernel
theorem d_K_count_154 : decode b_K_count 154 = .ok (.ireturn, 1) := by decide +kernel
theorem d_K_count_155 : decode b_K_count 155 = .ok (.aload_n 0, 1) := by decide +kernel
theorem d_K_count_156 : decode b_K_count 156 = .ok (.getfield 56, 3) := by decide +kernel
theorem d_K_count_159 : decode b_K_count 159 = .ok (.ireturn, 1) := by decide +kernel
theorem d_K_count_160 : decode b_K_count 160 = .ok (.aload_n 0, 1) := by decide +kernel
theorem d_K_count_161 : decode b_K_count 161 = .ok (.invokevirtual 280, 3) := by decide +kernel
theorem d_K_count_164 : decode b_K_count 164 = .ok (.ireturn, 1) := by decide +kernel
theorem d_K_count_165 : decode b_K_count 165 = .ok (.aload_n 0, 1) := by decide +kernel
theorem d_K_count_166 : decode b_K_count 166 = .ok (.getfield 62, 3) := by decide +kernel
theorem d_K_count_169 : decode b_K_count 169 = .ok (.getfield 283, 3) := by decide +kernel
theorem d_K_count_172 : decode b_K_count 172 = .ok (.ireturn, 1) := by decide +kernel
theorem d_K_count_173 : decode b_K_count 173 = .ok (.new 75, 3) := by decide +kernel
theorem d_K_count_176 : decode b_K_count 176 = .ok (.dup, 1) := by decide +kernel
theorem d_K_count_177 : decode b_K_count 177 = .ok (.ldc 233, 2) := by decide +kernel
theorem d_K_count_179 : decode b_K_count 179 = .ok (.invokespecial 79, 3) := by decide +kernel
theorem d_K_count_182 : decode b_K_count 182 = .ok (.athrow, 1) := by decide +kernel
theorem d_K_isWithin_0 : decode b_K_isWithin 0 = .ok (.iload_n 0, 1) := by decide +kernel
theorem d_K_isWithin_1 : decode b_K_isWithin 1 = .ok (.iload_n 1, 1) := by decide +kernel
theorem d_K_isWithin_2 : decode b_K_isWithin 2 = .ok (.if_icmp .lt 14, 3) := by decide +kernel
theorem d_K_isWithin_5 : decode b_K_isWithin 5 = .ok (.iload_n 0, 1) := by decide +kernel
theorem d_K_isWithin_6 : decode b_K_isWithin 6 = .ok (.iload_n 1, 1) := by decide +kernel
theorem d_K_isWithin_7 : decode b_K_isWithin 7 = .ok (.iload_n 2, 1) := by decide +kernel
theorem d_K_isWithin_8 : decode b_K_isWithin 8 = .ok (.iadd, 1) := by decide +kernel
theorem d_K_isWithin_9 : decode b_K_isWithin 9 = .ok (.if_icmp .ge 7, 3) := by decide +kernel
theorem d_K_isWithin_12 : decode b_K_isWithin 12 = .ok (.iconst 1, 1) := by decide +kernel
theorem d_K_isWithin_13 : decode b_K_isWithin 13 = .ok (.goto 4, 3) := by decide +kernel
theorem d_K_isWithin_16 : decode b_K_isWithin 16 = .ok (.iconst 0, 1) := by decide +kernel
theorem d_K_isWithin_17 : decode b_K_isWithin 17 = .ok (.ireturn, 1) := by decide +kernel
theorem d_K_isScript_0 : decode b_K_isScript 0 = .ok (.iload_n 0, 1) := by decide +kernel
theorem d_K_isScript_1 : decode b_K_isScript 1 = .ok (.ifCond .lt 12, 3) := by decide +kernel
theorem d_K_isScript_4 : decode b_K_isScript 4 = .ok (.iload_n 0, 1) := by decide +kernel
theorem d_K_isScript_5 : decode b_K_isScript 5 = .ok (.iconst 4, 1) := by decide +kernel
theorem d_K_isScript_6 : decode b_K_isScript 6 = .ok (.if_icmp .ge 7, 3) := by decide +kernel
theorem d_K_isScript_9 : decode b_K_isScript 9 = .ok (.iconst 1, 1) := by decide +kernel
theorem d_K_isScript_10 : decode b_K_isScript 10 = .ok (.goto 4, 3) := by decide +kernel
theorem d_K_isScript_13 : decode b_K_isScript 13 = .ok (.iconst 0, 1) := by decide +kernel
theorem d_K_isScript_14 : decode b_K_isScript 14 = .ok (.ireturn, 1) := by decide +kernel
theorem d_K_isPath_0 : decode b_K_isPath 0 = .ok (.iload_n 0, 1) := by decide +kernel
theorem d_K_isPath_1 : decode b_K_isPath 1 = .ok (.ifCond .lt 10, 3) := by decide +kernel
theorem d_K_isPath_4 : decode b_K_isPath 4 = .ok (.iload_n 0, 1) := by decide +kernel
theorem d_K_isPath_5 : decode b_K_isPath 5 = .ok (.ldc_w 286, 3) := by decide +kernel
theorem d_K_isPath_8 : decode b_K_isPath 8 = .ok (.if_icmp .le 5, 3) := by decide +kernel
theorem d_K_isPath_11 : decode b_K_isPath 11 = .ok (.iconst 0, 1) := by decide +kernel
theorem d_K_isPath_12 : decode b_K_isPath 12 = .ok (.ireturn, 1) := by decide +kernel
theorem d_K_isPath_13 : decode b_K_isPath 13 = .ok (.iload_n 0, 1) := by decide +kernel
theorem d_K_isPath_14 : decode b_K_isPath 14 = .ok (.istore_n 1, 1) := by decide +kernel
theorem d_K_isPath_15 : decode b_K_isPath 15 = .ok (.iconst 0, 1) := by decide +kernel
theorem d_K_isPath_16 : decode b_K_isPath 16 = .ok (.istore_n 2, 1) := by decide +kernel
theorem d_K_isPath_17 : decode b_K_isPath 17 = .ok (.iload_n 2, 1) := by decide +kernel
theorem d_K_isPath_18 : decode b_K_isPath 18 = .ok (.iconst 4, 1) := by decide +kernel
theorem d_K_isPath_19 : decode b_K_isPath 19 = .ok (.if_icmp .ge 27, 3) := by decide +kernel
theorem d_K_isPath_22 : decode b_K_isPath 22 = .ok (.iload_n 1, 1) := by decide +kernel
theorem d_K_isPath_23 : decode b_K_isPath 23 = .ok (.ifCond .le 23, 3) := by decide +kernel
theorem d_K_isPath_26 : decode b_K_isPath 26 = .ok (.iload_n 1, 1) := by decide +kernel
theorem d_K_isPath_27 : decode b_K_isPath 27 = .ok (.bipush 27, 2) := by decide +kernel
theorem d_K_isPath_29 : decode b_K_isPath 29 = .ok (.irem, 1) := by decide +kernel
theorem d_K_isPath_30 : decode b_K_isPath 30 = .ok (.ifCond .ne 5, 3) := by decide +kernel
theorem d_K_isPath_33 : decode b_K_isPath 33 = .ok (.iconst 0, 1) := by decide +kernel
theorem d_K_isPath_34 : decode b_K_isPath 34 = .ok (.ireturn, 1) := by decide +kernel
theorem d_K_isPath_35 : decode b_K_isPath 35 = .ok (.iload_n 1, 1) := by decide +kernel
theorem d_K_isPath_36 : decode b_K_isPath 36 = .ok (.bipush 27, 2) := by decide +kernel
theorem d_K_isPath_38 : decode b_K_isPath 38 = .ok (.idiv, 1) := by decide +kernel
theorem d_K_isPath_39 : decode b_K_isPath 39 = .ok (.istore_n 1, 1) := by decide +kernel
theorem d_K_isPath_40 : decode b_K_isPath 40 = .ok (.iinc 2 1, 3) := by decide +kernel
theorem d_K_isPath_43 : decode b_K_isPath 43 = .ok (.goto (-26), 3) := by decide +kernel
theorem d_K_isPath_46 : decode b_K_isPath 46 = .ok (.iconst 1, 1) := by decide +kernel
theorem d_K_isPath_47 : decode b_K_isPath 47 = .ok (.ireturn, 1) := by decide +kernel
theorem d_K_begins_0 : decode b_K_begins 0 = .ok (.iload_n 0, 1) := by decide +kernel
theorem d_K_begins_1 : decode b_K_begins 1 = .ok (.istore_n 2, 1) := by decide +kernel
theorem d_K_begins_2 : decode b_K_begins 2 = .ok (.iload_n 1, 1) := by decide +kernel
theorem d_K_begins_3 : decode b_K_begins 3 = .ok (.istore_n 3, 1) := by decide +kernel
theorem d_K_begins_4 : decode b_K_begins 4 = .ok (.iconst 0, 1) := by decide +kernel
theorem d_K_begins_5 : decode b_K_begins 5 = .ok (.istore 4, 2) := by decide +kernel
theorem d_K_begins_7 : decode b_K_begins 7 = .ok (.iload 4, 2) := by decide +kernel
theorem d_K_begins_9 : decode b_K_begins 9 = .ok (.iconst 4, 1) := by decide +kernel
theorem d_K_begins_10 : decode b_K_begins 10 = .ok (.if_icmp .ge 36, 3) := by decide +kernel
theorem d_K_begins_13 : decode b_K_begins 13 = .ok (.iload_n 2, 1) := by decide +kernel
theorem d_K_begins_14 : decode b_K_begins 14 = .ok (.ifCond .le 32, 3) := by decide +kernel
theorem d_K_begins_17 : decode b_K_begins 17 = .ok (.iload_n 2, 1) := by decide +kernel
theorem d_K_begins_18 : decode b_K_begins 18 = .ok (.bipush 27, 2) := by decide +kernel
theorem d_K_begins_20 : decode b_K_begins 20 = .ok (.irem, 1) := by decide +kernel
theorem d_K_begins_21 : decode b_K_begins 21 = .ok (.iload_n 3, 1) := by decide +kernel
theorem d_K_begins_22 : decode b_K_begins 22 = .ok (.bipush 27, 2) := by decide +kernel
theorem d_K_begins_24 : decode b_K_begins 24 = .ok (.irem, 1) := by decide +kernel
theorem d_K_begins_25 : decode b_K_begins 25 = .ok (.if_icmp .eq 5, 3) := by decide +kernel
theorem d_K_begins_28 : decode b_K_begins 28 = .ok (.iconst 0, 1) := by decide +kernel
theorem d_K_begins_29 : decode b_K_begins 29 = .ok (.ireturn, 1) := by decide +kernel
theorem d_K_begins_30 : decode b_K_begins 30 = .ok (.iload_n 2, 1) := by decide +kernel
theorem d_K_begins_31 : decode b_K_begins 31 = .ok (.bipush 27, 2) := by decide +kernel
theorem d_K_begins_33 : decode b_K_begins 33 = .ok (.idiv, 1) := by decide +kernel
theorem d_K_begins_34 : decode b_K_begins 34 = .ok (.istore_n 2, 1) := by decide +kernel
theorem d_K_begins_35 : decode b_K_begins 35 = .ok (.iload_n 3, 1) := by decide +kernel
theorem d_K_begins_36 : decode b_K_begins 36 = .ok (.bipush 27, 2) := by decide +kernel
theorem d_K_begins_38 : decode b_K_begins 38 = .ok (.idiv, 1) := by decide +kernel
theorem d_K_begins_39 : decode b_K_begins 39 = .ok (.istore_n 3, 1) := by decide +kernel
theorem d_K_begins_40 : decode b_K_begins 40 = .ok (.iinc 4 1, 3) := by decide +kernel
theorem d_K_begins_43 : decode b_K_begins 43 = .ok (.goto (-36), 3) := by decide +kernel
theorem d_K_begins_46 : decode b_K_begins 46 = .ok (.iconst 1, 1) := by decide +kernel
theorem d_K_begins_47 : decode b_K_begins 47 = .ok (.ireturn, 1) := by decide +kernel
theorem d_K_refuseNoPath_0 : decode b_K_refuseNoPath 0 = .ok (.iload_n 0, 1) := by decide +kernel
theorem d_K_refuseNoPath_1 : decode b_K_refuseNoPath 1 = .ok (.invokestatic 72, 3) := by decide +kernel
theorem d_K_refuseNoPath_4 : decode b_K_refuseNoPath 4 = .ok (.ifCond .ne 14, 3) := by decide +kernel
theorem d_K_refuseNoPath_7 : decode b_K_refuseNoPath 7 = .ok (.new 75, 3) := by decide +kernel
theorem d_K_refuseNoPath_10 : decode b_K_refuseNoPath 10 = .ok (.dup, 1) := by decide +kernel
theorem d_K_refuseNoPath_11 : decode b_K_refuseNoPath 11 = .ok (.ldc_w 287, 3) := by decide +kernel
theorem d_K_refuseNoPath_14 : decode b_K_refuseNoPath 14 = .ok (.invokespecial 79, 3) := by decide +kernel
theorem d_K_refuseNoPath_17 : decode b_K_refuseNoPath 17 = .ok (.athrow, 1) := by decide +kernel
theorem d_K_refuseNoPath_18 : decode b_K_refuseNoPath 18 = .ok (.return_, 1) := by decide +kernel
theorem d_K_refuseNoClient_0 : decode b_K_refuseNoClient 0 = .ok (.iload_n 1, 1) := by decide +kernel
theorem d_K_refuseNoClient_1 : decode b_K_refuseNoClient 1 = .ok (.ifCond .lt 21, 3) := by decide +kernel
theorem d_K_refuseNoClient_4 : decode b_K_refuseNoClient 4 = .ok (.iload_n 1, 1) := by decide +kernel
theorem d_K_refuseNoClient_5 : decode b_K_refuseNoClient 5 = .ok (.bipush 8, 2) := by decide +kernel
theorem d_K_refuseNoClient_7 : decode b_K_refuseNoClient 7 = .ok (.if_icmp .ge 15, 3) := by decide +kernel
theorem d_K_refuseNoClient_10 : decode b_K_refuseNoClient 10 = .ok (.aload_n 0, 1) := by decide +kernel
theorem d_K_refuseNoClient_11 : decode b_K_refuseNoClient 11 = .ok (.getfield 43, 3) := by decide +kernel
theorem d_K_refuseNoClient_14 : decode b_K_refuseNoClient 14 = .ok (.iload_n 1, 1) := by decide +kernel
theorem d_K_refuseNoClient_15 : decode b_K_refuseNoClient 15 = .ok (.aaload, 1) := by decide +kernel
theorem d_K_refuseNoClient_16 : decode b_K_refuseNoClient 16 = .ok (.getfield 163, 3) := by decide +kernel
theorem d_K_refuseNoClient_19 : decode b_K_refuseNoClient 19 = .ok (.ifCond .ne 14, 3) := by decide +kernel
theorem d_K_refuseNoClient_22 : decode b_K_refuseNoClient 22 = .ok (.new 135, 3) := by decide +kernel
theorem d_K_refuseNoClient_25 : decode b_K_refuseNoClient 25 = .ok (.dup, 1) := by decide +kernel
theorem d_K_refuseNoClient_26 : decode b_K_refuseNoClient 26 = .ok (.ldc_w 289, 3) := by decide +kernel
theorem d_K_refuseNoClient_29 : decode b_K_refuseNoClient 29 = .ok (.invokespecial 139, 3) := by decide +kernel
theorem d_K_refuseNoClient_32 : decode b_K_refuseNoClient 32 = .ok (.athrow, 1) := by decide +kernel
theorem d_K_refuseNoClient_33 : decode b_K_refuseNoClient 33 = .ok (.return_, 1) := by decide +kernel
