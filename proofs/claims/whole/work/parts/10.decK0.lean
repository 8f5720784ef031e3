theorem d_K_init_0 : decode b_K_init 0 = .ok (.aload_n 0, 1) := by decide +kernel
theorem d_K_init_1 : decode b_K_init 1 = .ok (.invokespecial 1, 3) := by decide +kernel
theorem d_K_init_4 : decode b_K_init 4 = .ok (.aload_n 0, 1) := by decide +kernel
theorem d_K_init_5 : decode b_K_init 5 = .ok (.iconst 4, 1) := by decide +kernel
theorem d_K_init_6 : decode b_K_init 6 = .ok (.anewarray 9, 3) := by decide +kernel
theorem d_K_init_9 : decode b_K_init 9 = .ok (.putfield 11, 3) := by decide +kernel
theorem d_K_init_12 : decode b_K_init 12 = .ok (.aload_n 0, 1) := by decide +kernel
theorem d_K_init_13 : decode b_K_init 13 = .ok (.iconst 1, 1) := by decide +kernel
theorem d_K_init_14 : decode b_K_init 14 = .ok (.putfield 15, 3) := by decide +kernel
theorem d_K_init_17 : decode b_K_init 17 = .ok (.aload_n 0, 1) := by decide +kernel
theorem d_K_init_18 : decode b_K_init 18 = .ok (.iconst 0, 1) := by decide +kernel
theorem d_K_init_19 : decode b_K_init 19 = .ok (.putfield 19, 3) := by decide +kernel
theorem d_K_init_22 : decode b_K_init 22 = .ok (.aload_n 0, 1) := by decide +kernel
theorem d_K_init_23 : decode b_K_init 23 = .ok (.bipush 40, 2) := by decide +kernel
theorem d_K_init_25 : decode b_K_init 25 = .ok (.anewarray 23, 3) := by decide +kernel
theorem d_K_init_28 : decode b_K_init 28 = .ok (.putfield 25, 3) := by decide +kernel
theorem d_K_init_31 : decode b_K_init 31 = .ok (.aload_n 0, 1) := by decide +kernel
theorem d_K_init_32 : decode b_K_init 32 = .ok (.iconst 0, 1) := by decide +kernel
theorem d_K_init_33 : decode b_K_init 33 = .ok (.putfield 29, 3) := by decide +kernel
theorem d_K_init_36 : decode b_K_init 36 = .ok (.aload_n 0, 1) := by decide +kernel
theorem d_K_init_37 : decode b_K_init 37 = .ok (.iconst 5, 1) := by decide +kernel
theorem d_K_init_38 : decode b_K_init 38 = .ok (.anewarray 32, 3) := by decide +kernel
theorem d_K_init_41 : decode b_K_init 41 = .ok (.putfield 34, 3) := by decide +kernel
theorem d_K_init_44 : decode b_K_init 44 = .ok (.aload_n 0, 1) := by decide +kernel
theorem d_K_init_45 : decode b_K_init 45 = .ok (.iconst 0, 1) := by decide +kernel
theorem d_K_init_46 : decode b_K_init 46 = .ok (.putfield 38, 3) := by decide +kernel
theorem d_K_init_49 : decode b_K_init 49 = .ok (.aload_n 0, 1) := by decide +kernel
theorem d_K_init_50 : decode b_K_init 50 = .ok (.bipush 8, 2) := by decide +kernel
theorem d_K_init_52 : decode b_K_init 52 = .ok (.anewarray 41, 3) := by decide +kernel
theorem d_K_init_55 : decode b_K_init 55 = .ok (.putfield 43, 3) := by decide +kernel
theorem d_K_init_58 : decode b_K_init 58 = .ok (.aload_n 0, 1) := by decide +kernel
theorem d_K_init_59 : decode b_K_init 59 = .ok (.bipush 8, 2) := by decide +kernel
theorem d_K_init_61 : decode b_K_init 61 = .ok (.anewarray 23, 3) := by decide +kernel
theorem d_K_init_64 : decode b_K_init 64 = .ok (.putfield 47, 3) := by decide +kernel
theorem d_K_init_67 : decode b_K_init 67 = .ok (.aload_n 0, 1) := by decide +kernel
theorem d_K_init_68 : decode b_K_init 68 = .ok (.bipush 60, 2) := by decide +kernel
theorem d_K_init_70 : decode b_K_init 70 = .ok (.anewarray 50, 3) := by decide +kernel
theorem d_K_init_73 : decode b_K_init 73 = .ok (.putfield 52, 3) := by decide +kernel
theorem d_K_init_76 : decode b_K_init 76 = .ok (.aload_n 0, 1) := by decide +kernel
theorem d_K_init_77 : decode b_K_init 77 = .ok (.iconst 0, 1) := by decide +kernel
theorem d_K_init_78 : decode b_K_init 78 = .ok (.putfield 56, 3) := by decide +kernel
theorem d_K_init_81 : decode b_K_init 81 = .ok (.aload_n 0, 1) := by decide +kernel
theorem d_K_init_82 : decode b_K_init 82 = .ok (.new 59, 3) := by decide +kernel
theorem d_K_init_85 : decode b_K_init 85 = .ok (.dup, 1) := by decide +kernel
theorem d_K_init_86 : decode b_K_init 86 = .ok (.invokespecial 61, 3) := by decide +kernel
theorem d_K_init_89 : decode b_K_init 89 = .ok (.putfield 62, 3) := by decide +kernel
theorem d_K_init_92 : decode b_K_init 92 = .ok (.iconst 0, 1) := by decide +kernel
theorem d_K_init_93 : decode b_K_init 93 = .ok (.istore_n 1, 1) := by decide +kernel
theorem d_K_init_94 : decode b_K_init 94 = .ok (.iload_n 1, 1) := by decide +kernel
theorem d_K_init_95 : decode b_K_init 95 = .ok (.iconst 4, 1) := by decide +kernel
theorem d_K_init_96 : decode b_K_init 96 = .ok (.if_icmp .ge 22, 3) := by decide +kernel
theorem d_K_init_99 : decode b_K_init 99 = .ok (.aload_n 0, 1) := by decide +kernel
theorem d_K_init_100 : decode b_K_init 100 = .ok (.getfield 11, 3) := by decide +kernel
theorem d_K_init_103 : decode b_K_init 103 = .ok (.iload_n 1, 1) := by decide +kernel
theorem d_K_init_104 : decode b_K_init 104 = .ok (.new 9, 3) := by decide +kernel
theorem d_K_init_107 : decode b_K_init 107 = .ok (.dup, 1) := by decide +kernel
theorem d_K_init_108 : decode b_K_init 108 = .ok (.invokespecial 66, 3) := by decide +kernel
theorem d_K_init_111 : decode b_K_init 111 = .ok (.aastore, 1) := by decide +kernel
theorem d_K_init_112 : decode b_K_init 112 = .ok (.iinc 1 1, 3) := by decide +kernel
theorem d_K_init_115 : decode b_K_init 115 = .ok (.goto (-21), 3) := by decide +kernel
theorem d_K_init_118 : decode b_K_init 118 = .ok (.iconst 0, 1) := by decide +kernel
theorem d_K_init_119 : decode b_K_init 119 = .ok (.istore_n 1, 1) := by decide +kernel
theorem d_K_init_120 : decode b_K_init 120 = .ok (.iload_n 1, 1) := by decide +kernel
theorem d_K_init_121 : decode b_K_init 121 = .ok (.bipush 8, 2) := by decide +kernel
theorem d_K_init_123 : decode b_K_init 123 = .ok (.if_icmp .ge 22, 3) := by decide +kernel
theorem d_K_init_126 : decode b_K_init 126 = .ok (.aload_n 0, 1) := by decide +kernel
theorem d_K_init_127 : decode b_K_init 127 = .ok (.getfield 43, 3) := by decide +kernel
theorem d_K_init_130 : decode b_K_init 130 = .ok (.iload_n 1, 1) := by decide +kernel
theorem d_K_init_131 : decode b_K_init 131 = .ok (.new 41, 3) := by decide +kernel
theorem d_K_init_134 : decode b_K_init 134 = .ok (.dup, 1) := by decide +kernel
theorem d_K_init_135 : decode b_K_init 135 = .ok (.invokespecial 67, 3) := by decide +kernel
theorem d_K_init_138 : decode b_K_init 138 = .ok (.aastore, 1) := by decide +kernel
theorem d_K_init_139 : decode b_K_init 139 = .ok (.iinc 1 1, 3) := by decide +kernel
theorem d_K_init_142 : decode b_K_init 142 = .ok (.goto (-22), 3) := by decide +kernel
theorem d_K_init_145 : decode b_K_init 145 = .ok (.return_, 1) := by decide +kernel
theorem d_K_serve_0 : decode b_K_serve 0 = .ok (.iload_n 1, 1) := by decide +kernel
theorem d_K_serve_1 : decode b_K_serve 1 = .ok (.invokestatic 68, 3) := by decide +kernel
theorem d_K_serve_4 : decode b_K_serve 4 = .ok (.ifCond .eq 10, 3) := by decide +kernel
theorem d_K_serve_7 : decode b_K_serve 7 = .ok (.iload_n 3, 1) := by decide +kernel
theorem d_K_serve_8 : decode b_K_serve 8 = .ok (.invokestatic 72, 3) := by decide +kernel
theorem d_K_serve_11 : decode b_K_serve 11 = .ok (.ifCond .ne 13, 3) := by decide +kernel
theorem d_K_serve_14 : decode b_K_serve 14 = .ok (.new 75, 3) := by decide +kernel
theorem d_K_serve_17 : decode b_K_serve 17 = .ok (.dup, 1) := by decide +kernel
theorem d_K_serve_18 : decode b_K_serve 18 = .ok (.ldc 77, 2) := by decide +kernel
theorem d_K_serve_20 : decode b_K_serve 20 = .ok (.invokespecial 79, 3) := by decide +kernel
theorem d_K_serve_23 : decode b_K_serve 23 = .ok (.athrow, 1) := by decide +kernel
theorem d_K_serve_24 : decode b_K_serve 24 = .ok (.iload 4, 2) := by decide +kernel
theorem d_K_serve_26 : decode b_K_serve 26 = .ok (.ifCond .lt 20, 3) := by decide +kernel
theorem d_K_serve_29 : decode b_K_serve 29 = .ok (.iload 4, 2) := by decide +kernel
theorem d_K_serve_31 : decode b_K_serve 31 = .ok (.iconst 1, 1) := by decide +kernel
theorem d_K_serve_32 : decode b_K_serve 32 = .ok (.if_icmp .gt 14, 3) := by decide +kernel
theorem d_K_serve_35 : decode b_K_serve 35 = .ok (.iload 5, 2) := by decide +kernel
theorem d_K_serve_37 : decode b_K_serve 37 = .ok (.ifCond .lt 9, 3) := by decide +kernel
theorem d_K_serve_40 : decode b_K_serve 40 = .ok (.iload 5, 2) := by decide +kernel
theorem d_K_serve_42 : decode b_K_serve 42 = .ok (.iconst 3, 1) := by decide +kernel
theorem d_K_serve_43 : decode b_K_serve 43 = .ok (.if_icmp .le 13, 3) := by decide +kernel
theorem d_K_serve_46 : decode b_K_serve 46 = .ok (.new 75, 3) := by decide +kernel
theorem d_K_serve_49 : decode b_K_serve 49 = .ok (.dup, 1) := by decide +kernel
theorem d_K_serve_50 : decode b_K_serve 50 = .ok (.ldc 82, 2) := by decide +kernel
theorem d_K_serve_52 : decode b_K_serve 52 = .ok (.invokespecial 79, 3) := by decide +kernel
theorem d_K_serve_55 : decode b_K_serve 55 = .ok (.athrow, 1) := by decide +kernel
theorem d_K_serve_56 : decode b_K_serve 56 = .ok (.aload_n 0, 1) := by decide +kernel
theorem d_K_serve_57 : decode b_K_serve 57 = .ok (.getfield 11, 3) := by decide +kernel
theorem d_K_serve_60 : decode b_K_serve 60 = .ok (.iload_n 1, 1) := by decide +kernel
theorem d_K_serve_61 : decode b_K_serve 61 = .ok (.aaload, 1) := by decide +kernel
theorem d_K_serve_62 : decode b_K_serve 62 = .ok (.astore 6, 2) := by decide +kernel
theorem d_K_serve_64 : decode b_K_serve 64 = .ok (.aload 6, 2) := by decide +kernel
theorem d_K_serve_66 : decode b_K_serve 66 = .ok (.iload_n 2, 1) := by decide +kernel
theorem d_K_serve_67 : decode b_K_serve 67 = .ok (.putfield 84, 3) := by decide +kernel
theorem d_K_serve_70 : decode b_K_serve 70 = .ok (.aload 6, 2) := by decide +kernel
theorem d_K_serve_72 : decode b_K_serve 72 = .ok (.iload_n 3, 1) := by decide +kernel
theorem d_K_serve_73 : decode b_K_serve 73 = .ok (.putfield 87, 3) := by decide +kernel
theorem d_K_serve_76 : decode b_K_serve 76 = .ok (.aload 6, 2) := by decide +kernel
theorem d_K_serve_78 : decode b_K_serve 78 = .ok (.iload 4, 2) := by decide +kernel
theorem d_K_serve_80 : decode b_K_serve 80 = .ok (.putfield 90, 3) := by decide +kernel
theorem d_K_serve_83 : decode b_K_serve 83 = .ok (.aload 6, 2) := by decide +kernel
theorem d_K_serve_85 : decode b_K_serve 85 = .ok (.iload 5, 2) := by decide +kernel
theorem d_K_serve_87 : decode b_K_serve 87 = .ok (.putfield 93, 3) := by decide +kernel
theorem d_K_serve_90 : decode b_K_serve 90 = .ok (.return_, 1) := by decide +kernel
theorem d_K_network_0 : decode b_K_network 0 = .ok (.aload_n 0, 1) := by decide +kernel
theorem d_K_network_1 : decode b_K_network 1 = .ok (.getfield 15, 3) := by decide +kernel
theorem d_K_network_4 : decode b_K_network 4 = .ok (.istore_n 3, 1) := by decide +kernel
theorem d_K_network_5 : decode b_K_network 5 = .ok (.aload_n 0, 1) := by decide +kernel
theorem d_K_network_6 : decode b_K_network 6 = .ok (.iload_n 1, 1) := by decide +kernel
theorem d_K_network_7 : decode b_K_network 7 = .ok (.putfield 15, 3) := by decide +kernel
theorem d_K_network_10 : decode b_K_network 10 = .ok (.aload_n 0, 1) := by decide +kernel
theorem d_K_network_11 : decode b_K_network 11 = .ok (.iload_n 2, 1) := by decide +kernel
theorem d_K_network_12 : decode b_K_network 12 = .ok (.putfield 19, 3) := by decide +kernel
theorem d_K_network_15 : decode b_K_network 15 = .ok (.iload_n 3, 1) := by decide +kernel
theorem d_K_network_16 : decode b_K_network 16 = .ok (.ireturn, 1) := by decide +kernel
theorem d_K_job_0 : decode b_K_job 0 = .ok (.iload_n 1, 1) := by decide +kernel
theorem d_K_job_1 : decode b_K_job 1 = .ok (.ifCond .lt 8, 3) := by decide +kernel
theorem d_K_job_4 : decode b_K_job 4 = .ok (.iload_n 1, 1) := by decide +kernel
theorem d_K_job_5 : decode b_K_job 5 = .ok (.iconst 2, 1) := by decide +kernel
theorem d_K_job_6 : decode b_K_job 6 = .ok (.if_icmp .le 13, 3) := by decide +kernel
theorem d_K_job_9 : decode b_K_job 9 = .ok (.new 75, 3) := by decide +kernel
theorem d_K_job_12 : decode b_K_job 12 = .ok (.dup, 1) := by decide +kernel
theorem d_K_job_13 : decode b_K_job 13 = .ok (.ldc 96, 2) := by decide +kernel
theorem d_K_job_15 : decode b_K_job 15 = .ok (.invokespecial 79, 3) := by decide +kernel
theorem d_K_job_18 : decode b_K_job 18 = .ok (.athrow, 1) := by decide +kernel
theorem d_K_job_19 : decode b_K_job 19 = .ok (.iload_n 2, 1) := by decide +kernel
theorem d_K_job_20 : decode b_K_job 20 = .ok (.invokestatic 98, 3) := by decide +kernel
theorem d_K_job_23 : decode b_K_job 23 = .ok (.iload_n 1, 1) := by decide +kernel
theorem d_K_job_24 : decode b_K_job 24 = .ok (.ifCond .ne 20, 3) := by decide +kernel
theorem d_K_job_27 : decode b_K_job 27 = .ok (.iload_n 3, 1) := by decide +kernel
theorem d_K_job_28 : decode b_K_job 28 = .ok (.invokestatic 68, 3) := by decide +kernel
theorem d_K_job_31 : decode b_K_job 31 = .ok (.ifCond .ne 13, 3) := by decide +kernel
theorem d_K_job_34 : decode b_K_job 34 = .ok (.new 75, 3) := by decide +kernel
theorem d_K_job_37 : decode b_K_job 37 = .ok (.dup, 1) := by decide +kernel
theorem d_K_job_38 : decode b_K_job 38 = .ok (.ldc 102, 2) := by decide +kernel
theorem d_K_job_40 : decode b_K_job 40 = .ok (.invokespecial 79, 3) := by decide +kernel
theorem d_K_job_43 : decode b_K_job 43 = .ok (.athrow, 1) := by decide +kernel
theorem d_K_job_44 : decode b_K_job 44 = .ok (.iload_n 1, 1) := by decide +kernel
theorem d_K_job_45 : decode b_K_job 45 = .ok (.ifCond .ne 7, 3) := by decide +kernel
theorem d_K_job_48 : decode b_K_job 48 = .ok (.iload_n 3, 1) := by decide +kernel
theorem d_K_job_49 : decode b_K_job 49 = .ok (.goto 4, 3) := by decide +kernel
theorem d_K_job_52 : decode b_K_job 52 = .ok (.iconst 0, 1) := by decide +kernel
theorem d_K_job_53 : decode b_K_job 53 = .ok (.istore 4, 2) := by decide +kernel
theorem d_K_job_55 : decode b_K_job 55 = .ok (.aload_n 0, 1) := by decide +kernel
theorem d_K_job_56 : decode b_K_job 56 = .ok (.iload_n 2, 1) := by decide +kernel
theorem d_K_job_57 : decode b_K_job 57 = .ok (.invokevirtual 104, 3) := by decide +kernel
theorem d_K_job_60 : decode b_K_job 60 = .ok (.astore 5, 2) := by decide +kernel
theorem d_K_job_62 : decode b_K_job 62 = .ok (.aload 5, 2) := by decide +kernel
theorem d_K_job_64 : decode b_K_job 64 = .ok (.ifnull 36, 3) := by decide +kernel
theorem d_K_job_67 : decode b_K_job 67 = .ok (.aload 5, 2) := by decide +kernel
theorem d_K_job_69 : decode b_K_job 69 = .ok (.getfield 108, 3) := by decide +kernel
theorem d_K_job_72 : decode b_K_job 72 = .ok (.ifCond .ne 28, 3) := by decide +kernel
theorem d_K_job_75 : decode b_K_job 75 = .ok (.aload 5, 2) := by decide +kernel
theorem d_K_job_77 : decode b_K_job 77 = .ok (.getfield 111, 3) := by decide +kernel
theorem d_K_job_80 : decode b_K_job 80 = .ok (.iload_n 1, 1) := by decide +kernel
theorem d_K_job_81 : decode b_K_job 81 = .ok (.if_icmp .ne 19, 3) := by decide +kernel
theorem d_K_job_84 : decode b_K_job 84 = .ok (.aload 5, 2) := by decide +kernel
theorem d_K_job_86 : decode b_K_job 86 = .ok (.getfield 114, 3) := by decide +kernel
theorem d_K_job_89 : decode b_K_job 89 = .ok (.iload 4, 2) := by decide +kernel
theorem d_K_job_91 : decode b_K_job 91 = .ok (.if_icmp .ne 9, 3) := by decide +kernel
theorem d_K_job_94 : decode b_K_job 94 = .ok (.aload 5, 2) := by decide +kernel
theorem d_K_job_96 : decode b_K_job 96 = .ok (.getfield 117, 3) := by decide +kernel
theorem d_K_job_99 : decode b_K_job 99 = .ok (.ireturn, 1) := by decide +kernel
theorem d_K_job_100 : decode b_K_job 100 = .ok (.aload_n 0, 1) := by decide +kernel
theorem d_K_job_101 : decode b_K_job 101 = .ok (.iload_n 2, 1) := by decide +kernel
theorem d_K_job_102 : decode b_K_job 102 = .ok (.invokevirtual 120, 3) := by decide +kernel
theorem d_K_job_105 : decode b_K_job 105 = .ok (.iconst 4, 1) := by decide +kernel
theorem d_K_job_106 : decode b_K_job 106 = .ok (.if_icmp .ge 12, 3) := by decide +kernel
theorem d_K_job_109 : decode b_K_job 109 = .ok (.aload_n 0, 1) := by decide +kernel
theorem d_K_job_110 : decode b_K_job 110 = .ok (.getfield 56, 3) := by decide +kernel
theorem d_K_job_113 : decode b_K_job 113 = .ok (.bipush 60, 2) := by decide +kernel
theorem d_K_job_115 : decode b_K_job 115 = .ok (.if_icmp .lt 13, 3) := by decide +kernel
theorem d_K_job_118 : decode b_K_job 118 = .ok (.new 124, 3) := by decide +kernel
theorem d_K_job_121 : decode b_K_job 121 = .ok (.dup, 1) := by decide +kernel
theorem d_K_job_122 : decode b_K_job 122 = .ok (.ldc 126, 2) := by decide +kernel
theorem d_K_job_124 : decode b_K_job 124 = .ok (.invokespecial 128, 3) := by decide +kernel
theorem d_K_job_127 : decode b_K_job 127 = .ok (.athrow, 1) := by decide +kernel
theorem d_K_job_128 : decode b_K_job 128 = .ok (.new 50, 3) := by decide +kernel
theorem d_K_job_131 : decode b_K_job 131 = .ok (.dup, 1) := by decide +kernel
theorem d_K_job_132 : decode b_K_job 132 = .ok (.aload_n 0, 1) := by decide +kernel
theorem d_K_job_133 : decode b_K_job 133 = .ok (.getfield 56, 3) := by decide +kernel
theorem d_K_job_136 : decode b_K_job 136 = .ok (.iload_n 1, 1) := by decide +kernel
theorem d_K_job_137 : decode b_K_job 137 = .ok (.iload_n 2, 1) := by decide +kernel
theorem d_K_job_138 : decode b_K_job 138 = .ok (.iload 4, 2) := by decide +kernel
theorem d_K_job_140 : decode b_K_job 140 = .ok (.invokespecial 129, 3) := by decide +kernel
theorem d_K_job_143 : decode b_K_job 143 = .ok (.astore 6, 2) := by decide +kernel
theorem d_K_job_145 : decode b_K_job 145 = .ok (.aload_n 0, 1) := by decide +kernel
theorem d_K_job_146 : decode b_K_job 146 = .ok (.getfield 52, 3) := by decide +kernel
theorem d_K_job_149 : decode b_K_job 149 = .ok (.aload_n 0, 1) := by decide +kernel
theorem d_K_job_150 : decode b_K_job 150 = .ok (.getfield 56, 3) := by decide +kernel
theorem d_K_job_153 : decode b_K_job 153 = .ok (.aload 6, 2) := by decide +kernel
theorem d_K_job_155 : decode b_K_job 155 = .ok (.aastore, 1) := by decide +kernel
theorem d_K_job_156 : decode b_K_job 156 = .ok (.aload_n 0, 1) := by decide +kernel
theorem d_K_job_157 : decode b_K_job 157 = .ok (.dup, 1) := by decide +kernel
theorem d_K_job_158 : decode b_K_job 158 = .ok (.getfield 56, 3) := by decide +kernel
theorem d_K_job_161 : decode b_K_job 161 = .ok (.iconst 1, 1) := by decide +kernel
theorem d_K_job_162 : decode b_K_job 162 = .ok (.iadd, 1) := by decide +kernel
theorem d_K_job_163 : decode b_K_job 163 = .ok (.putfield 56, 3) := by decide +kernel
theorem d_K_job_166 : decode b_K_job 166 = .ok (.aload 6, 2) := by decide +kernel
theorem d_K_job_168 : decode b_K_job 168 = .ok (.getfield 117, 3) := by decide +kernel
theorem d_K_job_171 : decode b_K_job 171 = .ok (.ireturn, 1) := by decide +kernel
theorem d_K_step_0 : decode b_K_step 0 = .ok (.iload_n 1, 1) := by decide +kernel
theorem d_K_step_1 : decode b_K_step 1 = .ok (.invokestatic 98, 3) := by decide +kernel
theorem d_K_step_4 : decode b_K_step 4 = .ok (.aload_n 0, 1) := by decide +kernel
theorem d_K_step_5 : decode b_K_step 5 = .ok (.iload_n 1, 1) := by decide +kernel
theorem d_K_step_6 : decode b_K_step 6 = .ok (.invokevirtual 132, 3) := by decide +kernel
theorem d_K_step_9 : decode b_K_step 9 = .ok (.astore_n 2, 1) := by decide +kernel
theorem d_K_step_10 : decode b_K_step 10 = .ok (.aload_n 2, 1) := by decide +kernel
theorem d_K_step_11 : decode b_K_step 11 = .ok (.ifnonnull 13, 3) := by decide +kernel
theorem d_K_step_14 : decode b_K_step 14 = .ok (.new 135, 3) := by decide +kernel
theorem d_K_step_17 : decode b_K_step 17 = .ok (.dup, 1) := by decide +kernel
theorem d_K_step_18 : decode b_K_step 18 = .ok (.ldc 137, 2) := by decide +kernel
theorem d_K_step_20 : decode b_K_step 20 = .ok (.invokespecial 139, 3) := by decide +kernel
theorem d_K_step_23 : decode b_K_step 23 = .ok (.athrow, 1) := by decide +kernel
theorem d_K_step_24 : decode b_K_step 24 = .ok (.aload_n 2, 1) := by decide +kernel
theorem d_K_step_25 : decode b_K_step 25 = .ok (.getfield 108, 3) := by decide +kernel
theorem d_K_step_28 : decode b_K_step 28 = .ok (.ifCond .eq 11, 3) := by decide +kernel
theorem d_K_step_31 : decode b_K_step 31 = .ok (.aload_n 0, 1) := by decide +kernel
theorem d_K_step_32 : decode b_K_step 32 = .ok (.iload_n 1, 1) := by decide +kernel
theorem d_K_step_33 : decode b_K_step 33 = .ok (.invokevirtual 140, 3) := by decide +kernel
theorem d_K_step_36 : decode b_K_step 36 = .ok (.goto 8, 3) := by decide +kernel
theorem d_K_step_39 : decode b_K_step 39 = .ok (.aload_n 0, 1) := by decide +kernel
theorem d_K_step_40 : decode b_K_step 40 = .ok (.aload_n 2, 1) := by decide +kernel
theorem d_K_step_41 : decode b_K_step 41 = .ok (.invokevirtual 143, 3) := by decide +kernel
theorem d_K_step_44 : decode b_K_step 44 = .ok (.istore_n 3, 1) := by decide +kernel
theorem d_K_step_45 : decode b_K_step 45 = .ok (.aload_n 2, 1) := by decide +kernel
theorem d_K_step_46 : decode b_K_step 46 = .ok (.iconst 1, 1) := by decide +kernel
theorem d_K_step_47 : decode b_K_step 47 = .ok (.putfield 108, 3) := by decide +kernel
theorem d_K_step_50 : decode b_K_step 50 = .ok (.iload_n 3, 1) := by decide +kernel
theorem d_K_step_51 : decode b_K_step 51 = .ok (.ifCond .eq 19, 3) := by decide +kernel
theorem d_K_step_54 : decode b_K_step 54 = .ok (.aload_n 2, 1) := by decide +kernel
theorem d_K_step_55 : decode b_K_step 55 = .ok (.iload_n 3, 1) := by decide +kernel
theorem d_K_step_56 : decode b_K_step 56 = .ok (.putfield 147, 3) := by decide +kernel
theorem d_K_step_59 : decode b_K_step 59 = .ok (.aload_n 0, 1) := by decide +kernel
theorem d_K_step_60 : decode b_K_step 60 = .ok (.getfield 62, 3) := by decide +kernel
theorem d_K_step_63 : decode b_K_step 63 = .ok (.aload_n 2, 1) := by decide +kernel
theorem d_K_step_64 : decode b_K_step 64 = .ok (.getfield 117, 3) := by decide +kernel
theorem d_K_step_67 : decode b_K_step 67 = .ok (.invokevirtual 150, 3) := by decide +kernel
theorem d_K_step_70 : decode b_K_step 70 = .ok (.aload_n 2, 1) := by decide +kernel
theorem d_K_step_71 : decode b_K_step 71 = .ok (.getfield 117, 3) := by decide +kernel
theorem d_K_step_74 : decode b_K_step 74 = .ok (.ireturn, 1) := by decide +kernel
theorem d_K_open_0 : decode b_K_open 0 = .ok (.iload_n 1, 1) := by decide +kernel
theorem d_K_open_1 : decode b_K_open 1 = .ok (.invokestatic 98, 3) := by decide +kernel
theorem d_K_open_4 : decode b_K_open 4 = .ok (.aload_n 0, 1) := by decide +kernel
theorem d_K_open_5 : decode b_K_open 5 = .ok (.invokevirtual 153, 3) := by decide +kernel
theorem d_K_open_8 : decode b_K_open 8 = .ok (.istore_n 2, 1) := by decide +kernel
theorem d_K_open_9 : decode b_K_open 9 = .ok (.iload_n 2, 1) := by decide +kernel
theorem d_K_open_10 : decode b_K_open 10 = .ok (.bipush 8, 2) := by decide +kernel
theorem d_K_open_12 : decode b_K_open 12 = .ok (.if_icmp .lt 13, 3) := by decide +kernel
theorem d_K_open_15 : decode b_K_open 15 = .ok (.new 124, 3) := by decide +kernel
theorem d_K_open_18 : decode b_K_open 18 = .ok (.dup, 1) := by decide +kernel
theorem d_K_open_19 : decode b_K_open 19 = .ok (.ldc 157, 2) := by decide +kernel
theorem d_K_open_21 : decode b_K_open 21 = .ok (.invokespecial 128, 3) := by decide +kernel
theorem d_K_open_24 : decode b_K_open 24 = .ok (.athrow, 1) := by decide +kernel
theorem d_K_open_25 : decode b_K_open 25 = .ok (.aload_n 0, 1) := by decide +kernel
theorem d_K_open_26 : decode b_K_open 26 = .ok (.iload_n 1, 1) := by decide +kernel
theorem d_K_open_27 : decode b_K_open 27 = .ok (.invokevirtual 159, 3) := by decide +kernel
theorem d_K_open_30 : decode b_K_open 30 = .ok (.astore_n 3, 1) := by decide +kernel
theorem d_K_open_31 : decode b_K_open 31 = .ok (.aload_n 0, 1) := by decide +kernel
theorem d_K_open_32 : decode b_K_open 32 = .ok (.getfield 43, 3) := by decide +kernel
theorem d_K_open_35 : decode b_K_open 35 = .ok (.iload_n 2, 1) := by decide +kernel
theorem d_K_open_36 : decode b_K_open 36 = .ok (.aaload, 1) := by decide +kernel
theorem d_K_open_37 : decode b_K_open 37 = .ok (.astore 4, 2) := by decide +kernel
theorem d_K_open_39 : decode b_K_open 39 = .ok (.aload 4, 2) := by decide +kernel
theorem d_K_open_41 : decode b_K_open 41 = .ok (.iconst 1, 1) := by decide +kernel
theorem d_K_open_42 : decode b_K_open 42 = .ok (.putfield 163, 3) := by decide +kernel
theorem d_K_open_45 : decode b_K_open 45 = .ok (.aload 4, 2) := by decide +kernel
theorem d_K_open_47 : decode b_K_open 47 = .ok (.iload_n 1, 1) := by decide +kernel
theorem d_K_open_48 : decode b_K_open 48 = .ok (.putfield 166, 3) := by decide +kernel
theorem d_K_open_51 : decode b_K_open 51 = .ok (.aload 4, 2) := by decide +kernel
theorem d_K_open_53 : decode b_K_open 53 = .ok (.aload_n 3, 1) := by decide +kernel
theorem d_K_open_54 : decode b_K_open 54 = .ok (.ifnonnull 7, 3) := by decide +kernel
theorem d_K_open_57 : decode b_K_open 57 = .ok (.aconst_null, 1) := by decide +kernel
theorem d_K_open_58 : decode b_K_open 58 = .ok (.goto 7, 3) := by decide +kernel
theorem d_K_open_61 : decode b_K_open 61 = .ok (.aload_n 3, 1) := by decide +kernel
theorem d_K_open_62 : decode b_K_open 62 = .ok (.getfield 169, 3) := by decide +kernel
theorem d_K_open_65 : decode b_K_open 65 = .ok (.putfield 173, 3) := by decide +kernel
theorem d_K_open_68 : decode b_K_open 68 = .ok (.iload_n 2, 1) := by decide +kernel
theorem d_K_open_69 : decode b_K_open 69 = .ok (.ireturn, 1) := by decide +kernel
theorem d_K_close_0 : decode b_K_close 0 = .ok (.aload_n 0, 1) := by decide +kernel
theorem d_K_close_1 : decode b_K_close 1 = .ok (.iload_n 1, 1) := by decide +kernel
theorem d_K_close_2 : decode b_K_close 2 = .ok (.invokevirtual 176, 3) := by decide +kernel
theorem d_K_close_5 : decode b_K_close 5 = .ok (.aload_n 0, 1) := by decide +kernel
theorem d_K_close_6 : decode b_K_close 6 = .ok (.getfield 43, 3) := by decide +kernel
theorem d_K_close_9 : decode b_K_close 9 = .ok (.iload_n 1, 1) := by decide +kernel
theorem d_K_close_10 : decode b_K_close 10 = .ok (.aaload, 1) := by decide +kernel
theorem d_K_close_11 : decode b_K_close 11 = .ok (.astore_n 2, 1) := by decide +kernel
theorem d_K_close_12 : decode b_K_close 12 = .ok (.aload_n 2, 1) := by decide +kernel
theorem d_K_close_13 : decode b_K_close 13 = .ok (.getfield 173, 3) := by decide +kernel
theorem d_K_close_16 : decode b_K_close 16 = .ok (.astore_n 3, 1) := by decide +kernel
theorem d_K_close_17 : decode b_K_close 17 = .ok (.aload_n 2, 1) := by decide +kernel
theorem d_K_close_18 : decode b_K_close 18 = .ok (.iconst 0, 1) := by decide +kernel
theorem d_K_close_19 : decode b_K_close 19 = .ok (.putfield 163, 3) := by decide +kernel
theorem d_K_close_22 : decode b_K_close 22 = .ok (.aload_n 2, 1) := by decide +kernel
theorem d_K_close_23 : decode b_K_close 23 = .ok (.aconst_null, 1) := by decide +kernel
theorem d_K_close_24 : decode b_K_close 24 = .ok (.putfield 173, 3) := by decide +kernel
theorem d_K_close_27 : decode b_K_close 27 = .ok (.aload_n 0, 1) := by decide +kernel
theorem d_K_close_28 : decode b_K_close 28 = .ok (.aload_n 3, 1) := by decide +kernel
theorem d_K_close_29 : decode b_K_close 29 = .ok (.invokevirtual 179, 3) := by decide +kernel
theorem d_K_close_32 : decode b_K_close 32 = .ok (.aload_n 3, 1) := by decide +kernel
theorem d_K_close_33 : decode b_K_close 33 = .ok (.invokestatic 183, 3) := by decide +kernel
theorem d_K_close_36 : decode b_K_close 36 = .ok (.ireturn, 1) := by decide +kernel
theorem d_K_claim_0 : decode b_K_claim 0 = .ok (.aload_n 0, 1) := by decide +kernel
theorem d_K_claim_1 : decode b_K_claim 1 = .ok (.iload_n 1, 1) := by decide +kernel
theorem d_K_claim_2 : decode b_K_claim 2 = .ok (.invokevirtual 187, 3) := by decide +kernel
theorem d_K_claim_5 : decode b_K_claim 5 = .ok (.astore_n 2, 1) := by decide +kernel
theorem d_K_claim_6 : decode b_K_claim 6 = .ok (.aload_n 2, 1) := by decide +kernel
theorem d_K_claim_7 : decode b_K_claim 7 = .ok (.getfield 169, 3) := by decide +kernel
theorem d_K_claim_10 : decode b_K_claim 10 = .ok (.ifnonnull 13, 3) := by decide +kernel
theorem d_K_claim_13 : decode b_K_claim 13 = .ok (.new 124, 3) := by decide +kernel
theorem d_K_claim_16 : decode b_K_claim 16 = .ok (.dup, 1) := by decide +kernel
theorem d_K_claim_17 : decode b_K_claim 17 = .ok (.ldc 190, 2) := by decide +kernel
theorem d_K_claim_19 : decode b_K_claim 19 = .ok (.invokespecial 128, 3) := by decide +kernel
theorem d_K_claim_22 : decode b_K_claim 22 = .ok (.athrow, 1) := by decide +kernel
theorem d_K_claim_23 : decode b_K_claim 23 = .ok (.iconst 0, 1) := by decide +kernel
theorem d_K_claim_24 : decode b_K_claim 24 = .ok (.istore_n 3, 1) := by decide +kernel
theorem d_K_claim_25 : decode b_K_claim 25 = .ok (.iconst 0, 1) := by decide +kernel
theorem d_K_claim_26 : decode b_K_claim 26 = .ok (.istore 4, 2) := by decide +kernel
theorem d_K_claim_28 : decode b_K_claim 28 = .ok (.iload 4, 2) := by decide +kernel
theorem d_K_claim_30 : decode b_K_claim 30 = .ok (.bipush 8, 2) := by decide +kernel
theorem d_K_claim_32 : decode b_K_claim 32 = .ok (.if_icmp .ge 75, 3) := by decide +kernel
theorem d_K_claim_35 : decode b_K_claim 35 = .ok (.aload_n 0, 1) := by decide +kernel
theorem d_K_claim_36 : decode b_K_claim 36 = .ok (.getfield 43, 3) := by decide +kernel
theorem d_K_claim_39 : decode b_K_claim 39 = .ok (.iload 4, 2) := by decide +kernel
theorem d_K_claim_41 : decode b_K_claim 41 = .ok (.aaload, 1) := by decide +kernel
theorem d_K_claim_42 : decode b_K_claim 42 = .ok (.astore 5, 2) := by decide +kernel
theorem d_K_claim_44 : decode b_K_claim 44 = .ok (.aload 5, 2) := by decide +kernel
theorem d_K_claim_46 : decode b_K_claim 46 = .ok (.getfield 163, 3) := by decide +kernel
theorem d_K_claim_49 : decode b_K_claim 49 = .ok (.ifCond .eq 52, 3) := by decide +kernel
theorem d_K_claim_52 : decode b_K_claim 52 = .ok (.aload 5, 2) := by decide +kernel
theorem d_K_claim_54 : decode b_K_claim 54 = .ok (.getfield 173, 3) := by decide +kernel
theorem d_K_claim_57 : decode b_K_claim 57 = .ok (.aload_n 2, 1) := by decide +kernel
theorem d_K_claim_58 : decode b_K_claim 58 = .ok (.getfield 169, 3) := by decide +kernel
theorem d_K_claim_61 : decode b_K_claim 61 = .ok (.if_acmp .eq 40, 3) := by decide +kernel
theorem d_K_claim_64 : decode b_K_claim 64 = .ok (.aload_n 0, 1) := by decide +kernel
theorem d_K_claim_65 : decode b_K_claim 65 = .ok (.aload 5, 2) := by decide +kernel
theorem d_K_claim_67 : decode b_K_claim 67 = .ok (.getfield 166, 3) := by decide +kernel
theorem d_K_claim_70 : decode b_K_claim 70 = .ok (.invokevirtual 159, 3) := by decide +kernel
theorem d_K_claim_73 : decode b_K_claim 73 = .ok (.aload_n 2, 1) := by decide +kernel
theorem d_K_claim_74 : decode b_K_claim 74 = .ok (.if_acmp .ne 27, 3) := by decide +kernel
theorem d_K_claim_77 : decode b_K_claim 77 = .ok (.aload_n 0, 1) := by decide +kernel
theorem d_K_claim_78 : decode b_K_claim 78 = .ok (.getfield 47, 3) := by decide +kernel
theorem d_K_claim_81 : decode b_K_claim 81 = .ok (.iload_n 3, 1) := by decide +kernel
theorem d_K_claim_82 : decode b_K_claim 82 = .ok (.aload 5, 2) := by decide +kernel
theorem d_K_claim_84 : decode b_K_claim 84 = .ok (.getfield 173, 3) := by decide +kernel
theorem d_K_claim_87 : decode b_K_claim 87 = .ok (.aastore, 1) := by decide +kernel
theorem d_K_claim_88 : decode b_K_claim 88 = .ok (.iinc 3 1, 3) := by decide +kernel
theorem d_K_claim_91 : decode b_K_claim 91 = .ok (.aload_n 0, 1) := by decide +kernel
theorem d_K_claim_92 : decode b_K_claim 92 = .ok (.iload 4, 2) := by decide +kernel
theorem d_K_claim_94 : decode b_K_claim 94 = .ok (.aload_n 2, 1) := by decide +kernel
theorem d_K_claim_95 : decode b_K_claim 95 = .ok (.getfield 169, 3) := by decide +kernel
theorem d_K_claim_98 : decode b_K_claim 98 = .ok (.invokevirtual 192, 3) := by decide +kernel
theorem d_K_claim_101 : decode b_K_claim 101 = .ok (.iinc 4 1, 3) := by decide +kernel
theorem d_K_claim_104 : decode b_K_claim 104 = .ok (.goto (-76), 3) := by decide +kernel
theorem d_K_claim_107 : decode b_K_claim 107 = .ok (.iconst 0, 1) := by decide +kernel
theorem d_K_claim_108 : decode b_K_claim 108 = .ok (.istore 4, 2) := by decide +kernel
theorem d_K_claim_110 : decode b_K_claim 110 = .ok (.iload 4, 2) := by decide +kernel
theorem d_K_claim_112 : decode b_K_claim 112 = .ok (.iload_n 3, 1) := by decide +kernel
theorem d_K_claim_113 : decode b_K_claim 113 = .ok (.if_icmp .ge 20, 3) := by decide +kernel
theorem d_K_claim_116 : decode b_K_claim 116 = .ok (.aload_n 0, 1) := by decide +kernel
theorem d_K_claim_117 : decode b_K_claim 117 = .ok (.aload_n 0, 1) := by decide +kernel
theorem d_K_claim_118 : decode b_K_claim 118 = .ok (.getfield 47, 3) := by decide +kernel
theorem d_K_claim_121 : decode b_K_claim 121 = .ok (.iload 4, 2) := by decide +kernel
theorem d_K_claim_123 : decode b_K_claim 123 = .ok (.aaload, 1) := by decide +kernel
theorem d_K_claim_124 : decode b_K_claim 124 = .ok (.invokevirtual 179, 3) := by decide +kernel
theorem d_K_claim_127 : decode b_K_claim 127 = .ok (.iinc 4 1, 3) := by decide +kernel
theorem d_K_claim_130 : decode b_K_claim 130 = .ok (.goto (-20), 3) := by decide +kernel
theorem d_K_claim_133 : decode b_K_claim 133 = .ok (.iload_n 3, 1) := by decide +kernel
theorem d_K_claim_134 : decode b_K_claim 134 = .ok (.ireturn, 1) := by decide +kernel
theorem d_K_skip_0 : decode b_K_skip 0 = .ok (.aload_n 0, 1) := by decide +kernel
theorem d_K_skip_1 : decode b_K_skip 1 = .ok (.iload_n 1, 1) := by decide +kernel
theorem d_K_skip_2 : decode b_K_skip 2 = .ok (.invokevirtual 187, 3) := by decide +kernel
theorem d_K_skip_5 : decode b_K_skip 5 = .ok (.astore_n 2, 1) := by decide +kernel
theorem d_K_skip_6 : decode b_K_skip 6 = .ok (.aload_n 2, 1) := by decide +kernel
theorem d_K_skip_7 : decode b_K_skip 7 = .ok (.getfield 196, 3) := by decide +kernel
theorem d_K_skip_10 : decode b_K_skip 10 = .ok (.ifnull 10, 3) := by decide +kernel
theorem d_K_skip_13 : decode b_K_skip 13 = .ok (.aload_n 2, 1) := by decide +kernel
theorem d_K_skip_14 : decode b_K_skip 14 = .ok (.getfield 196, 3) := by decide +kernel
theorem d_K_skip_17 : decode b_K_skip 17 = .ok (.goto 7, 3) := by decide +kernel
theorem d_K_skip_20 : decode b_K_skip 20 = .ok (.aload_n 2, 1) := by decide +kernel
theorem d_K_skip_21 : decode b_K_skip 21 = .ok (.getfield 199, 3) := by decide +kernel
theorem d_K_skip_24 : decode b_K_skip 24 = .ok (.astore_n 3, 1) := by decide +kernel
theorem d_K_skip_25 : decode b_K_skip 25 = .ok (.aload_n 3, 1) := by decide +kernel
theorem d_K_skip_26 : decode b_K_skip 26 = .ok (.ifnonnull 13, 3) := by decide +kernel
theorem d_K_skip_29 : decode b_K_skip 29 = .ok (.new 124, 3) := by decide +kernel
theorem d_K_skip_32 : decode b_K_skip 32 = .ok (.dup, 1) := by decide +kernel
theorem d_K_skip_33 : decode b_K_skip 33 = .ok (.ldc 202, 2) := by decide +kernel
theorem d_K_skip_35 : decode b_K_skip 35 = .ok (.invokespecial 128, 3) := by decide +kernel
theorem d_K_skip_38 : decode b_K_skip 38 = .ok (.athrow, 1) := by decide +kernel
theorem d_K_skip_39 : decode b_K_skip 39 = .ok (.aload_n 3, 1) := by decide +kernel
theorem d_K_skip_40 : decode b_K_skip 40 = .ok (.iconst 1, 1) := by decide +kernel
theorem d_K_skip_41 : decode b_K_skip 41 = .ok (.putfield 204, 3) := by decide +kernel
theorem d_K_skip_44 : decode b_K_skip 44 = .ok (.aload_n 0, 1) := by decide +kernel
theorem d_K_skip_45 : decode b_K_skip 45 = .ok (.aload_n 2, 1) := by decide +kernel
theorem d_K_skip_46 : decode b_K_skip 46 = .ok (.invokevirtual 207, 3) := by decide +kernel
theorem d_K_skip_49 : decode b_K_skip 49 = .ok (.aload_n 3, 1) := by decide +kernel
theorem d_K_skip_50 : decode b_K_skip 50 = .ok (.getfield 211, 3) := by decide +kernel
theorem d_K_skip_53 : decode b_K_skip 53 = .ok (.ireturn, 1) := by decide +kernel
