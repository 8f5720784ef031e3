theorem d_Md_keep_0 : decode b_Md_keep 0 = .ok (.aload_n 0, 1) := by decide +kernel
theorem d_Md_keep_1 : decode b_Md_keep 1 = .ok (.iload_n 1, 1) := by decide +kernel
theorem d_Md_keep_2 : decode b_Md_keep 2 = .ok (.iload_n 2, 1) := by decide +kernel
theorem d_Md_keep_3 : decode b_Md_keep 3 = .ok (.invokevirtual 200, 3) := by decide +kernel
theorem d_Md_keep_6 : decode b_Md_keep 6 = .ok (.istore 4, 2) := by decide +kernel
theorem d_Md_keep_8 : decode b_Md_keep 8 = .ok (.iload 4, 2) := by decide +kernel
theorem d_Md_keep_10 : decode b_Md_keep 10 = .ok (.ifCond .ge 16, 3) := by decide +kernel
theorem d_Md_keep_13 : decode b_Md_keep 13 = .ok (.aload_n 0, 1) := by decide +kernel
theorem d_Md_keep_14 : decode b_Md_keep 14 = .ok (.getfield 37, 3) := by decide +kernel
theorem d_Md_keep_17 : decode b_Md_keep 17 = .ok (.iload_n 1, 1) := by decide +kernel
theorem d_Md_keep_18 : decode b_Md_keep 18 = .ok (.iaload, 1) := by decide +kernel
theorem d_Md_keep_19 : decode b_Md_keep 19 = .ok (.iconst 4, 1) := by decide +kernel
theorem d_Md_keep_20 : decode b_Md_keep 20 = .ok (.if_icmp .ne 6, 3) := by decide +kernel
theorem d_Md_keep_23 : decode b_Md_keep 23 = .ok (.iconst 0, 1) := by decide +kernel
theorem d_Md_keep_24 : decode b_Md_keep 24 = .ok (.istore 4, 2) := by decide +kernel
theorem d_Md_keep_26 : decode b_Md_keep 26 = .ok (.iload 4, 2) := by decide +kernel
theorem d_Md_keep_28 : decode b_Md_keep 28 = .ok (.ifCond .lt 82, 3) := by decide +kernel
theorem d_Md_keep_31 : decode b_Md_keep 31 = .ok (.aload_n 0, 1) := by decide +kernel
theorem d_Md_keep_32 : decode b_Md_keep 32 = .ok (.getfield 37, 3) := by decide +kernel
theorem d_Md_keep_35 : decode b_Md_keep 35 = .ok (.iload_n 1, 1) := by decide +kernel
theorem d_Md_keep_36 : decode b_Md_keep 36 = .ok (.dup2, 1) := by decide +kernel
theorem d_Md_keep_37 : decode b_Md_keep 37 = .ok (.iaload, 1) := by decide +kernel
theorem d_Md_keep_38 : decode b_Md_keep 38 = .ok (.iconst 1, 1) := by decide +kernel
theorem d_Md_keep_39 : decode b_Md_keep 39 = .ok (.isub, 1) := by decide +kernel
theorem d_Md_keep_40 : decode b_Md_keep 40 = .ok (.iastore, 1) := by decide +kernel
theorem d_Md_keep_41 : decode b_Md_keep 41 = .ok (.iload 4, 2) := by decide +kernel
theorem d_Md_keep_43 : decode b_Md_keep 43 = .ok (.istore 5, 2) := by decide +kernel
theorem d_Md_keep_45 : decode b_Md_keep 45 = .ok (.iload 5, 2) := by decide +kernel
theorem d_Md_keep_47 : decode b_Md_keep 47 = .ok (.aload_n 0, 1) := by decide +kernel
theorem d_Md_keep_48 : decode b_Md_keep 48 = .ok (.getfield 37, 3) := by decide +kernel
theorem d_Md_keep_51 : decode b_Md_keep 51 = .ok (.iload_n 1, 1) := by decide +kernel
theorem d_Md_keep_52 : decode b_Md_keep 52 = .ok (.iaload, 1) := by decide +kernel
theorem d_Md_keep_53 : decode b_Md_keep 53 = .ok (.if_icmp .ge 57, 3) := by decide +kernel
theorem d_Md_keep_56 : decode b_Md_keep 56 = .ok (.aload_n 0, 1) := by decide +kernel
theorem d_Md_keep_57 : decode b_Md_keep 57 = .ok (.getfield 40, 3) := by decide +kernel
theorem d_Md_keep_60 : decode b_Md_keep 60 = .ok (.iconst 4, 1) := by decide +kernel
theorem d_Md_keep_61 : decode b_Md_keep 61 = .ok (.iload_n 1, 1) := by decide +kernel
theorem d_Md_keep_62 : decode b_Md_keep 62 = .ok (.imul, 1) := by decide +kernel
theorem d_Md_keep_63 : decode b_Md_keep 63 = .ok (.iload 5, 2) := by decide +kernel
theorem d_Md_keep_65 : decode b_Md_keep 65 = .ok (.iadd, 1) := by decide +kernel
theorem d_Md_keep_66 : decode b_Md_keep 66 = .ok (.aload_n 0, 1) := by decide +kernel
theorem d_Md_keep_67 : decode b_Md_keep 67 = .ok (.getfield 40, 3) := by decide +kernel
theorem d_Md_keep_70 : decode b_Md_keep 70 = .ok (.iconst 4, 1) := by decide +kernel
theorem d_Md_keep_71 : decode b_Md_keep 71 = .ok (.iload_n 1, 1) := by decide +kernel
theorem d_Md_keep_72 : decode b_Md_keep 72 = .ok (.imul, 1) := by decide +kernel
theorem d_Md_keep_73 : decode b_Md_keep 73 = .ok (.iload 5, 2) := by decide +kernel
theorem d_Md_keep_75 : decode b_Md_keep 75 = .ok (.iadd, 1) := by decide +kernel
theorem d_Md_keep_76 : decode b_Md_keep 76 = .ok (.iconst 1, 1) := by decide +kernel
theorem d_Md_keep_77 : decode b_Md_keep 77 = .ok (.iadd, 1) := by decide +kernel
theorem d_Md_keep_78 : decode b_Md_keep 78 = .ok (.iaload, 1) := by decide +kernel
theorem d_Md_keep_79 : decode b_Md_keep 79 = .ok (.iastore, 1) := by decide +kernel
theorem d_Md_keep_80 : decode b_Md_keep 80 = .ok (.aload_n 0, 1) := by decide +kernel
theorem d_Md_keep_81 : decode b_Md_keep 81 = .ok (.getfield 43, 3) := by decide +kernel
theorem d_Md_keep_84 : decode b_Md_keep 84 = .ok (.iconst 4, 1) := by decide +kernel
theorem d_Md_keep_85 : decode b_Md_keep 85 = .ok (.iload_n 1, 1) := by decide +kernel
theorem d_Md_keep_86 : decode b_Md_keep 86 = .ok (.imul, 1) := by decide +kernel
theorem d_Md_keep_87 : decode b_Md_keep 87 = .ok (.iload 5, 2) := by decide +kernel
theorem d_Md_keep_89 : decode b_Md_keep 89 = .ok (.iadd, 1) := by decide +kernel
theorem d_Md_keep_90 : decode b_Md_keep 90 = .ok (.aload_n 0, 1) := by decide +kernel
theorem d_Md_keep_91 : decode b_Md_keep 91 = .ok (.getfield 43, 3) := by decide +kernel
theorem d_Md_keep_94 : decode b_Md_keep 94 = .ok (.iconst 4, 1) := by decide +kernel
theorem d_Md_keep_95 : decode b_Md_keep 95 = .ok (.iload_n 1, 1) := by decide +kernel
theorem d_Md_keep_96 : decode b_Md_keep 96 = .ok (.imul, 1) := by decide +kernel
theorem d_Md_keep_97 : decode b_Md_keep 97 = .ok (.iload 5, 2) := by decide +kernel
theorem d_Md_keep_99 : decode b_Md_keep 99 = .ok (.iadd, 1) := by decide +kernel
theorem d_Md_keep_100 : decode b_Md_keep 100 = .ok (.iconst 1, 1) := by decide +kernel
theorem d_Md_keep_101 : decode b_Md_keep 101 = .ok (.iadd, 1) := by decide +kernel
theorem d_Md_keep_102 : decode b_Md_keep 102 = .ok (.iaload, 1) := by decide +kernel
theorem d_Md_keep_103 : decode b_Md_keep 103 = .ok (.iastore, 1) := by decide +kernel
theorem d_Md_keep_104 : decode b_Md_keep 104 = .ok (.iinc 5 1, 3) := by decide +kernel
theorem d_Md_keep_107 : decode b_Md_keep 107 = .ok (.goto (-62), 3) := by decide +kernel
theorem d_Md_keep_110 : decode b_Md_keep 110 = .ok (.aload_n 0, 1) := by decide +kernel
theorem d_Md_keep_111 : decode b_Md_keep 111 = .ok (.getfield 40, 3) := by decide +kernel
theorem d_Md_keep_114 : decode b_Md_keep 114 = .ok (.iconst 4, 1) := by decide +kernel
theorem d_Md_keep_115 : decode b_Md_keep 115 = .ok (.iload_n 1, 1) := by decide +kernel
theorem d_Md_keep_116 : decode b_Md_keep 116 = .ok (.imul, 1) := by decide +kernel
theorem d_Md_keep_117 : decode b_Md_keep 117 = .ok (.aload_n 0, 1) := by decide +kernel
theorem d_Md_keep_118 : decode b_Md_keep 118 = .ok (.getfield 37, 3) := by decide +kernel
theorem d_Md_keep_121 : decode b_Md_keep 121 = .ok (.iload_n 1, 1) := by decide +kernel
theorem d_Md_keep_122 : decode b_Md_keep 122 = .ok (.iaload, 1) := by decide +kernel
theorem d_Md_keep_123 : decode b_Md_keep 123 = .ok (.iadd, 1) := by decide +kernel
theorem d_Md_keep_124 : decode b_Md_keep 124 = .ok (.iload_n 2, 1) := by decide +kernel
theorem d_Md_keep_125 : decode b_Md_keep 125 = .ok (.iastore, 1) := by decide +kernel
theorem d_Md_keep_126 : decode b_Md_keep 126 = .ok (.aload_n 0, 1) := by decide +kernel
theorem d_Md_keep_127 : decode b_Md_keep 127 = .ok (.getfield 43, 3) := by decide +kernel
theorem d_Md_keep_130 : decode b_Md_keep 130 = .ok (.iconst 4, 1) := by decide +kernel
theorem d_Md_keep_131 : decode b_Md_keep 131 = .ok (.iload_n 1, 1) := by decide +kernel
theorem d_Md_keep_132 : decode b_Md_keep 132 = .ok (.imul, 1) := by decide +kernel
theorem d_Md_keep_133 : decode b_Md_keep 133 = .ok (.aload_n 0, 1) := by decide +kernel
theorem d_Md_keep_134 : decode b_Md_keep 134 = .ok (.getfield 37, 3) := by decide +kernel
theorem d_Md_keep_137 : decode b_Md_keep 137 = .ok (.iload_n 1, 1) := by decide +kernel
theorem d_Md_keep_138 : decode b_Md_keep 138 = .ok (.iaload, 1) := by decide +kernel
theorem d_Md_keep_139 : decode b_Md_keep 139 = .ok (.iadd, 1) := by decide +kernel
theorem d_Md_keep_140 : decode b_Md_keep 140 = .ok (.iload_n 3, 1) := by decide +kernel
theorem d_Md_keep_141 : decode b_Md_keep 141 = .ok (.iastore, 1) := by decide +kernel
theorem d_Md_keep_142 : decode b_Md_keep 142 = .ok (.aload_n 0, 1) := by decide +kernel
theorem d_Md_keep_143 : decode b_Md_keep 143 = .ok (.getfield 37, 3) := by decide +kernel
theorem d_Md_keep_146 : decode b_Md_keep 146 = .ok (.iload_n 1, 1) := by decide +kernel
theorem d_Md_keep_147 : decode b_Md_keep 147 = .ok (.dup2, 1) := by decide +kernel
theorem d_Md_keep_148 : decode b_Md_keep 148 = .ok (.iaload, 1) := by decide +kernel
theorem d_Md_keep_149 : decode b_Md_keep 149 = .ok (.iconst 1, 1) := by decide +kernel
theorem d_Md_keep_150 : decode b_Md_keep 150 = .ok (.iadd, 1) := by decide +kernel
theorem d_Md_keep_151 : decode b_Md_keep 151 = .ok (.iastore, 1) := by decide +kernel
theorem d_Md_keep_152 : decode b_Md_keep 152 = .ok (.return_, 1) := by decide +kernel
theorem d_Md_fetch_0 : decode b_Md_fetch 0 = .ok (.iload_n 2, 1) := by decide +kernel
theorem d_Md_fetch_1 : decode b_Md_fetch 1 = .ok (.invokestatic 118, 3) := by decide +kernel
theorem d_Md_fetch_4 : decode b_Md_fetch 4 = .ok (.ifCond .ne 9, 3) := by decide +kernel
theorem d_Md_fetch_7 : decode b_Md_fetch 7 = .ok (.aload_n 0, 1) := by decide +kernel
theorem d_Md_fetch_8 : decode b_Md_fetch 8 = .ok (.iconst 1, 1) := by decide +kernel
theorem d_Md_fetch_9 : decode b_Md_fetch 9 = .ok (.invokevirtual 161, 3) := by decide +kernel
theorem d_Md_fetch_12 : decode b_Md_fetch 12 = .ok (.ireturn, 1) := by decide +kernel
theorem d_Md_fetch_13 : decode b_Md_fetch 13 = .ok (.iload_n 1, 1) := by decide +kernel
theorem d_Md_fetch_14 : decode b_Md_fetch 14 = .ok (.iconst 0, 1) := by decide +kernel
theorem d_Md_fetch_15 : decode b_Md_fetch 15 = .ok (.bipush 7, 2) := by decide +kernel
theorem d_Md_fetch_17 : decode b_Md_fetch 17 = .ok (.invokestatic 103, 3) := by decide +kernel
theorem d_Md_fetch_20 : decode b_Md_fetch 20 = .ok (.ifCond .eq 12, 3) := by decide +kernel
theorem d_Md_fetch_23 : decode b_Md_fetch 23 = .ok (.aload_n 0, 1) := by decide +kernel
theorem d_Md_fetch_24 : decode b_Md_fetch 24 = .ok (.getfield 68, 3) := by decide +kernel
theorem d_Md_fetch_27 : decode b_Md_fetch 27 = .ok (.iload_n 1, 1) := by decide +kernel
theorem d_Md_fetch_28 : decode b_Md_fetch 28 = .ok (.baload, 1) := by decide +kernel
theorem d_Md_fetch_29 : decode b_Md_fetch 29 = .ok (.ifCond .ne 9, 3) := by decide +kernel
theorem d_Md_fetch_32 : decode b_Md_fetch 32 = .ok (.aload_n 0, 1) := by decide +kernel
theorem d_Md_fetch_33 : decode b_Md_fetch 33 = .ok (.iconst 2, 1) := by decide +kernel
theorem d_Md_fetch_34 : decode b_Md_fetch 34 = .ok (.invokevirtual 161, 3) := by decide +kernel
theorem d_Md_fetch_37 : decode b_Md_fetch 37 = .ok (.ireturn, 1) := by decide +kernel
theorem d_Md_fetch_38 : decode b_Md_fetch 38 = .ok (.aload_n 0, 1) := by decide +kernel
theorem d_Md_fetch_39 : decode b_Md_fetch 39 = .ok (.iconst 0, 1) := by decide +kernel
theorem d_Md_fetch_40 : decode b_Md_fetch 40 = .ok (.putfield 98, 3) := by decide +kernel
theorem d_Md_fetch_43 : decode b_Md_fetch 43 = .ok (.aload_n 0, 1) := by decide +kernel
theorem d_Md_fetch_44 : decode b_Md_fetch 44 = .ok (.getfield 77, 3) := by decide +kernel
theorem d_Md_fetch_47 : decode b_Md_fetch 47 = .ok (.iload_n 1, 1) := by decide +kernel
theorem d_Md_fetch_48 : decode b_Md_fetch 48 = .ok (.iaload, 1) := by decide +kernel
theorem d_Md_fetch_49 : decode b_Md_fetch 49 = .ok (.istore_n 3, 1) := by decide +kernel
theorem d_Md_fetch_50 : decode b_Md_fetch 50 = .ok (.iload_n 3, 1) := by decide +kernel
theorem d_Md_fetch_51 : decode b_Md_fetch 51 = .ok (.ifCond .ne 7, 3) := by decide +kernel
theorem d_Md_fetch_54 : decode b_Md_fetch 54 = .ok (.iconst 0, 1) := by decide +kernel
theorem d_Md_fetch_55 : decode b_Md_fetch 55 = .ok (.goto 9, 3) := by decide +kernel
theorem d_Md_fetch_58 : decode b_Md_fetch 58 = .ok (.aload_n 0, 1) := by decide +kernel
theorem d_Md_fetch_59 : decode b_Md_fetch 59 = .ok (.getfield 34, 3) := by decide +kernel
theorem d_Md_fetch_62 : decode b_Md_fetch 62 = .ok (.iload_n 3, 1) := by decide +kernel
theorem d_Md_fetch_63 : decode b_Md_fetch 63 = .ok (.iaload, 1) := by decide +kernel
theorem d_Md_fetch_64 : decode b_Md_fetch 64 = .ok (.istore 4, 2) := by decide +kernel
theorem d_Md_fetch_66 : decode b_Md_fetch 66 = .ok (.iload_n 3, 1) := by decide +kernel
theorem d_Md_fetch_67 : decode b_Md_fetch 67 = .ok (.ifCond .ne 7, 3) := by decide +kernel
theorem d_Md_fetch_70 : decode b_Md_fetch 70 = .ok (.iconst (-1), 1) := by decide +kernel
theorem d_Md_fetch_71 : decode b_Md_fetch 71 = .ok (.goto 9, 3) := by decide +kernel
theorem d_Md_fetch_74 : decode b_Md_fetch 74 = .ok (.aload_n 0, 1) := by decide +kernel
theorem d_Md_fetch_75 : decode b_Md_fetch 75 = .ok (.iload_n 3, 1) := by decide +kernel
theorem d_Md_fetch_76 : decode b_Md_fetch 76 = .ok (.iload_n 2, 1) := by decide +kernel
theorem d_Md_fetch_77 : decode b_Md_fetch 77 = .ok (.invokevirtual 200, 3) := by decide +kernel
theorem d_Md_fetch_80 : decode b_Md_fetch 80 = .ok (.istore 5, 2) := by decide +kernel
theorem d_Md_fetch_82 : decode b_Md_fetch 82 = .ok (.iload 4, 2) := by decide +kernel
theorem d_Md_fetch_84 : decode b_Md_fetch 84 = .ok (.iconst 3, 1) := by decide +kernel
theorem d_Md_fetch_85 : decode b_Md_fetch 85 = .ok (.if_icmp .ne 10, 3) := by decide +kernel
theorem d_Md_fetch_88 : decode b_Md_fetch 88 = .ok (.aload_n 0, 1) := by decide +kernel
theorem d_Md_fetch_89 : decode b_Md_fetch 89 = .ok (.getfield 28, 3) := by decide +kernel
theorem d_Md_fetch_92 : decode b_Md_fetch 92 = .ok (.iload_n 3, 1) := by decide +kernel
theorem d_Md_fetch_93 : decode b_Md_fetch 93 = .ok (.iaload, 1) := by decide +kernel
theorem d_Md_fetch_94 : decode b_Md_fetch 94 = .ok (.ireturn, 1) := by decide +kernel
theorem d_Md_fetch_95 : decode b_Md_fetch 95 = .ok (.iload 5, 2) := by decide +kernel
theorem d_Md_fetch_97 : decode b_Md_fetch 97 = .ok (.ifCond .lt 34, 3) := by decide +kernel
theorem d_Md_fetch_100 : decode b_Md_fetch 100 = .ok (.iload 4, 2) := by decide +kernel
theorem d_Md_fetch_102 : decode b_Md_fetch 102 = .ok (.iconst 1, 1) := by decide +kernel
theorem d_Md_fetch_103 : decode b_Md_fetch 103 = .ok (.if_icmp .eq 16, 3) := by decide +kernel
theorem d_Md_fetch_106 : decode b_Md_fetch 106 = .ok (.iload 4, 2) := by decide +kernel
theorem d_Md_fetch_108 : decode b_Md_fetch 108 = .ok (.iconst 2, 1) := by decide +kernel
theorem d_Md_fetch_109 : decode b_Md_fetch 109 = .ok (.if_icmp .ne 22, 3) := by decide +kernel
theorem d_Md_fetch_112 : decode b_Md_fetch 112 = .ok (.aload_n 0, 1) := by decide +kernel
theorem d_Md_fetch_113 : decode b_Md_fetch 113 = .ok (.getfield 122, 3) := by decide +kernel
theorem d_Md_fetch_116 : decode b_Md_fetch 116 = .ok (.ifCond .eq 15, 3) := by decide +kernel
theorem d_Md_fetch_119 : decode b_Md_fetch 119 = .ok (.aload_n 0, 1) := by decide +kernel
theorem d_Md_fetch_120 : decode b_Md_fetch 120 = .ok (.getfield 43, 3) := by decide +kernel
theorem d_Md_fetch_123 : decode b_Md_fetch 123 = .ok (.iconst 4, 1) := by decide +kernel
theorem d_Md_fetch_124 : decode b_Md_fetch 124 = .ok (.iload_n 3, 1) := by decide +kernel
theorem d_Md_fetch_125 : decode b_Md_fetch 125 = .ok (.imul, 1) := by decide +kernel
theorem d_Md_fetch_126 : decode b_Md_fetch 126 = .ok (.iload 5, 2) := by decide +kernel
theorem d_Md_fetch_128 : decode b_Md_fetch 128 = .ok (.iadd, 1) := by decide +kernel
theorem d_Md_fetch_129 : decode b_Md_fetch 129 = .ok (.iaload, 1) := by decide +kernel
theorem d_Md_fetch_130 : decode b_Md_fetch 130 = .ok (.ireturn, 1) := by decide +kernel
theorem d_Md_fetch_131 : decode b_Md_fetch 131 = .ok (.aload_n 0, 1) := by decide +kernel
theorem d_Md_fetch_132 : decode b_Md_fetch 132 = .ok (.getfield 122, 3) := by decide +kernel
theorem d_Md_fetch_135 : decode b_Md_fetch 135 = .ok (.ifCond .eq 9, 3) := by decide +kernel
theorem d_Md_fetch_138 : decode b_Md_fetch 138 = .ok (.aload_n 0, 1) := by decide +kernel
theorem d_Md_fetch_139 : decode b_Md_fetch 139 = .ok (.iconst 3, 1) := by decide +kernel
theorem d_Md_fetch_140 : decode b_Md_fetch 140 = .ok (.invokevirtual 161, 3) := by decide +kernel
theorem d_Md_fetch_143 : decode b_Md_fetch 143 = .ok (.ireturn, 1) := by decide +kernel
theorem d_Md_fetch_144 : decode b_Md_fetch 144 = .ok (.iload 4, 2) := by decide +kernel
theorem d_Md_fetch_146 : decode b_Md_fetch 146 = .ok (.ifCond .le 15, 3) := by decide +kernel
theorem d_Md_fetch_149 : decode b_Md_fetch 149 = .ok (.aload_n 0, 1) := by decide +kernel
theorem d_Md_fetch_150 : decode b_Md_fetch 150 = .ok (.iload_n 3, 1) := by decide +kernel
theorem d_Md_fetch_151 : decode b_Md_fetch 151 = .ok (.iload_n 2, 1) := by decide +kernel
theorem d_Md_fetch_152 : decode b_Md_fetch 152 = .ok (.aload_n 0, 1) := by decide +kernel
theorem d_Md_fetch_153 : decode b_Md_fetch 153 = .ok (.getfield 126, 3) := by decide +kernel
theorem d_Md_fetch_156 : decode b_Md_fetch 156 = .ok (.iload_n 2, 1) := by decide +kernel
theorem d_Md_fetch_157 : decode b_Md_fetch 157 = .ok (.iadd, 1) := by decide +kernel
theorem d_Md_fetch_158 : decode b_Md_fetch 158 = .ok (.invokevirtual 204, 3) := by decide +kernel
theorem d_Md_fetch_161 : decode b_Md_fetch 161 = .ok (.aload_n 0, 1) := by decide +kernel
theorem d_Md_fetch_162 : decode b_Md_fetch 162 = .ok (.getfield 126, 3) := by decide +kernel
theorem d_Md_fetch_165 : decode b_Md_fetch 165 = .ok (.iload_n 2, 1) := by decide +kernel
theorem d_Md_fetch_166 : decode b_Md_fetch 166 = .ok (.iadd, 1) := by decide +kernel
theorem d_Md_fetch_167 : decode b_Md_fetch 167 = .ok (.ireturn, 1) := by decide +kernel
theorem d_Md_registration_0 : decode b_Md_registration 0 = .ok (.iload_n 1, 1) := by decide +kernel
theorem d_Md_registration_1 : decode b_Md_registration 1 = .ok (.invokestatic 118, 3) := by decide +kernel
theorem d_Md_registration_4 : decode b_Md_registration 4 = .ok (.ifCond .eq 12, 3) := by decide +kernel
theorem d_Md_registration_7 : decode b_Md_registration 7 = .ok (.iload_n 2, 1) := by decide +kernel
theorem d_Md_registration_8 : decode b_Md_registration 8 = .ok (.iconst 0, 1) := by decide +kernel
theorem d_Md_registration_9 : decode b_Md_registration 9 = .ok (.iconst 4, 1) := by decide +kernel
theorem d_Md_registration_10 : decode b_Md_registration 10 = .ok (.invokestatic 103, 3) := by decide +kernel
theorem d_Md_registration_13 : decode b_Md_registration 13 = .ok (.ifCond .ne 9, 3) := by decide +kernel
theorem d_Md_registration_16 : decode b_Md_registration 16 = .ok (.aload_n 0, 1) := by decide +kernel
theorem d_Md_registration_17 : decode b_Md_registration 17 = .ok (.iconst 1, 1) := by decide +kernel
theorem d_Md_registration_18 : decode b_Md_registration 18 = .ok (.invokevirtual 161, 3) := by decide +kernel
theorem d_Md_registration_21 : decode b_Md_registration 21 = .ok (.ireturn, 1) := by decide +kernel
theorem d_Md_registration_22 : decode b_Md_registration 22 = .ok (.aload_n 0, 1) := by decide +kernel
theorem d_Md_registration_23 : decode b_Md_registration 23 = .ok (.iload_n 1, 1) := by decide +kernel
theorem d_Md_registration_24 : decode b_Md_registration 24 = .ok (.invokevirtual 167, 3) := by decide +kernel
theorem d_Md_registration_27 : decode b_Md_registration 27 = .ok (.istore_n 3, 1) := by decide +kernel
theorem d_Md_registration_28 : decode b_Md_registration 28 = .ok (.iload_n 3, 1) := by decide +kernel
theorem d_Md_registration_29 : decode b_Md_registration 29 = .ok (.ifCond .ge 9, 3) := by decide +kernel
theorem d_Md_registration_32 : decode b_Md_registration 32 = .ok (.aload_n 0, 1) := by decide +kernel
theorem d_Md_registration_33 : decode b_Md_registration 33 = .ok (.iconst 2, 1) := by decide +kernel
theorem d_Md_registration_34 : decode b_Md_registration 34 = .ok (.invokevirtual 161, 3) := by decide +kernel
theorem d_Md_registration_37 : decode b_Md_registration 37 = .ok (.ireturn, 1) := by decide +kernel
theorem d_Md_registration_38 : decode b_Md_registration 38 = .ok (.aload_n 0, 1) := by decide +kernel
theorem d_Md_registration_39 : decode b_Md_registration 39 = .ok (.iconst 0, 1) := by decide +kernel
theorem d_Md_registration_40 : decode b_Md_registration 40 = .ok (.putfield 98, 3) := by decide +kernel
theorem d_Md_registration_43 : decode b_Md_registration 43 = .ok (.iload_n 2, 1) := by decide +kernel
theorem d_Md_registration_44 : decode b_Md_registration 44 = .ok (.ifCond .ne 12, 3) := by decide +kernel
theorem d_Md_registration_47 : decode b_Md_registration 47 = .ok (.aload_n 0, 1) := by decide +kernel
theorem d_Md_registration_48 : decode b_Md_registration 48 = .ok (.getfield 53, 3) := by decide +kernel
theorem d_Md_registration_51 : decode b_Md_registration 51 = .ok (.iload_n 3, 1) := by decide +kernel
theorem d_Md_registration_52 : decode b_Md_registration 52 = .ok (.iaload, 1) := by decide +kernel
theorem d_Md_registration_53 : decode b_Md_registration 53 = .ok (.goto 59, 3) := by decide +kernel
theorem d_Md_registration_56 : decode b_Md_registration 56 = .ok (.iload_n 2, 1) := by decide +kernel
theorem d_Md_registration_57 : decode b_Md_registration 57 = .ok (.iconst 1, 1) := by decide +kernel
theorem d_Md_registration_58 : decode b_Md_registration 58 = .ok (.if_icmp .ne 12, 3) := by decide +kernel
theorem d_Md_registration_61 : decode b_Md_registration 61 = .ok (.aload_n 0, 1) := by decide +kernel
theorem d_Md_registration_62 : decode b_Md_registration 62 = .ok (.getfield 56, 3) := by decide +kernel
theorem d_Md_registration_65 : decode b_Md_registration 65 = .ok (.iload_n 3, 1) := by decide +kernel
theorem d_Md_registration_66 : decode b_Md_registration 66 = .ok (.iaload, 1) := by decide +kernel
theorem d_Md_registration_67 : decode b_Md_registration 67 = .ok (.goto 45, 3) := by decide +kernel
theorem d_Md_registration_70 : decode b_Md_registration 70 = .ok (.iload_n 2, 1) := by decide +kernel
theorem d_Md_registration_71 : decode b_Md_registration 71 = .ok (.iconst 2, 1) := by decide +kernel
theorem d_Md_registration_72 : decode b_Md_registration 72 = .ok (.if_icmp .ne 12, 3) := by decide +kernel
theorem d_Md_registration_75 : decode b_Md_registration 75 = .ok (.aload_n 0, 1) := by decide +kernel
theorem d_Md_registration_76 : decode b_Md_registration 76 = .ok (.getfield 59, 3) := by decide +kernel
theorem d_Md_registration_79 : decode b_Md_registration 79 = .ok (.iload_n 3, 1) := by decide +kernel
theorem d_Md_registration_80 : decode b_Md_registration 80 = .ok (.iaload, 1) := by decide +kernel
theorem d_Md_registration_81 : decode b_Md_registration 81 = .ok (.goto 31, 3) := by decide +kernel
theorem d_Md_registration_84 : decode b_Md_registration 84 = .ok (.iload_n 2, 1) := by decide +kernel
theorem d_Md_registration_85 : decode b_Md_registration 85 = .ok (.iconst 3, 1) := by decide +kernel
theorem d_Md_registration_86 : decode b_Md_registration 86 = .ok (.if_icmp .ne 12, 3) := by decide +kernel
theorem d_Md_registration_89 : decode b_Md_registration 89 = .ok (.aload_n 0, 1) := by decide +kernel
theorem d_Md_registration_90 : decode b_Md_registration 90 = .ok (.getfield 62, 3) := by decide +kernel
theorem d_Md_registration_93 : decode b_Md_registration 93 = .ok (.iload_n 3, 1) := by decide +kernel
theorem d_Md_registration_94 : decode b_Md_registration 94 = .ok (.iaload, 1) := by decide +kernel
theorem d_Md_registration_95 : decode b_Md_registration 95 = .ok (.goto 17, 3) := by decide +kernel
theorem d_Md_registration_98 : decode b_Md_registration 98 = .ok (.aload_n 0, 1) := by decide +kernel
theorem d_Md_registration_99 : decode b_Md_registration 99 = .ok (.getfield 65, 3) := by decide +kernel
theorem d_Md_registration_102 : decode b_Md_registration 102 = .ok (.iload_n 3, 1) := by decide +kernel
theorem d_Md_registration_103 : decode b_Md_registration 103 = .ok (.baload, 1) := by decide +kernel
theorem d_Md_registration_104 : decode b_Md_registration 104 = .ok (.ifCond .eq 7, 3) := by decide +kernel
theorem d_Md_registration_107 : decode b_Md_registration 107 = .ok (.iconst 1, 1) := by decide +kernel
theorem d_Md_registration_108 : decode b_Md_registration 108 = .ok (.goto 4, 3) := by decide +kernel
theorem d_Md_registration_111 : decode b_Md_registration 111 = .ok (.iconst 0, 1) := by decide +kernel
theorem d_Md_registration_112 : decode b_Md_registration 112 = .ok (.ireturn, 1) := by decide +kernel
theorem d_Md_worker_0 : decode b_Md_worker 0 = .ok (.iload_n 2, 1) := by decide +kernel
theorem d_Md_worker_1 : decode b_Md_worker 1 = .ok (.iconst 0, 1) := by decide +kernel
theorem d_Md_worker_2 : decode b_Md_worker 2 = .ok (.iconst 4, 1) := by decide +kernel
theorem d_Md_worker_3 : decode b_Md_worker 3 = .ok (.invokestatic 103, 3) := by decide +kernel
theorem d_Md_worker_6 : decode b_Md_worker 6 = .ok (.ifCond .ne 31, 3) := by decide +kernel
theorem d_Md_worker_9 : decode b_Md_worker 9 = .ok (.iload_n 2, 1) := by decide +kernel
theorem d_Md_worker_10 : decode b_Md_worker 10 = .ok (.bipush 10, 2) := by decide +kernel
theorem d_Md_worker_12 : decode b_Md_worker 12 = .ok (.bipush 13, 2) := by decide +kernel
theorem d_Md_worker_14 : decode b_Md_worker 14 = .ok (.invokestatic 103, 3) := by decide +kernel
theorem d_Md_worker_17 : decode b_Md_worker 17 = .ok (.ifCond .ne 20, 3) := by decide +kernel
theorem d_Md_worker_20 : decode b_Md_worker 20 = .ok (.iload_n 2, 1) := by decide +kernel
theorem d_Md_worker_21 : decode b_Md_worker 21 = .ok (.bipush 20, 2) := by decide +kernel
theorem d_Md_worker_23 : decode b_Md_worker 23 = .ok (.bipush 23, 2) := by decide +kernel
theorem d_Md_worker_25 : decode b_Md_worker 25 = .ok (.invokestatic 103, 3) := by decide +kernel
theorem d_Md_worker_28 : decode b_Md_worker 28 = .ok (.ifCond .ne 9, 3) := by decide +kernel
theorem d_Md_worker_31 : decode b_Md_worker 31 = .ok (.aload_n 0, 1) := by decide +kernel
theorem d_Md_worker_32 : decode b_Md_worker 32 = .ok (.iconst 1, 1) := by decide +kernel
theorem d_Md_worker_33 : decode b_Md_worker 33 = .ok (.invokevirtual 161, 3) := by decide +kernel
theorem d_Md_worker_36 : decode b_Md_worker 36 = .ok (.ireturn, 1) := by decide +kernel
theorem d_Md_worker_37 : decode b_Md_worker 37 = .ok (.iload_n 1, 1) := by decide +kernel
theorem d_Md_worker_38 : decode b_Md_worker 38 = .ok (.iconst 1, 1) := by decide +kernel
theorem d_Md_worker_39 : decode b_Md_worker 39 = .ok (.aload_n 0, 1) := by decide +kernel
theorem d_Md_worker_40 : decode b_Md_worker 40 = .ok (.getfield 164, 3) := by decide +kernel
theorem d_Md_worker_43 : decode b_Md_worker 43 = .ok (.invokestatic 103, 3) := by decide +kernel
theorem d_Md_worker_46 : decode b_Md_worker 46 = .ok (.ifCond .ne 9, 3) := by decide +kernel
theorem d_Md_worker_49 : decode b_Md_worker 49 = .ok (.aload_n 0, 1) := by decide +kernel
theorem d_Md_worker_50 : decode b_Md_worker 50 = .ok (.iconst 2, 1) := by decide +kernel
theorem d_Md_worker_51 : decode b_Md_worker 51 = .ok (.invokevirtual 161, 3) := by decide +kernel
theorem d_Md_worker_54 : decode b_Md_worker 54 = .ok (.ireturn, 1) := by decide +kernel
theorem d_Md_worker_55 : decode b_Md_worker 55 = .ok (.aload_n 0, 1) := by decide +kernel
theorem d_Md_worker_56 : decode b_Md_worker 56 = .ok (.iconst 0, 1) := by decide +kernel
theorem d_Md_worker_57 : decode b_Md_worker 57 = .ok (.putfield 98, 3) := by decide +kernel
theorem d_Md_worker_60 : decode b_Md_worker 60 = .ok (.iload_n 2, 1) := by decide +kernel
theorem d_Md_worker_61 : decode b_Md_worker 61 = .ok (.bipush 9, 2) := by decide +kernel
theorem d_Md_worker_63 : decode b_Md_worker 63 = .ok (.if_icmp .le 52, 3) := by decide +kernel
theorem d_Md_worker_66 : decode b_Md_worker 66 = .ok (.iload_n 2, 1) := by decide +kernel
theorem d_Md_worker_67 : decode b_Md_worker 67 = .ok (.bipush 10, 2) := by decide +kernel
theorem d_Md_worker_69 : decode b_Md_worker 69 = .ok (.irem, 1) := by decide +kernel
theorem d_Md_worker_70 : decode b_Md_worker 70 = .ok (.istore_n 3, 1) := by decide +kernel
theorem d_Md_worker_71 : decode b_Md_worker 71 = .ok (.iload_n 3, 1) := by decide +kernel
theorem d_Md_worker_72 : decode b_Md_worker 72 = .ok (.aload_n 0, 1) := by decide +kernel
theorem d_Md_worker_73 : decode b_Md_worker 73 = .ok (.getfield 37, 3) := by decide +kernel
theorem d_Md_worker_76 : decode b_Md_worker 76 = .ok (.iload_n 1, 1) := by decide +kernel
theorem d_Md_worker_77 : decode b_Md_worker 77 = .ok (.iaload, 1) := by decide +kernel
theorem d_Md_worker_78 : decode b_Md_worker 78 = .ok (.if_icmp .lt 7, 3) := by decide +kernel
theorem d_Md_worker_81 : decode b_Md_worker 81 = .ok (.iconst 0, 1) := by decide +kernel
theorem d_Md_worker_82 : decode b_Md_worker 82 = .ok (.goto 32, 3) := by decide +kernel
theorem d_Md_worker_85 : decode b_Md_worker 85 = .ok (.iload_n 2, 1) := by decide +kernel
theorem d_Md_worker_86 : decode b_Md_worker 86 = .ok (.bipush 20, 2) := by decide +kernel
theorem d_Md_worker_88 : decode b_Md_worker 88 = .ok (.if_icmp .ge 16, 3) := by decide +kernel
theorem d_Md_worker_91 : decode b_Md_worker 91 = .ok (.aload_n 0, 1) := by decide +kernel
theorem d_Md_worker_92 : decode b_Md_worker 92 = .ok (.getfield 40, 3) := by decide +kernel
theorem d_Md_worker_95 : decode b_Md_worker 95 = .ok (.iconst 4, 1) := by decide +kernel
theorem d_Md_worker_96 : decode b_Md_worker 96 = .ok (.iload_n 1, 1) := by decide +kernel
theorem d_Md_worker_97 : decode b_Md_worker 97 = .ok (.imul, 1) := by decide +kernel
theorem d_Md_worker_98 : decode b_Md_worker 98 = .ok (.iload_n 3, 1) := by decide +kernel
theorem d_Md_worker_99 : decode b_Md_worker 99 = .ok (.iadd, 1) := by decide +kernel
theorem d_Md_worker_100 : decode b_Md_worker 100 = .ok (.iaload, 1) := by decide +kernel
theorem d_Md_worker_101 : decode b_Md_worker 101 = .ok (.goto 13, 3) := by decide +kernel
theorem d_Md_worker_104 : decode b_Md_worker 104 = .ok (.aload_n 0, 1) := by decide +kernel
theorem d_Md_worker_105 : decode b_Md_worker 105 = .ok (.getfield 43, 3) := by decide +kernel
theorem d_Md_worker_108 : decode b_Md_worker 108 = .ok (.iconst 4, 1) := by decide +kernel
theorem d_Md_worker_109 : decode b_Md_worker 109 = .ok (.iload_n 1, 1) := by decide +kernel
theorem d_Md_worker_110 : decode b_Md_worker 110 = .ok (.imul, 1) := by decide +kernel
theorem d_Md_worker_111 : decode b_Md_worker 111 = .ok (.iload_n 3, 1) := by decide +kernel
theorem d_Md_worker_112 : decode b_Md_worker 112 = .ok (.iadd, 1) := by decide +kernel
theorem d_Md_worker_113 : decode b_Md_worker 113 = .ok (.iaload, 1) := by decide +kernel
theorem d_Md_worker_114 : decode b_Md_worker 114 = .ok (.ireturn, 1) := by decide +kernel
theorem d_Md_worker_115 : decode b_Md_worker 115 = .ok (.iconst 0, 1) := by decide +kernel
theorem d_Md_worker_116 : decode b_Md_worker 116 = .ok (.istore_n 3, 1) := by decide +kernel
theorem d_Md_worker_117 : decode b_Md_worker 117 = .ok (.iconst 0, 1) := by decide +kernel
theorem d_Md_worker_118 : decode b_Md_worker 118 = .ok (.istore 4, 2) := by decide +kernel
theorem d_Md_worker_120 : decode b_Md_worker 120 = .ok (.iload 4, 2) := by decide +kernel
theorem d_Md_worker_122 : decode b_Md_worker 122 = .ok (.bipush 8, 2) := by decide +kernel
theorem d_Md_worker_124 : decode b_Md_worker 124 = .ok (.if_icmp .ge 33, 3) := by decide +kernel
theorem d_Md_worker_127 : decode b_Md_worker 127 = .ok (.aload_n 0, 1) := by decide +kernel
theorem d_Md_worker_128 : decode b_Md_worker 128 = .ok (.getfield 68, 3) := by decide +kernel
theorem d_Md_worker_131 : decode b_Md_worker 131 = .ok (.iload 4, 2) := by decide +kernel
theorem d_Md_worker_133 : decode b_Md_worker 133 = .ok (.baload, 1) := by decide +kernel
theorem d_Md_worker_134 : decode b_Md_worker 134 = .ok (.ifCond .eq 17, 3) := by decide +kernel
theorem d_Md_worker_137 : decode b_Md_worker 137 = .ok (.aload_n 0, 1) := by decide +kernel
theorem d_Md_worker_138 : decode b_Md_worker 138 = .ok (.getfield 77, 3) := by decide +kernel
theorem d_Md_worker_141 : decode b_Md_worker 141 = .ok (.iload 4, 2) := by decide +kernel
theorem d_Md_worker_143 : decode b_Md_worker 143 = .ok (.iaload, 1) := by decide +kernel
theorem d_Md_worker_144 : decode b_Md_worker 144 = .ok (.iload_n 1, 1) := by decide +kernel
theorem d_Md_worker_145 : decode b_Md_worker 145 = .ok (.if_icmp .ne 6, 3) := by decide +kernel
theorem d_Md_worker_148 : decode b_Md_worker 148 = .ok (.iinc 3 1, 3) := by decide +kernel
theorem d_Md_worker_151 : decode b_Md_worker 151 = .ok (.iinc 4 1, 3) := by decide +kernel
theorem d_Md_worker_154 : decode b_Md_worker 154 = .ok (.goto (-34), 3) := by decide +kernel
theorem d_Md_worker_157 : decode b_Md_worker 157 = .ok (.iload_n 2, 1) := by decide +kernel
theorem d_Md_worker_158 : decode b_Md_worker 158 = .ok (.ifCond .ne 12, 3) := by decide +kernel
theorem d_Md_worker_161 : decode b_Md_worker 161 = .ok (.aload_n 0, 1) := by decide +kernel
theorem d_Md_worker_162 : decode b_Md_worker 162 = .ok (.getfield 25, 3) := by decide +kernel
theorem d_Md_worker_165 : decode b_Md_worker 165 = .ok (.iload_n 1, 1) := by decide +kernel
theorem d_Md_worker_166 : decode b_Md_worker 166 = .ok (.iaload, 1) := by decide +kernel
theorem d_Md_worker_167 : decode b_Md_worker 167 = .ok (.goto 46, 3) := by decide +kernel
theorem d_Md_worker_170 : decode b_Md_worker 170 = .ok (.iload_n 2, 1) := by decide +kernel
theorem d_Md_worker_171 : decode b_Md_worker 171 = .ok (.iconst 1, 1) := by decide +kernel
theorem d_Md_worker_172 : decode b_Md_worker 172 = .ok (.if_icmp .ne 12, 3) := by decide +kernel
theorem d_Md_worker_175 : decode b_Md_worker 175 = .ok (.aload_n 0, 1) := by decide +kernel
theorem d_Md_worker_176 : decode b_Md_worker 176 = .ok (.getfield 28, 3) := by decide +kernel
theorem d_Md_worker_179 : decode b_Md_worker 179 = .ok (.iload_n 1, 1) := by decide +kernel
theorem d_Md_worker_180 : decode b_Md_worker 180 = .ok (.iaload, 1) := by decide +kernel
theorem d_Md_worker_181 : decode b_Md_worker 181 = .ok (.goto 32, 3) := by decide +kernel
theorem d_Md_worker_184 : decode b_Md_worker 184 = .ok (.iload_n 2, 1) := by decide +kernel
theorem d_Md_worker_185 : decode b_Md_worker 185 = .ok (.iconst 2, 1) := by decide +kernel
theorem d_Md_worker_186 : decode b_Md_worker 186 = .ok (.if_icmp .ne 12, 3) := by decide +kernel
theorem d_Md_worker_189 : decode b_Md_worker 189 = .ok (.aload_n 0, 1) := by decide +kernel
theorem d_Md_worker_190 : decode b_Md_worker 190 = .ok (.getfield 34, 3) := by decide +kernel
theorem d_Md_worker_193 : decode b_Md_worker 193 = .ok (.iload_n 1, 1) := by decide +kernel
theorem d_Md_worker_194 : decode b_Md_worker 194 = .ok (.iaload, 1) := by decide +kernel
theorem d_Md_worker_195 : decode b_Md_worker 195 = .ok (.goto 18, 3) := by decide +kernel
theorem d_Md_worker_198 : decode b_Md_worker 198 = .ok (.iload_n 2, 1) := by decide +kernel
theorem d_Md_worker_199 : decode b_Md_worker 199 = .ok (.iconst 3, 1) := by decide +kernel
theorem d_Md_worker_200 : decode b_Md_worker 200 = .ok (.if_icmp .ne 7, 3) := by decide +kernel
theorem d_Md_worker_203 : decode b_Md_worker 203 = .ok (.iload_n 3, 1) := by decide +kernel
theorem d_Md_worker_204 : decode b_Md_worker 204 = .ok (.goto 9, 3) := by decide +kernel
theorem d_Md_worker_207 : decode b_Md_worker 207 = .ok (.aload_n 0, 1) := by decide +kernel
theorem d_Md_worker_208 : decode b_Md_worker 208 = .ok (.getfield 37, 3) := by decide +kernel
theorem d_Md_worker_211 : decode b_Md_worker 211 = .ok (.iload_n 1, 1) := by decide +kernel
theorem d_Md_worker_212 : decode b_Md_worker 212 = .ok (.iaload, 1) := by decide +kernel
theorem d_Md_worker_213 : decode b_Md_worker 213 = .ok (.ireturn, 1) := by decide +kernel
theorem d_Md_outcome_0 : decode b_Md_outcome 0 = .ok (.aload_n 0, 1) := by decide +kernel
theorem d_Md_outcome_1 : decode b_Md_outcome 1 = .ok (.iload_n 1, 1) := by decide +kernel
theorem d_Md_outcome_2 : decode b_Md_outcome 2 = .ok (.iconst 0, 1) := by decide +kernel
theorem d_Md_outcome_3 : decode b_Md_outcome 3 = .ok (.aload_n 0, 1) := by decide +kernel
theorem d_Md_outcome_4 : decode b_Md_outcome 4 = .ok (.getfield 158, 3) := by decide +kernel
theorem d_Md_outcome_7 : decode b_Md_outcome 7 = .ok (.iconst 1, 1) := by decide +kernel
theorem d_Md_outcome_8 : decode b_Md_outcome 8 = .ok (.isub, 1) := by decide +kernel
theorem d_Md_outcome_9 : decode b_Md_outcome 9 = .ok (.invokestatic 103, 3) := by decide +kernel
theorem d_Md_outcome_12 : decode b_Md_outcome 12 = .ok (.ifCond .eq 7, 3) := by decide +kernel
theorem d_Md_outcome_15 : decode b_Md_outcome 15 = .ok (.iconst 0, 1) := by decide +kernel
theorem d_Md_outcome_16 : decode b_Md_outcome 16 = .ok (.goto 4, 3) := by decide +kernel
theorem d_Md_outcome_19 : decode b_Md_outcome 19 = .ok (.iconst 1, 1) := by decide +kernel
theorem d_Md_outcome_20 : decode b_Md_outcome 20 = .ok (.putfield 98, 3) := by decide +kernel
theorem d_Md_outcome_23 : decode b_Md_outcome 23 = .ok (.aload_n 0, 1) := by decide +kernel
theorem d_Md_outcome_24 : decode b_Md_outcome 24 = .ok (.getfield 98, 3) := by decide +kernel
theorem d_Md_outcome_27 : decode b_Md_outcome 27 = .ok (.ifCond .le 7, 3) := by decide +kernel
theorem d_Md_outcome_30 : decode b_Md_outcome 30 = .ok (.iconst 0, 1) := by decide +kernel
theorem d_Md_outcome_31 : decode b_Md_outcome 31 = .ok (.goto 9, 3) := by decide +kernel
theorem d_Md_outcome_34 : decode b_Md_outcome 34 = .ok (.aload_n 0, 1) := by decide +kernel
theorem d_Md_outcome_35 : decode b_Md_outcome 35 = .ok (.getfield 89, 3) := by decide +kernel
theorem d_Md_outcome_38 : decode b_Md_outcome 38 = .ok (.iload_n 1, 1) := by decide +kernel
theorem d_Md_outcome_39 : decode b_Md_outcome 39 = .ok (.iaload, 1) := by decide +kernel
theorem d_Md_outcome_40 : decode b_Md_outcome 40 = .ok (.ireturn, 1) := by decide +kernel
