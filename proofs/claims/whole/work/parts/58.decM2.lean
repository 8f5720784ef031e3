theorem d_Md_install_0 : decode b_Md_install 0 = .ok (.aload_n 0, 1) := by decide +kernel
theorem d_Md_install_1 : decode b_Md_install 1 = .ok (.dup, 1) := by decide +kernel
theorem d_Md_install_2 : decode b_Md_install 2 = .ok (.getfield 164, 3) := by decide +kernel
theorem d_Md_install_5 : decode b_Md_install 5 = .ok (.iconst 1, 1) := by decide +kernel
theorem d_Md_install_6 : decode b_Md_install 6 = .ok (.iadd, 1) := by decide +kernel
theorem d_Md_install_7 : decode b_Md_install 7 = .ok (.putfield 164, 3) := by decide +kernel
theorem d_Md_install_10 : decode b_Md_install 10 = .ok (.aload_n 0, 1) := by decide +kernel
theorem d_Md_install_11 : decode b_Md_install 11 = .ok (.getfield 164, 3) := by decide +kernel
theorem d_Md_install_14 : decode b_Md_install 14 = .ok (.istore_n 3, 1) := by decide +kernel
theorem d_Md_install_15 : decode b_Md_install 15 = .ok (.aload_n 0, 1) := by decide +kernel
theorem d_Md_install_16 : decode b_Md_install 16 = .ok (.getfield 22, 3) := by decide +kernel
theorem d_Md_install_19 : decode b_Md_install 19 = .ok (.iload_n 3, 1) := by decide +kernel
theorem d_Md_install_20 : decode b_Md_install 20 = .ok (.iload_n 2, 1) := by decide +kernel
theorem d_Md_install_21 : decode b_Md_install 21 = .ok (.iastore, 1) := by decide +kernel
theorem d_Md_install_22 : decode b_Md_install 22 = .ok (.aload_n 0, 1) := by decide +kernel
theorem d_Md_install_23 : decode b_Md_install 23 = .ok (.getfield 28, 3) := by decide +kernel
theorem d_Md_install_26 : decode b_Md_install 26 = .ok (.iload_n 3, 1) := by decide +kernel
theorem d_Md_install_27 : decode b_Md_install 27 = .ok (.aload_n 0, 1) := by decide +kernel
theorem d_Md_install_28 : decode b_Md_install 28 = .ok (.getfield 7, 3) := by decide +kernel
theorem d_Md_install_31 : decode b_Md_install 31 = .ok (.iload_n 2, 1) := by decide +kernel
theorem d_Md_install_32 : decode b_Md_install 32 = .ok (.iaload, 1) := by decide +kernel
theorem d_Md_install_33 : decode b_Md_install 33 = .ok (.iastore, 1) := by decide +kernel
theorem d_Md_install_34 : decode b_Md_install 34 = .ok (.aload_n 0, 1) := by decide +kernel
theorem d_Md_install_35 : decode b_Md_install 35 = .ok (.getfield 31, 3) := by decide +kernel
theorem d_Md_install_38 : decode b_Md_install 38 = .ok (.iload_n 3, 1) := by decide +kernel
theorem d_Md_install_39 : decode b_Md_install 39 = .ok (.aload_n 0, 1) := by decide +kernel
theorem d_Md_install_40 : decode b_Md_install 40 = .ok (.getfield 16, 3) := by decide +kernel
theorem d_Md_install_43 : decode b_Md_install 43 = .ok (.iload_n 2, 1) := by decide +kernel
theorem d_Md_install_44 : decode b_Md_install 44 = .ok (.iaload, 1) := by decide +kernel
theorem d_Md_install_45 : decode b_Md_install 45 = .ok (.iastore, 1) := by decide +kernel
theorem d_Md_install_46 : decode b_Md_install 46 = .ok (.aload_n 0, 1) := by decide +kernel
theorem d_Md_install_47 : decode b_Md_install 47 = .ok (.getfield 34, 3) := by decide +kernel
theorem d_Md_install_50 : decode b_Md_install 50 = .ok (.iload_n 3, 1) := by decide +kernel
theorem d_Md_install_51 : decode b_Md_install 51 = .ok (.aload_n 0, 1) := by decide +kernel
theorem d_Md_install_52 : decode b_Md_install 52 = .ok (.getfield 19, 3) := by decide +kernel
theorem d_Md_install_55 : decode b_Md_install 55 = .ok (.iload_n 2, 1) := by decide +kernel
theorem d_Md_install_56 : decode b_Md_install 56 = .ok (.iaload, 1) := by decide +kernel
theorem d_Md_install_57 : decode b_Md_install 57 = .ok (.iastore, 1) := by decide +kernel
theorem d_Md_install_58 : decode b_Md_install 58 = .ok (.aload_n 0, 1) := by decide +kernel
theorem d_Md_install_59 : decode b_Md_install 59 = .ok (.getfield 37, 3) := by decide +kernel
theorem d_Md_install_62 : decode b_Md_install 62 = .ok (.iload_n 3, 1) := by decide +kernel
theorem d_Md_install_63 : decode b_Md_install 63 = .ok (.iconst 0, 1) := by decide +kernel
theorem d_Md_install_64 : decode b_Md_install 64 = .ok (.iastore, 1) := by decide +kernel
theorem d_Md_install_65 : decode b_Md_install 65 = .ok (.aload_n 0, 1) := by decide +kernel
theorem d_Md_install_66 : decode b_Md_install 66 = .ok (.getfield 46, 3) := by decide +kernel
theorem d_Md_install_69 : decode b_Md_install 69 = .ok (.iload_n 3, 1) := by decide +kernel
theorem d_Md_install_70 : decode b_Md_install 70 = .ok (.iconst 0, 1) := by decide +kernel
theorem d_Md_install_71 : decode b_Md_install 71 = .ok (.bastore, 1) := by decide +kernel
theorem d_Md_install_72 : decode b_Md_install 72 = .ok (.aload_n 0, 1) := by decide +kernel
theorem d_Md_install_73 : decode b_Md_install 73 = .ok (.getfield 56, 3) := by decide +kernel
theorem d_Md_install_76 : decode b_Md_install 76 = .ok (.iload_n 1, 1) := by decide +kernel
theorem d_Md_install_77 : decode b_Md_install 77 = .ok (.iload_n 3, 1) := by decide +kernel
theorem d_Md_install_78 : decode b_Md_install 78 = .ok (.iastore, 1) := by decide +kernel
theorem d_Md_install_79 : decode b_Md_install 79 = .ok (.aload_n 0, 1) := by decide +kernel
theorem d_Md_install_80 : decode b_Md_install 80 = .ok (.iload_n 3, 1) := by decide +kernel
theorem d_Md_install_81 : decode b_Md_install 81 = .ok (.iconst 1, 1) := by decide +kernel
theorem d_Md_install_82 : decode b_Md_install 82 = .ok (.invokevirtual 139, 3) := by decide +kernel
theorem d_Md_install_85 : decode b_Md_install 85 = .ok (.return_, 1) := by decide +kernel
theorem d_Md_isSame_0 : decode b_Md_isSame 0 = .ok (.aload_n 0, 1) := by decide +kernel
theorem d_Md_isSame_1 : decode b_Md_isSame 1 = .ok (.getfield 56, 3) := by decide +kernel
theorem d_Md_isSame_4 : decode b_Md_isSame 4 = .ok (.iload_n 1, 1) := by decide +kernel
theorem d_Md_isSame_5 : decode b_Md_isSame 5 = .ok (.iaload, 1) := by decide +kernel
theorem d_Md_isSame_6 : decode b_Md_isSame 6 = .ok (.ifCond .le 12, 3) := by decide +kernel
theorem d_Md_isSame_9 : decode b_Md_isSame 9 = .ok (.aload_n 0, 1) := by decide +kernel
theorem d_Md_isSame_10 : decode b_Md_isSame 10 = .ok (.getfield 56, 3) := by decide +kernel
theorem d_Md_isSame_13 : decode b_Md_isSame 13 = .ok (.iload_n 1, 1) := by decide +kernel
theorem d_Md_isSame_14 : decode b_Md_isSame 14 = .ok (.iaload, 1) := by decide +kernel
theorem d_Md_isSame_15 : decode b_Md_isSame 15 = .ok (.goto 27, 3) := by decide +kernel
theorem d_Md_isSame_18 : decode b_Md_isSame 18 = .ok (.aload_n 0, 1) := by decide +kernel
theorem d_Md_isSame_19 : decode b_Md_isSame 19 = .ok (.getfield 59, 3) := by decide +kernel
theorem d_Md_isSame_22 : decode b_Md_isSame 22 = .ok (.iload_n 1, 1) := by decide +kernel
theorem d_Md_isSame_23 : decode b_Md_isSame 23 = .ok (.iaload, 1) := by decide +kernel
theorem d_Md_isSame_24 : decode b_Md_isSame 24 = .ok (.ifCond .le 12, 3) := by decide +kernel
theorem d_Md_isSame_27 : decode b_Md_isSame 27 = .ok (.aload_n 0, 1) := by decide +kernel
theorem d_Md_isSame_28 : decode b_Md_isSame 28 = .ok (.getfield 59, 3) := by decide +kernel
theorem d_Md_isSame_31 : decode b_Md_isSame 31 = .ok (.iload_n 1, 1) := by decide +kernel
theorem d_Md_isSame_32 : decode b_Md_isSame 32 = .ok (.iaload, 1) := by decide +kernel
theorem d_Md_isSame_33 : decode b_Md_isSame 33 = .ok (.goto 9, 3) := by decide +kernel
theorem d_Md_isSame_36 : decode b_Md_isSame 36 = .ok (.aload_n 0, 1) := by decide +kernel
theorem d_Md_isSame_37 : decode b_Md_isSame 37 = .ok (.getfield 62, 3) := by decide +kernel
theorem d_Md_isSame_40 : decode b_Md_isSame 40 = .ok (.iload_n 1, 1) := by decide +kernel
theorem d_Md_isSame_41 : decode b_Md_isSame 41 = .ok (.iaload, 1) := by decide +kernel
theorem d_Md_isSame_42 : decode b_Md_isSame 42 = .ok (.istore_n 3, 1) := by decide +kernel
theorem d_Md_isSame_43 : decode b_Md_isSame 43 = .ok (.aload_n 0, 1) := by decide +kernel
theorem d_Md_isSame_44 : decode b_Md_isSame 44 = .ok (.getfield 53, 3) := by decide +kernel
theorem d_Md_isSame_47 : decode b_Md_isSame 47 = .ok (.iload_n 1, 1) := by decide +kernel
theorem d_Md_isSame_48 : decode b_Md_isSame 48 = .ok (.iaload, 1) := by decide +kernel
theorem d_Md_isSame_49 : decode b_Md_isSame 49 = .ok (.iload_n 2, 1) := by decide +kernel
theorem d_Md_isSame_50 : decode b_Md_isSame 50 = .ok (.if_icmp .ne 26, 3) := by decide +kernel
theorem d_Md_isSame_53 : decode b_Md_isSame 53 = .ok (.iload_n 3, 1) := by decide +kernel
theorem d_Md_isSame_54 : decode b_Md_isSame 54 = .ok (.ifCond .le 22, 3) := by decide +kernel
theorem d_Md_isSame_57 : decode b_Md_isSame 57 = .ok (.aload_n 0, 1) := by decide +kernel
theorem d_Md_isSame_58 : decode b_Md_isSame 58 = .ok (.getfield 28, 3) := by decide +kernel
theorem d_Md_isSame_61 : decode b_Md_isSame 61 = .ok (.iload_n 3, 1) := by decide +kernel
theorem d_Md_isSame_62 : decode b_Md_isSame 62 = .ok (.iaload, 1) := by decide +kernel
theorem d_Md_isSame_63 : decode b_Md_isSame 63 = .ok (.aload_n 0, 1) := by decide +kernel
theorem d_Md_isSame_64 : decode b_Md_isSame 64 = .ok (.getfield 7, 3) := by decide +kernel
theorem d_Md_isSame_67 : decode b_Md_isSame 67 = .ok (.iload_n 2, 1) := by decide +kernel
theorem d_Md_isSame_68 : decode b_Md_isSame 68 = .ok (.iaload, 1) := by decide +kernel
theorem d_Md_isSame_69 : decode b_Md_isSame 69 = .ok (.if_icmp .ne 7, 3) := by decide +kernel
theorem d_Md_isSame_72 : decode b_Md_isSame 72 = .ok (.iconst 1, 1) := by decide +kernel
theorem d_Md_isSame_73 : decode b_Md_isSame 73 = .ok (.goto 4, 3) := by decide +kernel
theorem d_Md_isSame_76 : decode b_Md_isSame 76 = .ok (.iconst 0, 1) := by decide +kernel
theorem d_Md_isSame_77 : decode b_Md_isSame 77 = .ok (.ireturn, 1) := by decide +kernel
theorem d_Md_register_0 : decode b_Md_register 0 = .ok (.aload_n 0, 1) := by decide +kernel
theorem d_Md_register_1 : decode b_Md_register 1 = .ok (.getfield 86, 3) := by decide +kernel
theorem d_Md_register_4 : decode b_Md_register 4 = .ok (.iload_n 1, 1) := by decide +kernel
theorem d_Md_register_5 : decode b_Md_register 5 = .ok (.iaload, 1) := by decide +kernel
theorem d_Md_register_6 : decode b_Md_register 6 = .ok (.istore_n 2, 1) := by decide +kernel
theorem d_Md_register_7 : decode b_Md_register 7 = .ok (.aload_n 0, 1) := by decide +kernel
theorem d_Md_register_8 : decode b_Md_register 8 = .ok (.aload_n 0, 1) := by decide +kernel
theorem d_Md_register_9 : decode b_Md_register 9 = .ok (.getfield 83, 3) := by decide +kernel
theorem d_Md_register_12 : decode b_Md_register 12 = .ok (.iload_n 1, 1) := by decide +kernel
theorem d_Md_register_13 : decode b_Md_register 13 = .ok (.iaload, 1) := by decide +kernel
theorem d_Md_register_14 : decode b_Md_register 14 = .ok (.invokevirtual 167, 3) := by decide +kernel
theorem d_Md_register_17 : decode b_Md_register 17 = .ok (.istore_n 3, 1) := by decide +kernel
theorem d_Md_register_18 : decode b_Md_register 18 = .ok (.aload_n 0, 1) := by decide +kernel
theorem d_Md_register_19 : decode b_Md_register 19 = .ok (.getfield 13, 3) := by decide +kernel
theorem d_Md_register_22 : decode b_Md_register 22 = .ok (.iload_n 2, 1) := by decide +kernel
theorem d_Md_register_23 : decode b_Md_register 23 = .ok (.iaload, 1) := by decide +kernel
theorem d_Md_register_24 : decode b_Md_register 24 = .ok (.aload_n 0, 1) := by decide +kernel
theorem d_Md_register_25 : decode b_Md_register 25 = .ok (.getfield 83, 3) := by decide +kernel
theorem d_Md_register_28 : decode b_Md_register 28 = .ok (.iload_n 1, 1) := by decide +kernel
theorem d_Md_register_29 : decode b_Md_register 29 = .ok (.iaload, 1) := by decide +kernel
theorem d_Md_register_30 : decode b_Md_register 30 = .ok (.invokestatic 132, 3) := by decide +kernel
theorem d_Md_register_33 : decode b_Md_register 33 = .ok (.ifCond .ne 12, 3) := by decide +kernel
theorem d_Md_register_36 : decode b_Md_register 36 = .ok (.aload_n 0, 1) := by decide +kernel
theorem d_Md_register_37 : decode b_Md_register 37 = .ok (.iload_n 1, 1) := by decide +kernel
theorem d_Md_register_38 : decode b_Md_register 38 = .ok (.iconst (-1), 1) := by decide +kernel
theorem d_Md_register_39 : decode b_Md_register 39 = .ok (.invokevirtual 170, 3) := by decide +kernel
theorem d_Md_register_42 : decode b_Md_register 42 = .ok (.goto 152, 3) := by decide +kernel
theorem d_Md_register_45 : decode b_Md_register 45 = .ok (.aload_n 0, 1) := by decide +kernel
theorem d_Md_register_46 : decode b_Md_register 46 = .ok (.getfield 122, 3) := by decide +kernel
theorem d_Md_register_49 : decode b_Md_register 49 = .ok (.ifCond .eq 13, 3) := by decide +kernel
theorem d_Md_register_52 : decode b_Md_register 52 = .ok (.aload_n 0, 1) := by decide +kernel
theorem d_Md_register_53 : decode b_Md_register 53 = .ok (.iload_n 1, 1) := by decide +kernel
theorem d_Md_register_54 : decode b_Md_register 54 = .ok (.bipush (-4), 2) := by decide +kernel
theorem d_Md_register_56 : decode b_Md_register 56 = .ok (.invokevirtual 170, 3) := by decide +kernel
theorem d_Md_register_59 : decode b_Md_register 59 = .ok (.goto 135, 3) := by decide +kernel
theorem d_Md_register_62 : decode b_Md_register 62 = .ok (.iload_n 3, 1) := by decide +kernel
theorem d_Md_register_63 : decode b_Md_register 63 = .ok (.ifCond .ge 11, 3) := by decide +kernel
theorem d_Md_register_66 : decode b_Md_register 66 = .ok (.aload_n 0, 1) := by decide +kernel
theorem d_Md_register_67 : decode b_Md_register 67 = .ok (.getfield 129, 3) := by decide +kernel
theorem d_Md_register_70 : decode b_Md_register 70 = .ok (.iconst 5, 1) := by decide +kernel
theorem d_Md_register_71 : decode b_Md_register 71 = .ok (.if_icmp .eq 12, 3) := by decide +kernel
theorem d_Md_register_74 : decode b_Md_register 74 = .ok (.aload_n 0, 1) := by decide +kernel
theorem d_Md_register_75 : decode b_Md_register 75 = .ok (.getfield 164, 3) := by decide +kernel
theorem d_Md_register_78 : decode b_Md_register 78 = .ok (.bipush 40, 2) := by decide +kernel
theorem d_Md_register_80 : decode b_Md_register 80 = .ok (.if_icmp .ne 13, 3) := by decide +kernel
theorem d_Md_register_83 : decode b_Md_register 83 = .ok (.aload_n 0, 1) := by decide +kernel
theorem d_Md_register_84 : decode b_Md_register 84 = .ok (.iload_n 1, 1) := by decide +kernel
theorem d_Md_register_85 : decode b_Md_register 85 = .ok (.bipush (-5), 2) := by decide +kernel
theorem d_Md_register_87 : decode b_Md_register 87 = .ok (.invokevirtual 170, 3) := by decide +kernel
theorem d_Md_register_90 : decode b_Md_register 90 = .ok (.goto 104, 3) := by decide +kernel
theorem d_Md_register_93 : decode b_Md_register 93 = .ok (.iload_n 3, 1) := by decide +kernel
theorem d_Md_register_94 : decode b_Md_register 94 = .ok (.ifCond .lt 28, 3) := by decide +kernel
theorem d_Md_register_97 : decode b_Md_register 97 = .ok (.aload_n 0, 1) := by decide +kernel
theorem d_Md_register_98 : decode b_Md_register 98 = .ok (.iload_n 3, 1) := by decide +kernel
theorem d_Md_register_99 : decode b_Md_register 99 = .ok (.iload_n 2, 1) := by decide +kernel
theorem d_Md_register_100 : decode b_Md_register 100 = .ok (.invokevirtual 173, 3) := by decide +kernel
theorem d_Md_register_103 : decode b_Md_register 103 = .ok (.ifCond .eq 19, 3) := by decide +kernel
theorem d_Md_register_106 : decode b_Md_register 106 = .ok (.aload_n 0, 1) := by decide +kernel
theorem d_Md_register_107 : decode b_Md_register 107 = .ok (.getfield 65, 3) := by decide +kernel
theorem d_Md_register_110 : decode b_Md_register 110 = .ok (.iload_n 3, 1) := by decide +kernel
theorem d_Md_register_111 : decode b_Md_register 111 = .ok (.iconst 0, 1) := by decide +kernel
theorem d_Md_register_112 : decode b_Md_register 112 = .ok (.bastore, 1) := by decide +kernel
theorem d_Md_register_113 : decode b_Md_register 113 = .ok (.aload_n 0, 1) := by decide +kernel
theorem d_Md_register_114 : decode b_Md_register 114 = .ok (.iload_n 1, 1) := by decide +kernel
theorem d_Md_register_115 : decode b_Md_register 115 = .ok (.iconst 2, 1) := by decide +kernel
theorem d_Md_register_116 : decode b_Md_register 116 = .ok (.invokevirtual 170, 3) := by decide +kernel
theorem d_Md_register_119 : decode b_Md_register 119 = .ok (.goto 75, 3) := by decide +kernel
theorem d_Md_register_122 : decode b_Md_register 122 = .ok (.iload_n 3, 1) := by decide +kernel
theorem d_Md_register_123 : decode b_Md_register 123 = .ok (.ifCond .ge 51, 3) := by decide +kernel
theorem d_Md_register_126 : decode b_Md_register 126 = .ok (.aload_n 0, 1) := by decide +kernel
theorem d_Md_register_127 : decode b_Md_register 127 = .ok (.getfield 129, 3) := by decide +kernel
theorem d_Md_register_130 : decode b_Md_register 130 = .ok (.istore_n 3, 1) := by decide +kernel
theorem d_Md_register_131 : decode b_Md_register 131 = .ok (.aload_n 0, 1) := by decide +kernel
theorem d_Md_register_132 : decode b_Md_register 132 = .ok (.dup, 1) := by decide +kernel
theorem d_Md_register_133 : decode b_Md_register 133 = .ok (.getfield 129, 3) := by decide +kernel
theorem d_Md_register_136 : decode b_Md_register 136 = .ok (.iconst 1, 1) := by decide +kernel
theorem d_Md_register_137 : decode b_Md_register 137 = .ok (.iadd, 1) := by decide +kernel
theorem d_Md_register_138 : decode b_Md_register 138 = .ok (.putfield 129, 3) := by decide +kernel
theorem d_Md_register_141 : decode b_Md_register 141 = .ok (.aload_n 0, 1) := by decide +kernel
theorem d_Md_register_142 : decode b_Md_register 142 = .ok (.getfield 50, 3) := by decide +kernel
theorem d_Md_register_145 : decode b_Md_register 145 = .ok (.iload_n 3, 1) := by decide +kernel
theorem d_Md_register_146 : decode b_Md_register 146 = .ok (.aload_n 0, 1) := by decide +kernel
theorem d_Md_register_147 : decode b_Md_register 147 = .ok (.getfield 83, 3) := by decide +kernel
theorem d_Md_register_150 : decode b_Md_register 150 = .ok (.iload_n 1, 1) := by decide +kernel
theorem d_Md_register_151 : decode b_Md_register 151 = .ok (.iaload, 1) := by decide +kernel
theorem d_Md_register_152 : decode b_Md_register 152 = .ok (.iastore, 1) := by decide +kernel
theorem d_Md_register_153 : decode b_Md_register 153 = .ok (.aload_n 0, 1) := by decide +kernel
theorem d_Md_register_154 : decode b_Md_register 154 = .ok (.getfield 56, 3) := by decide +kernel
theorem d_Md_register_157 : decode b_Md_register 157 = .ok (.iload_n 3, 1) := by decide +kernel
theorem d_Md_register_158 : decode b_Md_register 158 = .ok (.iconst 0, 1) := by decide +kernel
theorem d_Md_register_159 : decode b_Md_register 159 = .ok (.iastore, 1) := by decide +kernel
theorem d_Md_register_160 : decode b_Md_register 160 = .ok (.aload_n 0, 1) := by decide +kernel
theorem d_Md_register_161 : decode b_Md_register 161 = .ok (.getfield 59, 3) := by decide +kernel
theorem d_Md_register_164 : decode b_Md_register 164 = .ok (.iload_n 3, 1) := by decide +kernel
theorem d_Md_register_165 : decode b_Md_register 165 = .ok (.iconst 0, 1) := by decide +kernel
theorem d_Md_register_166 : decode b_Md_register 166 = .ok (.iastore, 1) := by decide +kernel
theorem d_Md_register_167 : decode b_Md_register 167 = .ok (.aload_n 0, 1) := by decide +kernel
theorem d_Md_register_168 : decode b_Md_register 168 = .ok (.getfield 62, 3) := by decide +kernel
theorem d_Md_register_171 : decode b_Md_register 171 = .ok (.iload_n 3, 1) := by decide +kernel
theorem d_Md_register_172 : decode b_Md_register 172 = .ok (.iconst 0, 1) := by decide +kernel
theorem d_Md_register_173 : decode b_Md_register 173 = .ok (.iastore, 1) := by decide +kernel
theorem d_Md_register_174 : decode b_Md_register 174 = .ok (.aload_n 0, 1) := by decide +kernel
theorem d_Md_register_175 : decode b_Md_register 175 = .ok (.getfield 65, 3) := by decide +kernel
theorem d_Md_register_178 : decode b_Md_register 178 = .ok (.iload_n 3, 1) := by decide +kernel
theorem d_Md_register_179 : decode b_Md_register 179 = .ok (.iconst 0, 1) := by decide +kernel
theorem d_Md_register_180 : decode b_Md_register 180 = .ok (.bastore, 1) := by decide +kernel
theorem d_Md_register_181 : decode b_Md_register 181 = .ok (.aload_n 0, 1) := by decide +kernel
theorem d_Md_register_182 : decode b_Md_register 182 = .ok (.getfield 53, 3) := by decide +kernel
theorem d_Md_register_185 : decode b_Md_register 185 = .ok (.iload_n 3, 1) := by decide +kernel
theorem d_Md_register_186 : decode b_Md_register 186 = .ok (.iload_n 2, 1) := by decide +kernel
theorem d_Md_register_187 : decode b_Md_register 187 = .ok (.iastore, 1) := by decide +kernel
theorem d_Md_register_188 : decode b_Md_register 188 = .ok (.aload_n 0, 1) := by decide +kernel
theorem d_Md_register_189 : decode b_Md_register 189 = .ok (.iload_n 3, 1) := by decide +kernel
theorem d_Md_register_190 : decode b_Md_register 190 = .ok (.iload_n 2, 1) := by decide +kernel
theorem d_Md_register_191 : decode b_Md_register 191 = .ok (.invokevirtual 176, 3) := by decide +kernel
theorem d_Md_register_194 : decode b_Md_register 194 = .ok (.return_, 1) := by decide +kernel
theorem d_Md_update_0 : decode b_Md_update 0 = .ok (.aload_n 0, 1) := by decide +kernel
theorem d_Md_update_1 : decode b_Md_update 1 = .ok (.aload_n 0, 1) := by decide +kernel
theorem d_Md_update_2 : decode b_Md_update 2 = .ok (.getfield 83, 3) := by decide +kernel
theorem d_Md_update_5 : decode b_Md_update 5 = .ok (.iload_n 1, 1) := by decide +kernel
theorem d_Md_update_6 : decode b_Md_update 6 = .ok (.iaload, 1) := by decide +kernel
theorem d_Md_update_7 : decode b_Md_update 7 = .ok (.invokevirtual 167, 3) := by decide +kernel
theorem d_Md_update_10 : decode b_Md_update 10 = .ok (.istore_n 2, 1) := by decide +kernel
theorem d_Md_update_11 : decode b_Md_update 11 = .ok (.iload_n 2, 1) := by decide +kernel
theorem d_Md_update_12 : decode b_Md_update 12 = .ok (.ifCond .lt 12, 3) := by decide +kernel
theorem d_Md_update_15 : decode b_Md_update 15 = .ok (.aload_n 0, 1) := by decide +kernel
theorem d_Md_update_16 : decode b_Md_update 16 = .ok (.getfield 65, 3) := by decide +kernel
theorem d_Md_update_19 : decode b_Md_update 19 = .ok (.iload_n 2, 1) := by decide +kernel
theorem d_Md_update_20 : decode b_Md_update 20 = .ok (.baload, 1) := by decide +kernel
theorem d_Md_update_21 : decode b_Md_update 21 = .ok (.ifCond .eq 13, 3) := by decide +kernel
theorem d_Md_update_24 : decode b_Md_update 24 = .ok (.aload_n 0, 1) := by decide +kernel
theorem d_Md_update_25 : decode b_Md_update 25 = .ok (.iload_n 1, 1) := by decide +kernel
theorem d_Md_update_26 : decode b_Md_update 26 = .ok (.bipush (-2), 2) := by decide +kernel
theorem d_Md_update_28 : decode b_Md_update 28 = .ok (.invokevirtual 170, 3) := by decide +kernel
theorem d_Md_update_31 : decode b_Md_update 31 = .ok (.goto 73, 3) := by decide +kernel
theorem d_Md_update_34 : decode b_Md_update 34 = .ok (.aload_n 0, 1) := by decide +kernel
theorem d_Md_update_35 : decode b_Md_update 35 = .ok (.getfield 122, 3) := by decide +kernel
theorem d_Md_update_38 : decode b_Md_update 38 = .ok (.ifCond .eq 13, 3) := by decide +kernel
theorem d_Md_update_41 : decode b_Md_update 41 = .ok (.aload_n 0, 1) := by decide +kernel
theorem d_Md_update_42 : decode b_Md_update 42 = .ok (.iload_n 1, 1) := by decide +kernel
theorem d_Md_update_43 : decode b_Md_update 43 = .ok (.bipush (-4), 2) := by decide +kernel
theorem d_Md_update_45 : decode b_Md_update 45 = .ok (.invokevirtual 170, 3) := by decide +kernel
theorem d_Md_update_48 : decode b_Md_update 48 = .ok (.goto 56, 3) := by decide +kernel
theorem d_Md_update_51 : decode b_Md_update 51 = .ok (.aload_n 0, 1) := by decide +kernel
theorem d_Md_update_52 : decode b_Md_update 52 = .ok (.getfield 164, 3) := by decide +kernel
theorem d_Md_update_55 : decode b_Md_update 55 = .ok (.bipush 40, 2) := by decide +kernel
theorem d_Md_update_57 : decode b_Md_update 57 = .ok (.if_icmp .ne 13, 3) := by decide +kernel
theorem d_Md_update_60 : decode b_Md_update 60 = .ok (.aload_n 0, 1) := by decide +kernel
theorem d_Md_update_61 : decode b_Md_update 61 = .ok (.iload_n 1, 1) := by decide +kernel
theorem d_Md_update_62 : decode b_Md_update 62 = .ok (.bipush (-5), 2) := by decide +kernel
theorem d_Md_update_64 : decode b_Md_update 64 = .ok (.invokevirtual 170, 3) := by decide +kernel
theorem d_Md_update_67 : decode b_Md_update 67 = .ok (.goto 37, 3) := by decide +kernel
theorem d_Md_update_70 : decode b_Md_update 70 = .ok (.aload_n 0, 1) := by decide +kernel
theorem d_Md_update_71 : decode b_Md_update 71 = .ok (.iload_n 2, 1) := by decide +kernel
theorem d_Md_update_72 : decode b_Md_update 72 = .ok (.aload_n 0, 1) := by decide +kernel
theorem d_Md_update_73 : decode b_Md_update 73 = .ok (.getfield 53, 3) := by decide +kernel
theorem d_Md_update_76 : decode b_Md_update 76 = .ok (.iload_n 2, 1) := by decide +kernel
theorem d_Md_update_77 : decode b_Md_update 77 = .ok (.iaload, 1) := by decide +kernel
theorem d_Md_update_78 : decode b_Md_update 78 = .ok (.invokevirtual 173, 3) := by decide +kernel
theorem d_Md_update_81 : decode b_Md_update 81 = .ok (.ifCond .eq 12, 3) := by decide +kernel
theorem d_Md_update_84 : decode b_Md_update 84 = .ok (.aload_n 0, 1) := by decide +kernel
theorem d_Md_update_85 : decode b_Md_update 85 = .ok (.iload_n 1, 1) := by decide +kernel
theorem d_Md_update_86 : decode b_Md_update 86 = .ok (.iconst 2, 1) := by decide +kernel
theorem d_Md_update_87 : decode b_Md_update 87 = .ok (.invokevirtual 170, 3) := by decide +kernel
theorem d_Md_update_90 : decode b_Md_update 90 = .ok (.goto 14, 3) := by decide +kernel
theorem d_Md_update_93 : decode b_Md_update 93 = .ok (.aload_n 0, 1) := by decide +kernel
theorem d_Md_update_94 : decode b_Md_update 94 = .ok (.iload_n 2, 1) := by decide +kernel
theorem d_Md_update_95 : decode b_Md_update 95 = .ok (.aload_n 0, 1) := by decide +kernel
theorem d_Md_update_96 : decode b_Md_update 96 = .ok (.getfield 53, 3) := by decide +kernel
theorem d_Md_update_99 : decode b_Md_update 99 = .ok (.iload_n 2, 1) := by decide +kernel
theorem d_Md_update_100 : decode b_Md_update 100 = .ok (.iaload, 1) := by decide +kernel
theorem d_Md_update_101 : decode b_Md_update 101 = .ok (.invokevirtual 176, 3) := by decide +kernel
theorem d_Md_update_104 : decode b_Md_update 104 = .ok (.return_, 1) := by decide +kernel
theorem d_Md_installed_0 : decode b_Md_installed 0 = .ok (.aload_n 0, 1) := by decide +kernel
theorem d_Md_installed_1 : decode b_Md_installed 1 = .ok (.aload_n 0, 1) := by decide +kernel
theorem d_Md_installed_2 : decode b_Md_installed 2 = .ok (.getfield 83, 3) := by decide +kernel
theorem d_Md_installed_5 : decode b_Md_installed 5 = .ok (.iload_n 1, 1) := by decide +kernel
theorem d_Md_installed_6 : decode b_Md_installed 6 = .ok (.iaload, 1) := by decide +kernel
theorem d_Md_installed_7 : decode b_Md_installed 7 = .ok (.invokevirtual 167, 3) := by decide +kernel
theorem d_Md_installed_10 : decode b_Md_installed 10 = .ok (.istore_n 2, 1) := by decide +kernel
theorem d_Md_installed_11 : decode b_Md_installed 11 = .ok (.aload_n 0, 1) := by decide +kernel
theorem d_Md_installed_12 : decode b_Md_installed 12 = .ok (.getfield 56, 3) := by decide +kernel
theorem d_Md_installed_15 : decode b_Md_installed 15 = .ok (.iload_n 2, 1) := by decide +kernel
theorem d_Md_installed_16 : decode b_Md_installed 16 = .ok (.iaload, 1) := by decide +kernel
theorem d_Md_installed_17 : decode b_Md_installed 17 = .ok (.istore_n 3, 1) := by decide +kernel
theorem d_Md_installed_18 : decode b_Md_installed 18 = .ok (.aload_n 0, 1) := by decide +kernel
theorem d_Md_installed_19 : decode b_Md_installed 19 = .ok (.getfield 56, 3) := by decide +kernel
theorem d_Md_installed_22 : decode b_Md_installed 22 = .ok (.iload_n 2, 1) := by decide +kernel
theorem d_Md_installed_23 : decode b_Md_installed 23 = .ok (.iconst 0, 1) := by decide +kernel
theorem d_Md_installed_24 : decode b_Md_installed 24 = .ok (.iastore, 1) := by decide +kernel
theorem d_Md_installed_25 : decode b_Md_installed 25 = .ok (.aload_n 0, 1) := by decide +kernel
theorem d_Md_installed_26 : decode b_Md_installed 26 = .ok (.getfield 31, 3) := by decide +kernel
theorem d_Md_installed_29 : decode b_Md_installed 29 = .ok (.iload_n 3, 1) := by decide +kernel
theorem d_Md_installed_30 : decode b_Md_installed 30 = .ok (.iaload, 1) := by decide +kernel
theorem d_Md_installed_31 : decode b_Md_installed 31 = .ok (.iconst 1, 1) := by decide +kernel
theorem d_Md_installed_32 : decode b_Md_installed 32 = .ok (.if_icmp .ne 40, 3) := by decide +kernel
theorem d_Md_installed_35 : decode b_Md_installed 35 = .ok (.aload_n 0, 1) := by decide +kernel
theorem d_Md_installed_36 : decode b_Md_installed 36 = .ok (.iload_n 3, 1) := by decide +kernel
theorem d_Md_installed_37 : decode b_Md_installed 37 = .ok (.iconst 4, 1) := by decide +kernel
theorem d_Md_installed_38 : decode b_Md_installed 38 = .ok (.invokevirtual 139, 3) := by decide +kernel
theorem d_Md_installed_41 : decode b_Md_installed 41 = .ok (.aload_n 0, 1) := by decide +kernel
theorem d_Md_installed_42 : decode b_Md_installed 42 = .ok (.getfield 59, 3) := by decide +kernel
theorem d_Md_installed_45 : decode b_Md_installed 45 = .ok (.iload_n 2, 1) := by decide +kernel
theorem d_Md_installed_46 : decode b_Md_installed 46 = .ok (.iaload, 1) := by decide +kernel
theorem d_Md_installed_47 : decode b_Md_installed 47 = .ok (.ifCond .ne 17, 3) := by decide +kernel
theorem d_Md_installed_50 : decode b_Md_installed 50 = .ok (.aload_n 0, 1) := by decide +kernel
theorem d_Md_installed_51 : decode b_Md_installed 51 = .ok (.getfield 62, 3) := by decide +kernel
theorem d_Md_installed_54 : decode b_Md_installed 54 = .ok (.iload_n 2, 1) := by decide +kernel
theorem d_Md_installed_55 : decode b_Md_installed 55 = .ok (.iaload, 1) := by decide +kernel
theorem d_Md_installed_56 : decode b_Md_installed 56 = .ok (.ifCond .ne 8, 3) := by decide +kernel
theorem d_Md_installed_59 : decode b_Md_installed 59 = .ok (.aload_n 0, 1) := by decide +kernel
theorem d_Md_installed_60 : decode b_Md_installed 60 = .ok (.iload_n 2, 1) := by decide +kernel
theorem d_Md_installed_61 : decode b_Md_installed 61 = .ok (.invokevirtual 146, 3) := by decide +kernel
theorem d_Md_installed_64 : decode b_Md_installed 64 = .ok (.aload_n 0, 1) := by decide +kernel
theorem d_Md_installed_65 : decode b_Md_installed 65 = .ok (.iload_n 1, 1) := by decide +kernel
theorem d_Md_installed_66 : decode b_Md_installed 66 = .ok (.bipush (-3), 2) := by decide +kernel
theorem d_Md_installed_68 : decode b_Md_installed 68 = .ok (.invokevirtual 170, 3) := by decide +kernel
theorem d_Md_installed_71 : decode b_Md_installed 71 = .ok (.return_, 1) := by decide +kernel
theorem d_Md_installed_72 : decode b_Md_installed 72 = .ok (.aload_n 0, 1) := by decide +kernel
theorem d_Md_installed_73 : decode b_Md_installed 73 = .ok (.getfield 59, 3) := by decide +kernel
theorem d_Md_installed_76 : decode b_Md_installed 76 = .ok (.iload_n 2, 1) := by decide +kernel
theorem d_Md_installed_77 : decode b_Md_installed 77 = .ok (.iaload, 1) := by decide +kernel
theorem d_Md_installed_78 : decode b_Md_installed 78 = .ok (.ifCond .le 14, 3) := by decide +kernel
theorem d_Md_installed_81 : decode b_Md_installed 81 = .ok (.aload_n 0, 1) := by decide +kernel
theorem d_Md_installed_82 : decode b_Md_installed 82 = .ok (.aload_n 0, 1) := by decide +kernel
theorem d_Md_installed_83 : decode b_Md_installed 83 = .ok (.getfield 59, 3) := by decide +kernel
theorem d_Md_installed_86 : decode b_Md_installed 86 = .ok (.iload_n 2, 1) := by decide +kernel
theorem d_Md_installed_87 : decode b_Md_installed 87 = .ok (.iaload, 1) := by decide +kernel
theorem d_Md_installed_88 : decode b_Md_installed 88 = .ok (.iconst 4, 1) := by decide +kernel
theorem d_Md_installed_89 : decode b_Md_installed 89 = .ok (.invokevirtual 139, 3) := by decide +kernel
theorem d_Md_installed_92 : decode b_Md_installed 92 = .ok (.aload_n 0, 1) := by decide +kernel
theorem d_Md_installed_93 : decode b_Md_installed 93 = .ok (.getfield 59, 3) := by decide +kernel
theorem d_Md_installed_96 : decode b_Md_installed 96 = .ok (.iload_n 2, 1) := by decide +kernel
theorem d_Md_installed_97 : decode b_Md_installed 97 = .ok (.iload_n 3, 1) := by decide +kernel
theorem d_Md_installed_98 : decode b_Md_installed 98 = .ok (.iastore, 1) := by decide +kernel
theorem d_Md_installed_99 : decode b_Md_installed 99 = .ok (.aload_n 0, 1) := by decide +kernel
theorem d_Md_installed_100 : decode b_Md_installed 100 = .ok (.iload_n 3, 1) := by decide +kernel
theorem d_Md_installed_101 : decode b_Md_installed 101 = .ok (.iconst 2, 1) := by decide +kernel
theorem d_Md_installed_102 : decode b_Md_installed 102 = .ok (.invokevirtual 139, 3) := by decide +kernel
theorem d_Md_installed_105 : decode b_Md_installed 105 = .ok (.aload_n 0, 1) := by decide +kernel
theorem d_Md_installed_106 : decode b_Md_installed 106 = .ok (.iload_n 2, 1) := by decide +kernel
theorem d_Md_installed_107 : decode b_Md_installed 107 = .ok (.invokevirtual 155, 3) := by decide +kernel
theorem d_Md_installed_110 : decode b_Md_installed 110 = .ok (.aload_n 0, 1) := by decide +kernel
theorem d_Md_installed_111 : decode b_Md_installed 111 = .ok (.iload_n 1, 1) := by decide +kernel
theorem d_Md_installed_112 : decode b_Md_installed 112 = .ok (.iconst 1, 1) := by decide +kernel
theorem d_Md_installed_113 : decode b_Md_installed 113 = .ok (.invokevirtual 170, 3) := by decide +kernel
theorem d_Md_installed_116 : decode b_Md_installed 116 = .ok (.return_, 1) := by decide +kernel
theorem d_Md_unregister_0 : decode b_Md_unregister 0 = .ok (.aload_n 0, 1) := by decide +kernel
theorem d_Md_unregister_1 : decode b_Md_unregister 1 = .ok (.aload_n 0, 1) := by decide +kernel
theorem d_Md_unregister_2 : decode b_Md_unregister 2 = .ok (.getfield 83, 3) := by decide +kernel
theorem d_Md_unregister_5 : decode b_Md_unregister 5 = .ok (.iload_n 1, 1) := by decide +kernel
theorem d_Md_unregister_6 : decode b_Md_unregister 6 = .ok (.iaload, 1) := by decide +kernel
theorem d_Md_unregister_7 : decode b_Md_unregister 7 = .ok (.invokevirtual 167, 3) := by decide +kernel
theorem d_Md_unregister_10 : decode b_Md_unregister 10 = .ok (.istore_n 2, 1) := by decide +kernel
theorem d_Md_unregister_11 : decode b_Md_unregister 11 = .ok (.iload_n 2, 1) := by decide +kernel
theorem d_Md_unregister_12 : decode b_Md_unregister 12 = .ok (.ifCond .lt 12, 3) := by decide +kernel
theorem d_Md_unregister_15 : decode b_Md_unregister 15 = .ok (.aload_n 0, 1) := by decide +kernel
theorem d_Md_unregister_16 : decode b_Md_unregister 16 = .ok (.getfield 65, 3) := by decide +kernel
theorem d_Md_unregister_19 : decode b_Md_unregister 19 = .ok (.iload_n 2, 1) := by decide +kernel
theorem d_Md_unregister_20 : decode b_Md_unregister 20 = .ok (.baload, 1) := by decide +kernel
theorem d_Md_unregister_21 : decode b_Md_unregister 21 = .ok (.ifCond .eq 11, 3) := by decide +kernel
theorem d_Md_unregister_24 : decode b_Md_unregister 24 = .ok (.aload_n 0, 1) := by decide +kernel
theorem d_Md_unregister_25 : decode b_Md_unregister 25 = .ok (.iload_n 1, 1) := by decide +kernel
theorem d_Md_unregister_26 : decode b_Md_unregister 26 = .ok (.bipush (-2), 2) := by decide +kernel
theorem d_Md_unregister_28 : decode b_Md_unregister 28 = .ok (.invokevirtual 170, 3) := by decide +kernel
theorem d_Md_unregister_31 : decode b_Md_unregister 31 = .ok (.return_, 1) := by decide +kernel
theorem d_Md_unregister_32 : decode b_Md_unregister 32 = .ok (.aload_n 0, 1) := by decide +kernel
theorem d_Md_unregister_33 : decode b_Md_unregister 33 = .ok (.getfield 65, 3) := by decide +kernel
theorem d_Md_unregister_36 : decode b_Md_unregister 36 = .ok (.iload_n 2, 1) := by decide +kernel
theorem d_Md_unregister_37 : decode b_Md_unregister 37 = .ok (.iconst 1, 1) := by decide +kernel
theorem d_Md_unregister_38 : decode b_Md_unregister 38 = .ok (.bastore, 1) := by decide +kernel
theorem d_Md_unregister_39 : decode b_Md_unregister 39 = .ok (.aload_n 0, 1) := by decide +kernel
theorem d_Md_unregister_40 : decode b_Md_unregister 40 = .ok (.iload_n 2, 1) := by decide +kernel
theorem d_Md_unregister_41 : decode b_Md_unregister 41 = .ok (.invokevirtual 152, 3) := by decide +kernel
theorem d_Md_unregister_44 : decode b_Md_unregister 44 = .ok (.pop, 1) := by decide +kernel
theorem d_Md_unregister_45 : decode b_Md_unregister 45 = .ok (.aload_n 0, 1) := by decide +kernel
theorem d_Md_unregister_46 : decode b_Md_unregister 46 = .ok (.iload_n 1, 1) := by decide +kernel
theorem d_Md_unregister_47 : decode b_Md_unregister 47 = .ok (.iconst 1, 1) := by decide +kernel
theorem d_Md_unregister_48 : decode b_Md_unregister 48 = .ok (.invokevirtual 170, 3) := by decide +kernel
theorem d_Md_unregister_51 : decode b_Md_unregister 51 = .ok (.return_, 1) := by decide +kernel
