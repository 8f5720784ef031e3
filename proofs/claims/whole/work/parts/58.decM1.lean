theorem d_Md_go_0 : decode b_Md_go 0 = .ok (.aload_n 0, 1) := by decide +kernel
theorem d_Md_go_1 : decode b_Md_go 1 = .ok (.dup, 1) := by decide +kernel
theorem d_Md_go_2 : decode b_Md_go 2 = .ok (.getfield 129, 3) := by decide +kernel
theorem d_Md_go_5 : decode b_Md_go 5 = .ok (.iconst 1, 1) := by decide +kernel
theorem d_Md_go_6 : decode b_Md_go 6 = .ok (.isub, 1) := by decide +kernel
theorem d_Md_go_7 : decode b_Md_go 7 = .ok (.putfield 129, 3) := by decide +kernel
theorem d_Md_go_10 : decode b_Md_go 10 = .ok (.iload_n 1, 1) := by decide +kernel
theorem d_Md_go_11 : decode b_Md_go 11 = .ok (.istore_n 2, 1) := by decide +kernel
theorem d_Md_go_12 : decode b_Md_go 12 = .ok (.iload_n 2, 1) := by decide +kernel
theorem d_Md_go_13 : decode b_Md_go 13 = .ok (.aload_n 0, 1) := by decide +kernel
theorem d_Md_go_14 : decode b_Md_go 14 = .ok (.getfield 129, 3) := by decide +kernel
theorem d_Md_go_17 : decode b_Md_go 17 = .ok (.if_icmp .ge 93, 3) := by decide +kernel
theorem d_Md_go_20 : decode b_Md_go 20 = .ok (.aload_n 0, 1) := by decide +kernel
theorem d_Md_go_21 : decode b_Md_go 21 = .ok (.getfield 50, 3) := by decide +kernel
theorem d_Md_go_24 : decode b_Md_go 24 = .ok (.iload_n 2, 1) := by decide +kernel
theorem d_Md_go_25 : decode b_Md_go 25 = .ok (.aload_n 0, 1) := by decide +kernel
theorem d_Md_go_26 : decode b_Md_go 26 = .ok (.getfield 50, 3) := by decide +kernel
theorem d_Md_go_29 : decode b_Md_go 29 = .ok (.iload_n 2, 1) := by decide +kernel
theorem d_Md_go_30 : decode b_Md_go 30 = .ok (.iconst 1, 1) := by decide +kernel
theorem d_Md_go_31 : decode b_Md_go 31 = .ok (.iadd, 1) := by decide +kernel
theorem d_Md_go_32 : decode b_Md_go 32 = .ok (.iaload, 1) := by decide +kernel
theorem d_Md_go_33 : decode b_Md_go 33 = .ok (.iastore, 1) := by decide +kernel
theorem d_Md_go_34 : decode b_Md_go 34 = .ok (.aload_n 0, 1) := by decide +kernel
theorem d_Md_go_35 : decode b_Md_go 35 = .ok (.getfield 53, 3) := by decide +kernel
theorem d_Md_go_38 : decode b_Md_go 38 = .ok (.iload_n 2, 1) := by decide +kernel
theorem d_Md_go_39 : decode b_Md_go 39 = .ok (.aload_n 0, 1) := by decide +kernel
theorem d_Md_go_40 : decode b_Md_go 40 = .ok (.getfield 53, 3) := by decide +kernel
theorem d_Md_go_43 : decode b_Md_go 43 = .ok (.iload_n 2, 1) := by decide +kernel
theorem d_Md_go_44 : decode b_Md_go 44 = .ok (.iconst 1, 1) := by decide +kernel
theorem d_Md_go_45 : decode b_Md_go 45 = .ok (.iadd, 1) := by decide +kernel
theorem d_Md_go_46 : decode b_Md_go 46 = .ok (.iaload, 1) := by decide +kernel
theorem d_Md_go_47 : decode b_Md_go 47 = .ok (.iastore, 1) := by decide +kernel
theorem d_Md_go_48 : decode b_Md_go 48 = .ok (.aload_n 0, 1) := by decide +kernel
theorem d_Md_go_49 : decode b_Md_go 49 = .ok (.getfield 56, 3) := by decide +kernel
theorem d_Md_go_52 : decode b_Md_go 52 = .ok (.iload_n 2, 1) := by decide +kernel
theorem d_Md_go_53 : decode b_Md_go 53 = .ok (.aload_n 0, 1) := by decide +kernel
theorem d_Md_go_54 : decode b_Md_go 54 = .ok (.getfield 56, 3) := by decide +kernel
theorem d_Md_go_57 : decode b_Md_go 57 = .ok (.iload_n 2, 1) := by decide +kernel
theorem d_Md_go_58 : decode b_Md_go 58 = .ok (.iconst 1, 1) := by decide +kernel
theorem d_Md_go_59 : decode b_Md_go 59 = .ok (.iadd, 1) := by decide +kernel
theorem d_Md_go_60 : decode b_Md_go 60 = .ok (.iaload, 1) := by decide +kernel
theorem d_Md_go_61 : decode b_Md_go 61 = .ok (.iastore, 1) := by decide +kernel
theorem d_Md_go_62 : decode b_Md_go 62 = .ok (.aload_n 0, 1) := by decide +kernel
theorem d_Md_go_63 : decode b_Md_go 63 = .ok (.getfield 59, 3) := by decide +kernel
theorem d_Md_go_66 : decode b_Md_go 66 = .ok (.iload_n 2, 1) := by decide +kernel
theorem d_Md_go_67 : decode b_Md_go 67 = .ok (.aload_n 0, 1) := by decide +kernel
theorem d_Md_go_68 : decode b_Md_go 68 = .ok (.getfield 59, 3) := by decide +kernel
theorem d_Md_go_71 : decode b_Md_go 71 = .ok (.iload_n 2, 1) := by decide +kernel
theorem d_Md_go_72 : decode b_Md_go 72 = .ok (.iconst 1, 1) := by decide +kernel
theorem d_Md_go_73 : decode b_Md_go 73 = .ok (.iadd, 1) := by decide +kernel
theorem d_Md_go_74 : decode b_Md_go 74 = .ok (.iaload, 1) := by decide +kernel
theorem d_Md_go_75 : decode b_Md_go 75 = .ok (.iastore, 1) := by decide +kernel
theorem d_Md_go_76 : decode b_Md_go 76 = .ok (.aload_n 0, 1) := by decide +kernel
theorem d_Md_go_77 : decode b_Md_go 77 = .ok (.getfield 62, 3) := by decide +kernel
theorem d_Md_go_80 : decode b_Md_go 80 = .ok (.iload_n 2, 1) := by decide +kernel
theorem d_Md_go_81 : decode b_Md_go 81 = .ok (.aload_n 0, 1) := by decide +kernel
theorem d_Md_go_82 : decode b_Md_go 82 = .ok (.getfield 62, 3) := by decide +kernel
theorem d_Md_go_85 : decode b_Md_go 85 = .ok (.iload_n 2, 1) := by decide +kernel
theorem d_Md_go_86 : decode b_Md_go 86 = .ok (.iconst 1, 1) := by decide +kernel
theorem d_Md_go_87 : decode b_Md_go 87 = .ok (.iadd, 1) := by decide +kernel
theorem d_Md_go_88 : decode b_Md_go 88 = .ok (.iaload, 1) := by decide +kernel
theorem d_Md_go_89 : decode b_Md_go 89 = .ok (.iastore, 1) := by decide +kernel
theorem d_Md_go_90 : decode b_Md_go 90 = .ok (.aload_n 0, 1) := by decide +kernel
theorem d_Md_go_91 : decode b_Md_go 91 = .ok (.getfield 65, 3) := by decide +kernel
theorem d_Md_go_94 : decode b_Md_go 94 = .ok (.iload_n 2, 1) := by decide +kernel
theorem d_Md_go_95 : decode b_Md_go 95 = .ok (.aload_n 0, 1) := by decide +kernel
theorem d_Md_go_96 : decode b_Md_go 96 = .ok (.getfield 65, 3) := by decide +kernel
theorem d_Md_go_99 : decode b_Md_go 99 = .ok (.iload_n 2, 1) := by decide +kernel
theorem d_Md_go_100 : decode b_Md_go 100 = .ok (.iconst 1, 1) := by decide +kernel
theorem d_Md_go_101 : decode b_Md_go 101 = .ok (.iadd, 1) := by decide +kernel
theorem d_Md_go_102 : decode b_Md_go 102 = .ok (.baload, 1) := by decide +kernel
theorem d_Md_go_103 : decode b_Md_go 103 = .ok (.bastore, 1) := by decide +kernel
theorem d_Md_go_104 : decode b_Md_go 104 = .ok (.iinc 2 1, 3) := by decide +kernel
theorem d_Md_go_107 : decode b_Md_go 107 = .ok (.goto (-95), 3) := by decide +kernel
theorem d_Md_go_110 : decode b_Md_go 110 = .ok (.return_, 1) := by decide +kernel
theorem d_Md_isControlling_0 : decode b_Md_isControlling 0 = .ok (.iconst 0, 1) := by decide +kernel
theorem d_Md_isControlling_1 : decode b_Md_isControlling 1 = .ok (.istore_n 2, 1) := by decide +kernel
theorem d_Md_isControlling_2 : decode b_Md_isControlling 2 = .ok (.iload_n 2, 1) := by decide +kernel
theorem d_Md_isControlling_3 : decode b_Md_isControlling 3 = .ok (.bipush 8, 2) := by decide +kernel
theorem d_Md_isControlling_5 : decode b_Md_isControlling 5 = .ok (.if_icmp .ge 30, 3) := by decide +kernel
theorem d_Md_isControlling_8 : decode b_Md_isControlling 8 = .ok (.aload_n 0, 1) := by decide +kernel
theorem d_Md_isControlling_9 : decode b_Md_isControlling 9 = .ok (.getfield 68, 3) := by decide +kernel
theorem d_Md_isControlling_12 : decode b_Md_isControlling 12 = .ok (.iload_n 2, 1) := by decide +kernel
theorem d_Md_isControlling_13 : decode b_Md_isControlling 13 = .ok (.baload, 1) := by decide +kernel
theorem d_Md_isControlling_14 : decode b_Md_isControlling 14 = .ok (.ifCond .eq 15, 3) := by decide +kernel
theorem d_Md_isControlling_17 : decode b_Md_isControlling 17 = .ok (.aload_n 0, 1) := by decide +kernel
theorem d_Md_isControlling_18 : decode b_Md_isControlling 18 = .ok (.getfield 77, 3) := by decide +kernel
theorem d_Md_isControlling_21 : decode b_Md_isControlling 21 = .ok (.iload_n 2, 1) := by decide +kernel
theorem d_Md_isControlling_22 : decode b_Md_isControlling 22 = .ok (.iaload, 1) := by decide +kernel
theorem d_Md_isControlling_23 : decode b_Md_isControlling 23 = .ok (.iload_n 1, 1) := by decide +kernel
theorem d_Md_isControlling_24 : decode b_Md_isControlling 24 = .ok (.if_icmp .ne 5, 3) := by decide +kernel
theorem d_Md_isControlling_27 : decode b_Md_isControlling 27 = .ok (.iconst 1, 1) := by decide +kernel
theorem d_Md_isControlling_28 : decode b_Md_isControlling 28 = .ok (.ireturn, 1) := by decide +kernel
theorem d_Md_isControlling_29 : decode b_Md_isControlling 29 = .ok (.iinc 2 1, 3) := by decide +kernel
theorem d_Md_isControlling_32 : decode b_Md_isControlling 32 = .ok (.goto (-30), 3) := by decide +kernel
theorem d_Md_isControlling_35 : decode b_Md_isControlling 35 = .ok (.iconst 0, 1) := by decide +kernel
theorem d_Md_isControlling_36 : decode b_Md_isControlling 36 = .ok (.ireturn, 1) := by decide +kernel
theorem d_Md_activate_0 : decode b_Md_activate 0 = .ok (.aload_n 0, 1) := by decide +kernel
theorem d_Md_activate_1 : decode b_Md_activate 1 = .ok (.getfield 59, 3) := by decide +kernel
theorem d_Md_activate_4 : decode b_Md_activate 4 = .ok (.iload_n 1, 1) := by decide +kernel
theorem d_Md_activate_5 : decode b_Md_activate 5 = .ok (.iaload, 1) := by decide +kernel
theorem d_Md_activate_6 : decode b_Md_activate 6 = .ok (.istore_n 2, 1) := by decide +kernel
theorem d_Md_activate_7 : decode b_Md_activate 7 = .ok (.aload_n 0, 1) := by decide +kernel
theorem d_Md_activate_8 : decode b_Md_activate 8 = .ok (.getfield 62, 3) := by decide +kernel
theorem d_Md_activate_11 : decode b_Md_activate 11 = .ok (.iload_n 1, 1) := by decide +kernel
theorem d_Md_activate_12 : decode b_Md_activate 12 = .ok (.iaload, 1) := by decide +kernel
theorem d_Md_activate_13 : decode b_Md_activate 13 = .ok (.istore_n 3, 1) := by decide +kernel
theorem d_Md_activate_14 : decode b_Md_activate 14 = .ok (.iload_n 2, 1) := by decide +kernel
theorem d_Md_activate_15 : decode b_Md_activate 15 = .ok (.ifCond .eq 24, 3) := by decide +kernel
theorem d_Md_activate_18 : decode b_Md_activate 18 = .ok (.iload_n 3, 1) := by decide +kernel
theorem d_Md_activate_19 : decode b_Md_activate 19 = .ok (.ifCond .le 21, 3) := by decide +kernel
theorem d_Md_activate_22 : decode b_Md_activate 22 = .ok (.aload_n 0, 1) := by decide +kernel
theorem d_Md_activate_23 : decode b_Md_activate 23 = .ok (.getfield 46, 3) := by decide +kernel
theorem d_Md_activate_26 : decode b_Md_activate 26 = .ok (.iload_n 2, 1) := by decide +kernel
theorem d_Md_activate_27 : decode b_Md_activate 27 = .ok (.baload, 1) := by decide +kernel
theorem d_Md_activate_28 : decode b_Md_activate 28 = .ok (.ifCond .ne 12, 3) := by decide +kernel
theorem d_Md_activate_31 : decode b_Md_activate 31 = .ok (.aload_n 0, 1) := by decide +kernel
theorem d_Md_activate_32 : decode b_Md_activate 32 = .ok (.iload_n 3, 1) := by decide +kernel
theorem d_Md_activate_33 : decode b_Md_activate 33 = .ok (.invokevirtual 136, 3) := by decide +kernel
theorem d_Md_activate_36 : decode b_Md_activate 36 = .ok (.ifCond .eq 4, 3) := by decide +kernel
theorem d_Md_activate_39 : decode b_Md_activate 39 = .ok (.return_, 1) := by decide +kernel
theorem d_Md_activate_40 : decode b_Md_activate 40 = .ok (.iload_n 3, 1) := by decide +kernel
theorem d_Md_activate_41 : decode b_Md_activate 41 = .ok (.ifCond .le 9, 3) := by decide +kernel
theorem d_Md_activate_44 : decode b_Md_activate 44 = .ok (.aload_n 0, 1) := by decide +kernel
theorem d_Md_activate_45 : decode b_Md_activate 45 = .ok (.iload_n 3, 1) := by decide +kernel
theorem d_Md_activate_46 : decode b_Md_activate 46 = .ok (.iconst 4, 1) := by decide +kernel
theorem d_Md_activate_47 : decode b_Md_activate 47 = .ok (.invokevirtual 139, 3) := by decide +kernel
theorem d_Md_activate_50 : decode b_Md_activate 50 = .ok (.aload_n 0, 1) := by decide +kernel
theorem d_Md_activate_51 : decode b_Md_activate 51 = .ok (.getfield 59, 3) := by decide +kernel
theorem d_Md_activate_54 : decode b_Md_activate 54 = .ok (.iload_n 1, 1) := by decide +kernel
theorem d_Md_activate_55 : decode b_Md_activate 55 = .ok (.iconst 0, 1) := by decide +kernel
theorem d_Md_activate_56 : decode b_Md_activate 56 = .ok (.iastore, 1) := by decide +kernel
theorem d_Md_activate_57 : decode b_Md_activate 57 = .ok (.aload_n 0, 1) := by decide +kernel
theorem d_Md_activate_58 : decode b_Md_activate 58 = .ok (.getfield 62, 3) := by decide +kernel
theorem d_Md_activate_61 : decode b_Md_activate 61 = .ok (.iload_n 1, 1) := by decide +kernel
theorem d_Md_activate_62 : decode b_Md_activate 62 = .ok (.iload_n 2, 1) := by decide +kernel
theorem d_Md_activate_63 : decode b_Md_activate 63 = .ok (.iastore, 1) := by decide +kernel
theorem d_Md_activate_64 : decode b_Md_activate 64 = .ok (.aload_n 0, 1) := by decide +kernel
theorem d_Md_activate_65 : decode b_Md_activate 65 = .ok (.iload_n 2, 1) := by decide +kernel
theorem d_Md_activate_66 : decode b_Md_activate 66 = .ok (.iconst 3, 1) := by decide +kernel
theorem d_Md_activate_67 : decode b_Md_activate 67 = .ok (.invokevirtual 139, 3) := by decide +kernel
theorem d_Md_activate_70 : decode b_Md_activate 70 = .ok (.iconst 0, 1) := by decide +kernel
theorem d_Md_activate_71 : decode b_Md_activate 71 = .ok (.istore 4, 2) := by decide +kernel
theorem d_Md_activate_73 : decode b_Md_activate 73 = .ok (.iload 4, 2) := by decide +kernel
theorem d_Md_activate_75 : decode b_Md_activate 75 = .ok (.bipush 8, 2) := by decide +kernel
theorem d_Md_activate_77 : decode b_Md_activate 77 = .ok (.if_icmp .ge 41, 3) := by decide +kernel
theorem d_Md_activate_80 : decode b_Md_activate 80 = .ok (.iload_n 3, 1) := by decide +kernel
theorem d_Md_activate_81 : decode b_Md_activate 81 = .ok (.ifCond .le 37, 3) := by decide +kernel
theorem d_Md_activate_84 : decode b_Md_activate 84 = .ok (.aload_n 0, 1) := by decide +kernel
theorem d_Md_activate_85 : decode b_Md_activate 85 = .ok (.getfield 68, 3) := by decide +kernel
theorem d_Md_activate_88 : decode b_Md_activate 88 = .ok (.iload 4, 2) := by decide +kernel
theorem d_Md_activate_90 : decode b_Md_activate 90 = .ok (.baload, 1) := by decide +kernel
theorem d_Md_activate_91 : decode b_Md_activate 91 = .ok (.ifCond .eq 21, 3) := by decide +kernel
theorem d_Md_activate_94 : decode b_Md_activate 94 = .ok (.aload_n 0, 1) := by decide +kernel
theorem d_Md_activate_95 : decode b_Md_activate 95 = .ok (.getfield 77, 3) := by decide +kernel
theorem d_Md_activate_98 : decode b_Md_activate 98 = .ok (.iload 4, 2) := by decide +kernel
theorem d_Md_activate_100 : decode b_Md_activate 100 = .ok (.iaload, 1) := by decide +kernel
theorem d_Md_activate_101 : decode b_Md_activate 101 = .ok (.iload_n 3, 1) := by decide +kernel
theorem d_Md_activate_102 : decode b_Md_activate 102 = .ok (.if_icmp .ne 10, 3) := by decide +kernel
theorem d_Md_activate_105 : decode b_Md_activate 105 = .ok (.aload_n 0, 1) := by decide +kernel
theorem d_Md_activate_106 : decode b_Md_activate 106 = .ok (.iload 4, 2) := by decide +kernel
theorem d_Md_activate_108 : decode b_Md_activate 108 = .ok (.iload_n 2, 1) := by decide +kernel
theorem d_Md_activate_109 : decode b_Md_activate 109 = .ok (.invokevirtual 143, 3) := by decide +kernel
theorem d_Md_activate_112 : decode b_Md_activate 112 = .ok (.iinc 4 1, 3) := by decide +kernel
theorem d_Md_activate_115 : decode b_Md_activate 115 = .ok (.goto (-42), 3) := by decide +kernel
theorem d_Md_activate_118 : decode b_Md_activate 118 = .ok (.return_, 1) := by decide +kernel
theorem d_Md_clearAway_0 : decode b_Md_clearAway 0 = .ok (.aload_n 0, 1) := by decide +kernel
theorem d_Md_clearAway_1 : decode b_Md_clearAway 1 = .ok (.getfield 65, 3) := by decide +kernel
theorem d_Md_clearAway_4 : decode b_Md_clearAway 4 = .ok (.iload_n 1, 1) := by decide +kernel
theorem d_Md_clearAway_5 : decode b_Md_clearAway 5 = .ok (.baload, 1) := by decide +kernel
theorem d_Md_clearAway_6 : decode b_Md_clearAway 6 = .ok (.ifCond .eq 34, 3) := by decide +kernel
theorem d_Md_clearAway_9 : decode b_Md_clearAway 9 = .ok (.aload_n 0, 1) := by decide +kernel
theorem d_Md_clearAway_10 : decode b_Md_clearAway 10 = .ok (.getfield 56, 3) := by decide +kernel
theorem d_Md_clearAway_13 : decode b_Md_clearAway 13 = .ok (.iload_n 1, 1) := by decide +kernel
theorem d_Md_clearAway_14 : decode b_Md_clearAway 14 = .ok (.iaload, 1) := by decide +kernel
theorem d_Md_clearAway_15 : decode b_Md_clearAway 15 = .ok (.ifCond .gt 25, 3) := by decide +kernel
theorem d_Md_clearAway_18 : decode b_Md_clearAway 18 = .ok (.aload_n 0, 1) := by decide +kernel
theorem d_Md_clearAway_19 : decode b_Md_clearAway 19 = .ok (.getfield 62, 3) := by decide +kernel
theorem d_Md_clearAway_22 : decode b_Md_clearAway 22 = .ok (.iload_n 1, 1) := by decide +kernel
theorem d_Md_clearAway_23 : decode b_Md_clearAway 23 = .ok (.iaload, 1) := by decide +kernel
theorem d_Md_clearAway_24 : decode b_Md_clearAway 24 = .ok (.ifCond .le 18, 3) := by decide +kernel
theorem d_Md_clearAway_27 : decode b_Md_clearAway 27 = .ok (.aload_n 0, 1) := by decide +kernel
theorem d_Md_clearAway_28 : decode b_Md_clearAway 28 = .ok (.aload_n 0, 1) := by decide +kernel
theorem d_Md_clearAway_29 : decode b_Md_clearAway 29 = .ok (.getfield 62, 3) := by decide +kernel
theorem d_Md_clearAway_32 : decode b_Md_clearAway 32 = .ok (.iload_n 1, 1) := by decide +kernel
theorem d_Md_clearAway_33 : decode b_Md_clearAway 33 = .ok (.iaload, 1) := by decide +kernel
theorem d_Md_clearAway_34 : decode b_Md_clearAway 34 = .ok (.invokevirtual 136, 3) := by decide +kernel
theorem d_Md_clearAway_37 : decode b_Md_clearAway 37 = .ok (.ifCond .eq 5, 3) := by decide +kernel
theorem d_Md_clearAway_40 : decode b_Md_clearAway 40 = .ok (.iconst 0, 1) := by decide +kernel
theorem d_Md_clearAway_41 : decode b_Md_clearAway 41 = .ok (.ireturn, 1) := by decide +kernel
theorem d_Md_clearAway_42 : decode b_Md_clearAway 42 = .ok (.aload_n 0, 1) := by decide +kernel
theorem d_Md_clearAway_43 : decode b_Md_clearAway 43 = .ok (.getfield 59, 3) := by decide +kernel
theorem d_Md_clearAway_46 : decode b_Md_clearAway 46 = .ok (.iload_n 1, 1) := by decide +kernel
theorem d_Md_clearAway_47 : decode b_Md_clearAway 47 = .ok (.iaload, 1) := by decide +kernel
theorem d_Md_clearAway_48 : decode b_Md_clearAway 48 = .ok (.ifCond .le 14, 3) := by decide +kernel
theorem d_Md_clearAway_51 : decode b_Md_clearAway 51 = .ok (.aload_n 0, 1) := by decide +kernel
theorem d_Md_clearAway_52 : decode b_Md_clearAway 52 = .ok (.aload_n 0, 1) := by decide +kernel
theorem d_Md_clearAway_53 : decode b_Md_clearAway 53 = .ok (.getfield 59, 3) := by decide +kernel
theorem d_Md_clearAway_56 : decode b_Md_clearAway 56 = .ok (.iload_n 1, 1) := by decide +kernel
theorem d_Md_clearAway_57 : decode b_Md_clearAway 57 = .ok (.iaload, 1) := by decide +kernel
theorem d_Md_clearAway_58 : decode b_Md_clearAway 58 = .ok (.iconst 4, 1) := by decide +kernel
theorem d_Md_clearAway_59 : decode b_Md_clearAway 59 = .ok (.invokevirtual 139, 3) := by decide +kernel
theorem d_Md_clearAway_62 : decode b_Md_clearAway 62 = .ok (.aload_n 0, 1) := by decide +kernel
theorem d_Md_clearAway_63 : decode b_Md_clearAway 63 = .ok (.getfield 62, 3) := by decide +kernel
theorem d_Md_clearAway_66 : decode b_Md_clearAway 66 = .ok (.iload_n 1, 1) := by decide +kernel
theorem d_Md_clearAway_67 : decode b_Md_clearAway 67 = .ok (.iaload, 1) := by decide +kernel
theorem d_Md_clearAway_68 : decode b_Md_clearAway 68 = .ok (.ifCond .le 14, 3) := by decide +kernel
theorem d_Md_clearAway_71 : decode b_Md_clearAway 71 = .ok (.aload_n 0, 1) := by decide +kernel
theorem d_Md_clearAway_72 : decode b_Md_clearAway 72 = .ok (.aload_n 0, 1) := by decide +kernel
theorem d_Md_clearAway_73 : decode b_Md_clearAway 73 = .ok (.getfield 62, 3) := by decide +kernel
theorem d_Md_clearAway_76 : decode b_Md_clearAway 76 = .ok (.iload_n 1, 1) := by decide +kernel
theorem d_Md_clearAway_77 : decode b_Md_clearAway 77 = .ok (.iaload, 1) := by decide +kernel
theorem d_Md_clearAway_78 : decode b_Md_clearAway 78 = .ok (.iconst 4, 1) := by decide +kernel
theorem d_Md_clearAway_79 : decode b_Md_clearAway 79 = .ok (.invokevirtual 139, 3) := by decide +kernel
theorem d_Md_clearAway_82 : decode b_Md_clearAway 82 = .ok (.aload_n 0, 1) := by decide +kernel
theorem d_Md_clearAway_83 : decode b_Md_clearAway 83 = .ok (.iload_n 1, 1) := by decide +kernel
theorem d_Md_clearAway_84 : decode b_Md_clearAway 84 = .ok (.invokevirtual 146, 3) := by decide +kernel
theorem d_Md_clearAway_87 : decode b_Md_clearAway 87 = .ok (.iconst 1, 1) := by decide +kernel
theorem d_Md_clearAway_88 : decode b_Md_clearAway 88 = .ok (.ireturn, 1) := by decide +kernel
theorem d_Md_settle_0 : decode b_Md_settle 0 = .ok (.iload_n 1, 1) := by decide +kernel
theorem d_Md_settle_1 : decode b_Md_settle 1 = .ok (.ifCond .le 11, 3) := by decide +kernel
theorem d_Md_settle_4 : decode b_Md_settle 4 = .ok (.aload_n 0, 1) := by decide +kernel
theorem d_Md_settle_5 : decode b_Md_settle 5 = .ok (.iload_n 1, 1) := by decide +kernel
theorem d_Md_settle_6 : decode b_Md_settle 6 = .ok (.invokevirtual 149, 3) := by decide +kernel
theorem d_Md_settle_9 : decode b_Md_settle 9 = .ok (.goto 4, 3) := by decide +kernel
theorem d_Md_settle_12 : decode b_Md_settle 12 = .ok (.iconst (-1), 1) := by decide +kernel
theorem d_Md_settle_13 : decode b_Md_settle 13 = .ok (.istore_n 2, 1) := by decide +kernel
theorem d_Md_settle_14 : decode b_Md_settle 14 = .ok (.iload_n 2, 1) := by decide +kernel
theorem d_Md_settle_15 : decode b_Md_settle 15 = .ok (.ifCond .ge 4, 3) := by decide +kernel
theorem d_Md_settle_18 : decode b_Md_settle 18 = .ok (.return_, 1) := by decide +kernel
theorem d_Md_settle_19 : decode b_Md_settle 19 = .ok (.aload_n 0, 1) := by decide +kernel
theorem d_Md_settle_20 : decode b_Md_settle 20 = .ok (.iload_n 2, 1) := by decide +kernel
theorem d_Md_settle_21 : decode b_Md_settle 21 = .ok (.invokevirtual 152, 3) := by decide +kernel
theorem d_Md_settle_24 : decode b_Md_settle 24 = .ok (.istore_n 3, 1) := by decide +kernel
theorem d_Md_settle_25 : decode b_Md_settle 25 = .ok (.iload_n 3, 1) := by decide +kernel
theorem d_Md_settle_26 : decode b_Md_settle 26 = .ok (.ifCond .ne 8, 3) := by decide +kernel
theorem d_Md_settle_29 : decode b_Md_settle 29 = .ok (.aload_n 0, 1) := by decide +kernel
theorem d_Md_settle_30 : decode b_Md_settle 30 = .ok (.iload_n 2, 1) := by decide +kernel
theorem d_Md_settle_31 : decode b_Md_settle 31 = .ok (.invokevirtual 155, 3) := by decide +kernel
theorem d_Md_settle_34 : decode b_Md_settle 34 = .ok (.return_, 1) := by decide +kernel
theorem d_Md_firstOf_0 : decode b_Md_firstOf 0 = .ok (.iconst 0, 1) := by decide +kernel
theorem d_Md_firstOf_1 : decode b_Md_firstOf 1 = .ok (.istore_n 2, 1) := by decide +kernel
theorem d_Md_firstOf_2 : decode b_Md_firstOf 2 = .ok (.iload_n 2, 1) := by decide +kernel
theorem d_Md_firstOf_3 : decode b_Md_firstOf 3 = .ok (.aload_n 0, 1) := by decide +kernel
theorem d_Md_firstOf_4 : decode b_Md_firstOf 4 = .ok (.getfield 158, 3) := by decide +kernel
theorem d_Md_firstOf_7 : decode b_Md_firstOf 7 = .ok (.if_icmp .ge 30, 3) := by decide +kernel
theorem d_Md_firstOf_10 : decode b_Md_firstOf 10 = .ok (.aload_n 0, 1) := by decide +kernel
theorem d_Md_firstOf_11 : decode b_Md_firstOf 11 = .ok (.getfield 83, 3) := by decide +kernel
theorem d_Md_firstOf_14 : decode b_Md_firstOf 14 = .ok (.iload_n 2, 1) := by decide +kernel
theorem d_Md_firstOf_15 : decode b_Md_firstOf 15 = .ok (.iaload, 1) := by decide +kernel
theorem d_Md_firstOf_16 : decode b_Md_firstOf 16 = .ok (.iload_n 1, 1) := by decide +kernel
theorem d_Md_firstOf_17 : decode b_Md_firstOf 17 = .ok (.if_icmp .ne 14, 3) := by decide +kernel
theorem d_Md_firstOf_20 : decode b_Md_firstOf 20 = .ok (.aload_n 0, 1) := by decide +kernel
theorem d_Md_firstOf_21 : decode b_Md_firstOf 21 = .ok (.getfield 89, 3) := by decide +kernel
theorem d_Md_firstOf_24 : decode b_Md_firstOf 24 = .ok (.iload_n 2, 1) := by decide +kernel
theorem d_Md_firstOf_25 : decode b_Md_firstOf 25 = .ok (.iaload, 1) := by decide +kernel
theorem d_Md_firstOf_26 : decode b_Md_firstOf 26 = .ok (.ifCond .ne 5, 3) := by decide +kernel
theorem d_Md_firstOf_29 : decode b_Md_firstOf 29 = .ok (.iload_n 2, 1) := by decide +kernel
theorem d_Md_firstOf_30 : decode b_Md_firstOf 30 = .ok (.ireturn, 1) := by decide +kernel
theorem d_Md_firstOf_31 : decode b_Md_firstOf 31 = .ok (.iinc 2 1, 3) := by decide +kernel
theorem d_Md_firstOf_34 : decode b_Md_firstOf 34 = .ok (.goto (-32), 3) := by decide +kernel
theorem d_Md_firstOf_37 : decode b_Md_firstOf 37 = .ok (.iconst (-1), 1) := by decide +kernel
theorem d_Md_firstOf_38 : decode b_Md_firstOf 38 = .ok (.ireturn, 1) := by decide +kernel
theorem d_Md_job_0 : decode b_Md_job 0 = .ok (.iload_n 1, 1) := by decide +kernel
theorem d_Md_job_1 : decode b_Md_job 1 = .ok (.iconst 0, 1) := by decide +kernel
theorem d_Md_job_2 : decode b_Md_job 2 = .ok (.iconst 2, 1) := by decide +kernel
theorem d_Md_job_3 : decode b_Md_job 3 = .ok (.invokestatic 103, 3) := by decide +kernel
theorem d_Md_job_6 : decode b_Md_job 6 = .ok (.ifCond .eq 23, 3) := by decide +kernel
theorem d_Md_job_9 : decode b_Md_job 9 = .ok (.iload_n 2, 1) := by decide +kernel
theorem d_Md_job_10 : decode b_Md_job 10 = .ok (.invokestatic 118, 3) := by decide +kernel
theorem d_Md_job_13 : decode b_Md_job 13 = .ok (.ifCond .eq 16, 3) := by decide +kernel
theorem d_Md_job_16 : decode b_Md_job 16 = .ok (.iload_n 1, 1) := by decide +kernel
theorem d_Md_job_17 : decode b_Md_job 17 = .ok (.ifCond .ne 18, 3) := by decide +kernel
theorem d_Md_job_20 : decode b_Md_job 20 = .ok (.iload_n 3, 1) := by decide +kernel
theorem d_Md_job_21 : decode b_Md_job 21 = .ok (.iconst 0, 1) := by decide +kernel
theorem d_Md_job_22 : decode b_Md_job 22 = .ok (.iconst 3, 1) := by decide +kernel
theorem d_Md_job_23 : decode b_Md_job 23 = .ok (.invokestatic 103, 3) := by decide +kernel
theorem d_Md_job_26 : decode b_Md_job 26 = .ok (.ifCond .ne 9, 3) := by decide +kernel
theorem d_Md_job_29 : decode b_Md_job 29 = .ok (.aload_n 0, 1) := by decide +kernel
theorem d_Md_job_30 : decode b_Md_job 30 = .ok (.iconst 1, 1) := by decide +kernel
theorem d_Md_job_31 : decode b_Md_job 31 = .ok (.invokevirtual 161, 3) := by decide +kernel
theorem d_Md_job_34 : decode b_Md_job 34 = .ok (.ireturn, 1) := by decide +kernel
theorem d_Md_job_35 : decode b_Md_job 35 = .ok (.iconst (-1), 1) := by decide +kernel
theorem d_Md_job_36 : decode b_Md_job 36 = .ok (.istore 4, 2) := by decide +kernel
theorem d_Md_job_38 : decode b_Md_job 38 = .ok (.iconst 0, 1) := by decide +kernel
theorem d_Md_job_39 : decode b_Md_job 39 = .ok (.istore 5, 2) := by decide +kernel
theorem d_Md_job_41 : decode b_Md_job 41 = .ok (.iload_n 1, 1) := by decide +kernel
theorem d_Md_job_42 : decode b_Md_job 42 = .ok (.ifCond .ne 7, 3) := by decide +kernel
theorem d_Md_job_45 : decode b_Md_job 45 = .ok (.iload_n 3, 1) := by decide +kernel
theorem d_Md_job_46 : decode b_Md_job 46 = .ok (.goto 4, 3) := by decide +kernel
theorem d_Md_job_49 : decode b_Md_job 49 = .ok (.iconst 0, 1) := by decide +kernel
theorem d_Md_job_50 : decode b_Md_job 50 = .ok (.istore 6, 2) := by decide +kernel
theorem d_Md_job_52 : decode b_Md_job 52 = .ok (.iconst 0, 1) := by decide +kernel
theorem d_Md_job_53 : decode b_Md_job 53 = .ok (.istore 7, 2) := by decide +kernel
theorem d_Md_job_55 : decode b_Md_job 55 = .ok (.iload 7, 2) := by decide +kernel
theorem d_Md_job_57 : decode b_Md_job 57 = .ok (.aload_n 0, 1) := by decide +kernel
theorem d_Md_job_58 : decode b_Md_job 58 = .ok (.getfield 158, 3) := by decide +kernel
theorem d_Md_job_61 : decode b_Md_job 61 = .ok (.if_icmp .ge 40, 3) := by decide +kernel
theorem d_Md_job_64 : decode b_Md_job 64 = .ok (.aload_n 0, 1) := by decide +kernel
theorem d_Md_job_65 : decode b_Md_job 65 = .ok (.getfield 83, 3) := by decide +kernel
theorem d_Md_job_68 : decode b_Md_job 68 = .ok (.iload 7, 2) := by decide +kernel
theorem d_Md_job_70 : decode b_Md_job 70 = .ok (.iaload, 1) := by decide +kernel
theorem d_Md_job_71 : decode b_Md_job 71 = .ok (.iload_n 2, 1) := by decide +kernel
theorem d_Md_job_72 : decode b_Md_job 72 = .ok (.if_icmp .ne 23, 3) := by decide +kernel
theorem d_Md_job_75 : decode b_Md_job 75 = .ok (.aload_n 0, 1) := by decide +kernel
theorem d_Md_job_76 : decode b_Md_job 76 = .ok (.getfield 89, 3) := by decide +kernel
theorem d_Md_job_79 : decode b_Md_job 79 = .ok (.iload 7, 2) := by decide +kernel
theorem d_Md_job_81 : decode b_Md_job 81 = .ok (.iaload, 1) := by decide +kernel
theorem d_Md_job_82 : decode b_Md_job 82 = .ok (.ifCond .eq 6, 3) := by decide +kernel
theorem d_Md_job_85 : decode b_Md_job 85 = .ok (.goto 10, 3) := by decide +kernel
theorem d_Md_job_88 : decode b_Md_job 88 = .ok (.iload 7, 2) := by decide +kernel
theorem d_Md_job_90 : decode b_Md_job 90 = .ok (.istore 4, 2) := by decide +kernel
theorem d_Md_job_92 : decode b_Md_job 92 = .ok (.iinc 5 1, 3) := by decide +kernel
theorem d_Md_job_95 : decode b_Md_job 95 = .ok (.iinc 7 1, 3) := by decide +kernel
theorem d_Md_job_98 : decode b_Md_job 98 = .ok (.goto (-43), 3) := by decide +kernel
theorem d_Md_job_101 : decode b_Md_job 101 = .ok (.aload_n 0, 1) := by decide +kernel
theorem d_Md_job_102 : decode b_Md_job 102 = .ok (.iconst 0, 1) := by decide +kernel
theorem d_Md_job_103 : decode b_Md_job 103 = .ok (.putfield 98, 3) := by decide +kernel
theorem d_Md_job_106 : decode b_Md_job 106 = .ok (.iload 4, 2) := by decide +kernel
theorem d_Md_job_108 : decode b_Md_job 108 = .ok (.ifCond .lt 39, 3) := by decide +kernel
theorem d_Md_job_111 : decode b_Md_job 111 = .ok (.aload_n 0, 1) := by decide +kernel
theorem d_Md_job_112 : decode b_Md_job 112 = .ok (.getfield 80, 3) := by decide +kernel
theorem d_Md_job_115 : decode b_Md_job 115 = .ok (.iload 4, 2) := by decide +kernel
theorem d_Md_job_117 : decode b_Md_job 117 = .ok (.iaload, 1) := by decide +kernel
theorem d_Md_job_118 : decode b_Md_job 118 = .ok (.iload_n 1, 1) := by decide +kernel
theorem d_Md_job_119 : decode b_Md_job 119 = .ok (.if_icmp .ne 28, 3) := by decide +kernel
theorem d_Md_job_122 : decode b_Md_job 122 = .ok (.aload_n 0, 1) := by decide +kernel
theorem d_Md_job_123 : decode b_Md_job 123 = .ok (.getfield 86, 3) := by decide +kernel
theorem d_Md_job_126 : decode b_Md_job 126 = .ok (.iload 4, 2) := by decide +kernel
theorem d_Md_job_128 : decode b_Md_job 128 = .ok (.iaload, 1) := by decide +kernel
theorem d_Md_job_129 : decode b_Md_job 129 = .ok (.iload 6, 2) := by decide +kernel
theorem d_Md_job_131 : decode b_Md_job 131 = .ok (.if_icmp .ne 16, 3) := by decide +kernel
theorem d_Md_job_134 : decode b_Md_job 134 = .ok (.aload_n 0, 1) := by decide +kernel
theorem d_Md_job_135 : decode b_Md_job 135 = .ok (.getfield 71, 3) := by decide +kernel
theorem d_Md_job_138 : decode b_Md_job 138 = .ok (.iload 4, 2) := by decide +kernel
theorem d_Md_job_140 : decode b_Md_job 140 = .ok (.baload, 1) := by decide +kernel
theorem d_Md_job_141 : decode b_Md_job 141 = .ok (.ifCond .ne 6, 3) := by decide +kernel
theorem d_Md_job_144 : decode b_Md_job 144 = .ok (.iload 4, 2) := by decide +kernel
theorem d_Md_job_146 : decode b_Md_job 146 = .ok (.ireturn, 1) := by decide +kernel
theorem d_Md_job_147 : decode b_Md_job 147 = .ok (.iload 5, 2) := by decide +kernel
theorem d_Md_job_149 : decode b_Md_job 149 = .ok (.iconst 4, 1) := by decide +kernel
theorem d_Md_job_150 : decode b_Md_job 150 = .ok (.if_icmp .eq 12, 3) := by decide +kernel
theorem d_Md_job_153 : decode b_Md_job 153 = .ok (.aload_n 0, 1) := by decide +kernel
theorem d_Md_job_154 : decode b_Md_job 154 = .ok (.getfield 158, 3) := by decide +kernel
theorem d_Md_job_157 : decode b_Md_job 157 = .ok (.bipush 60, 2) := by decide +kernel
theorem d_Md_job_159 : decode b_Md_job 159 = .ok (.if_icmp .ne 9, 3) := by decide +kernel
theorem d_Md_job_162 : decode b_Md_job 162 = .ok (.aload_n 0, 1) := by decide +kernel
theorem d_Md_job_163 : decode b_Md_job 163 = .ok (.iconst 2, 1) := by decide +kernel
theorem d_Md_job_164 : decode b_Md_job 164 = .ok (.invokevirtual 161, 3) := by decide +kernel
theorem d_Md_job_167 : decode b_Md_job 167 = .ok (.ireturn, 1) := by decide +kernel
theorem d_Md_job_168 : decode b_Md_job 168 = .ok (.aload_n 0, 1) := by decide +kernel
theorem d_Md_job_169 : decode b_Md_job 169 = .ok (.getfield 80, 3) := by decide +kernel
theorem d_Md_job_172 : decode b_Md_job 172 = .ok (.aload_n 0, 1) := by decide +kernel
theorem d_Md_job_173 : decode b_Md_job 173 = .ok (.getfield 158, 3) := by decide +kernel
theorem d_Md_job_176 : decode b_Md_job 176 = .ok (.iload_n 1, 1) := by decide +kernel
theorem d_Md_job_177 : decode b_Md_job 177 = .ok (.iastore, 1) := by decide +kernel
theorem d_Md_job_178 : decode b_Md_job 178 = .ok (.aload_n 0, 1) := by decide +kernel
theorem d_Md_job_179 : decode b_Md_job 179 = .ok (.getfield 83, 3) := by decide +kernel
theorem d_Md_job_182 : decode b_Md_job 182 = .ok (.aload_n 0, 1) := by decide +kernel
theorem d_Md_job_183 : decode b_Md_job 183 = .ok (.getfield 158, 3) := by decide +kernel
theorem d_Md_job_186 : decode b_Md_job 186 = .ok (.iload_n 2, 1) := by decide +kernel
theorem d_Md_job_187 : decode b_Md_job 187 = .ok (.iastore, 1) := by decide +kernel
theorem d_Md_job_188 : decode b_Md_job 188 = .ok (.aload_n 0, 1) := by decide +kernel
theorem d_Md_job_189 : decode b_Md_job 189 = .ok (.getfield 86, 3) := by decide +kernel
theorem d_Md_job_192 : decode b_Md_job 192 = .ok (.aload_n 0, 1) := by decide +kernel
theorem d_Md_job_193 : decode b_Md_job 193 = .ok (.getfield 158, 3) := by decide +kernel
theorem d_Md_job_196 : decode b_Md_job 196 = .ok (.iload 6, 2) := by decide +kernel
theorem d_Md_job_198 : decode b_Md_job 198 = .ok (.iastore, 1) := by decide +kernel
theorem d_Md_job_199 : decode b_Md_job 199 = .ok (.aload_n 0, 1) := by decide +kernel
theorem d_Md_job_200 : decode b_Md_job 200 = .ok (.getfield 89, 3) := by decide +kernel
theorem d_Md_job_203 : decode b_Md_job 203 = .ok (.aload_n 0, 1) := by decide +kernel
theorem d_Md_job_204 : decode b_Md_job 204 = .ok (.getfield 158, 3) := by decide +kernel
theorem d_Md_job_207 : decode b_Md_job 207 = .ok (.iconst 0, 1) := by decide +kernel
theorem d_Md_job_208 : decode b_Md_job 208 = .ok (.iastore, 1) := by decide +kernel
theorem d_Md_job_209 : decode b_Md_job 209 = .ok (.aload_n 0, 1) := by decide +kernel
theorem d_Md_job_210 : decode b_Md_job 210 = .ok (.getfield 71, 3) := by decide +kernel
theorem d_Md_job_213 : decode b_Md_job 213 = .ok (.aload_n 0, 1) := by decide +kernel
theorem d_Md_job_214 : decode b_Md_job 214 = .ok (.getfield 158, 3) := by decide +kernel
theorem d_Md_job_217 : decode b_Md_job 217 = .ok (.iconst 0, 1) := by decide +kernel
theorem d_Md_job_218 : decode b_Md_job 218 = .ok (.bastore, 1) := by decide +kernel
theorem d_Md_job_219 : decode b_Md_job 219 = .ok (.aload_n 0, 1) := by decide +kernel
theorem d_Md_job_220 : decode b_Md_job 220 = .ok (.dup, 1) := by decide +kernel
theorem d_Md_job_221 : decode b_Md_job 221 = .ok (.getfield 158, 3) := by decide +kernel
theorem d_Md_job_224 : decode b_Md_job 224 = .ok (.iconst 1, 1) := by decide +kernel
theorem d_Md_job_225 : decode b_Md_job 225 = .ok (.iadd, 1) := by decide +kernel
theorem d_Md_job_226 : decode b_Md_job 226 = .ok (.putfield 158, 3) := by decide +kernel
theorem d_Md_job_229 : decode b_Md_job 229 = .ok (.aload_n 0, 1) := by decide +kernel
theorem d_Md_job_230 : decode b_Md_job 230 = .ok (.getfield 158, 3) := by decide +kernel
theorem d_Md_job_233 : decode b_Md_job 233 = .ok (.iconst 1, 1) := by decide +kernel
theorem d_Md_job_234 : decode b_Md_job 234 = .ok (.isub, 1) := by decide +kernel
theorem d_Md_job_235 : decode b_Md_job 235 = .ok (.ireturn, 1) := by decide +kernel
