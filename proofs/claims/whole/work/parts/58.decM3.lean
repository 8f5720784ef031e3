theorem d_Md_step_0 : decode b_Md_step 0 = .ok (.iload_n 1, 1) := by decide +kernel
theorem d_Md_step_1 : decode b_Md_step 1 = .ok (.invokestatic 118, 3) := by decide +kernel
theorem d_Md_step_4 : decode b_Md_step 4 = .ok (.ifCond .ne 9, 3) := by decide +kernel
theorem d_Md_step_7 : decode b_Md_step 7 = .ok (.aload_n 0, 1) := by decide +kernel
theorem d_Md_step_8 : decode b_Md_step 8 = .ok (.iconst 1, 1) := by decide +kernel
theorem d_Md_step_9 : decode b_Md_step 9 = .ok (.invokevirtual 161, 3) := by decide +kernel
theorem d_Md_step_12 : decode b_Md_step 12 = .ok (.ireturn, 1) := by decide +kernel
theorem d_Md_step_13 : decode b_Md_step 13 = .ok (.aload_n 0, 1) := by decide +kernel
theorem d_Md_step_14 : decode b_Md_step 14 = .ok (.iload_n 1, 1) := by decide +kernel
theorem d_Md_step_15 : decode b_Md_step 15 = .ok (.invokevirtual 179, 3) := by decide +kernel
theorem d_Md_step_18 : decode b_Md_step 18 = .ok (.istore_n 2, 1) := by decide +kernel
theorem d_Md_step_19 : decode b_Md_step 19 = .ok (.iload_n 2, 1) := by decide +kernel
theorem d_Md_step_20 : decode b_Md_step 20 = .ok (.ifCond .ge 9, 3) := by decide +kernel
theorem d_Md_step_23 : decode b_Md_step 23 = .ok (.aload_n 0, 1) := by decide +kernel
theorem d_Md_step_24 : decode b_Md_step 24 = .ok (.iconst 2, 1) := by decide +kernel
theorem d_Md_step_25 : decode b_Md_step 25 = .ok (.invokevirtual 161, 3) := by decide +kernel
theorem d_Md_step_28 : decode b_Md_step 28 = .ok (.ireturn, 1) := by decide +kernel
theorem d_Md_step_29 : decode b_Md_step 29 = .ok (.aload_n 0, 1) := by decide +kernel
theorem d_Md_step_30 : decode b_Md_step 30 = .ok (.iconst 0, 1) := by decide +kernel
theorem d_Md_step_31 : decode b_Md_step 31 = .ok (.putfield 98, 3) := by decide +kernel
theorem d_Md_step_34 : decode b_Md_step 34 = .ok (.aload_n 0, 1) := by decide +kernel
theorem d_Md_step_35 : decode b_Md_step 35 = .ok (.getfield 71, 3) := by decide +kernel
theorem d_Md_step_38 : decode b_Md_step 38 = .ok (.iload_n 2, 1) := by decide +kernel
theorem d_Md_step_39 : decode b_Md_step 39 = .ok (.baload, 1) := by decide +kernel
theorem d_Md_step_40 : decode b_Md_step 40 = .ok (.ifCond .eq 11, 3) := by decide +kernel
theorem d_Md_step_43 : decode b_Md_step 43 = .ok (.aload_n 0, 1) := by decide +kernel
theorem d_Md_step_44 : decode b_Md_step 44 = .ok (.iload_n 2, 1) := by decide +kernel
theorem d_Md_step_45 : decode b_Md_step 45 = .ok (.invokevirtual 182, 3) := by decide +kernel
theorem d_Md_step_48 : decode b_Md_step 48 = .ok (.goto 43, 3) := by decide +kernel
theorem d_Md_step_51 : decode b_Md_step 51 = .ok (.aload_n 0, 1) := by decide +kernel
theorem d_Md_step_52 : decode b_Md_step 52 = .ok (.getfield 80, 3) := by decide +kernel
theorem d_Md_step_55 : decode b_Md_step 55 = .ok (.iload_n 2, 1) := by decide +kernel
theorem d_Md_step_56 : decode b_Md_step 56 = .ok (.iaload, 1) := by decide +kernel
theorem d_Md_step_57 : decode b_Md_step 57 = .ok (.ifCond .ne 11, 3) := by decide +kernel
theorem d_Md_step_60 : decode b_Md_step 60 = .ok (.aload_n 0, 1) := by decide +kernel
theorem d_Md_step_61 : decode b_Md_step 61 = .ok (.iload_n 2, 1) := by decide +kernel
theorem d_Md_step_62 : decode b_Md_step 62 = .ok (.invokevirtual 185, 3) := by decide +kernel
theorem d_Md_step_65 : decode b_Md_step 65 = .ok (.goto 26, 3) := by decide +kernel
theorem d_Md_step_68 : decode b_Md_step 68 = .ok (.aload_n 0, 1) := by decide +kernel
theorem d_Md_step_69 : decode b_Md_step 69 = .ok (.getfield 80, 3) := by decide +kernel
theorem d_Md_step_72 : decode b_Md_step 72 = .ok (.iload_n 2, 1) := by decide +kernel
theorem d_Md_step_73 : decode b_Md_step 73 = .ok (.iaload, 1) := by decide +kernel
theorem d_Md_step_74 : decode b_Md_step 74 = .ok (.iconst 1, 1) := by decide +kernel
theorem d_Md_step_75 : decode b_Md_step 75 = .ok (.if_icmp .ne 11, 3) := by decide +kernel
theorem d_Md_step_78 : decode b_Md_step 78 = .ok (.aload_n 0, 1) := by decide +kernel
theorem d_Md_step_79 : decode b_Md_step 79 = .ok (.iload_n 2, 1) := by decide +kernel
theorem d_Md_step_80 : decode b_Md_step 80 = .ok (.invokevirtual 188, 3) := by decide +kernel
theorem d_Md_step_83 : decode b_Md_step 83 = .ok (.goto 8, 3) := by decide +kernel
theorem d_Md_step_86 : decode b_Md_step 86 = .ok (.aload_n 0, 1) := by decide +kernel
theorem d_Md_step_87 : decode b_Md_step 87 = .ok (.iload_n 2, 1) := by decide +kernel
theorem d_Md_step_88 : decode b_Md_step 88 = .ok (.invokevirtual 191, 3) := by decide +kernel
theorem d_Md_step_91 : decode b_Md_step 91 = .ok (.aload_n 0, 1) := by decide +kernel
theorem d_Md_step_92 : decode b_Md_step 92 = .ok (.getfield 71, 3) := by decide +kernel
theorem d_Md_step_95 : decode b_Md_step 95 = .ok (.iload_n 2, 1) := by decide +kernel
theorem d_Md_step_96 : decode b_Md_step 96 = .ok (.iconst 1, 1) := by decide +kernel
theorem d_Md_step_97 : decode b_Md_step 97 = .ok (.bastore, 1) := by decide +kernel
theorem d_Md_step_98 : decode b_Md_step 98 = .ok (.iload_n 2, 1) := by decide +kernel
theorem d_Md_step_99 : decode b_Md_step 99 = .ok (.ireturn, 1) := by decide +kernel
theorem d_Md_open_0 : decode b_Md_open 0 = .ok (.iload_n 1, 1) := by decide +kernel
theorem d_Md_open_1 : decode b_Md_open 1 = .ok (.invokestatic 118, 3) := by decide +kernel
theorem d_Md_open_4 : decode b_Md_open 4 = .ok (.ifCond .ne 9, 3) := by decide +kernel
theorem d_Md_open_7 : decode b_Md_open 7 = .ok (.aload_n 0, 1) := by decide +kernel
theorem d_Md_open_8 : decode b_Md_open 8 = .ok (.iconst 1, 1) := by decide +kernel
theorem d_Md_open_9 : decode b_Md_open 9 = .ok (.invokevirtual 161, 3) := by decide +kernel
theorem d_Md_open_12 : decode b_Md_open 12 = .ok (.ireturn, 1) := by decide +kernel
theorem d_Md_open_13 : decode b_Md_open 13 = .ok (.iconst 0, 1) := by decide +kernel
theorem d_Md_open_14 : decode b_Md_open 14 = .ok (.istore_n 2, 1) := by decide +kernel
theorem d_Md_open_15 : decode b_Md_open 15 = .ok (.iload_n 2, 1) := by decide +kernel
theorem d_Md_open_16 : decode b_Md_open 16 = .ok (.bipush 8, 2) := by decide +kernel
theorem d_Md_open_18 : decode b_Md_open 18 = .ok (.if_icmp .ge 18, 3) := by decide +kernel
theorem d_Md_open_21 : decode b_Md_open 21 = .ok (.aload_n 0, 1) := by decide +kernel
theorem d_Md_open_22 : decode b_Md_open 22 = .ok (.getfield 68, 3) := by decide +kernel
theorem d_Md_open_25 : decode b_Md_open 25 = .ok (.iload_n 2, 1) := by decide +kernel
theorem d_Md_open_26 : decode b_Md_open 26 = .ok (.baload, 1) := by decide +kernel
theorem d_Md_open_27 : decode b_Md_open 27 = .ok (.ifCond .eq 9, 3) := by decide +kernel
theorem d_Md_open_30 : decode b_Md_open 30 = .ok (.iinc 2 1, 3) := by decide +kernel
theorem d_Md_open_33 : decode b_Md_open 33 = .ok (.goto (-18), 3) := by decide +kernel
theorem d_Md_open_36 : decode b_Md_open 36 = .ok (.iload_n 2, 1) := by decide +kernel
theorem d_Md_open_37 : decode b_Md_open 37 = .ok (.bipush 8, 2) := by decide +kernel
theorem d_Md_open_39 : decode b_Md_open 39 = .ok (.if_icmp .ne 9, 3) := by decide +kernel
theorem d_Md_open_42 : decode b_Md_open 42 = .ok (.aload_n 0, 1) := by decide +kernel
theorem d_Md_open_43 : decode b_Md_open 43 = .ok (.iconst 2, 1) := by decide +kernel
theorem d_Md_open_44 : decode b_Md_open 44 = .ok (.invokevirtual 161, 3) := by decide +kernel
theorem d_Md_open_47 : decode b_Md_open 47 = .ok (.ireturn, 1) := by decide +kernel
theorem d_Md_open_48 : decode b_Md_open 48 = .ok (.aload_n 0, 1) := by decide +kernel
theorem d_Md_open_49 : decode b_Md_open 49 = .ok (.iconst 0, 1) := by decide +kernel
theorem d_Md_open_50 : decode b_Md_open 50 = .ok (.putfield 98, 3) := by decide +kernel
theorem d_Md_open_53 : decode b_Md_open 53 = .ok (.aload_n 0, 1) := by decide +kernel
theorem d_Md_open_54 : decode b_Md_open 54 = .ok (.iload_n 1, 1) := by decide +kernel
theorem d_Md_open_55 : decode b_Md_open 55 = .ok (.invokevirtual 194, 3) := by decide +kernel
theorem d_Md_open_58 : decode b_Md_open 58 = .ok (.istore_n 3, 1) := by decide +kernel
theorem d_Md_open_59 : decode b_Md_open 59 = .ok (.aload_n 0, 1) := by decide +kernel
theorem d_Md_open_60 : decode b_Md_open 60 = .ok (.getfield 68, 3) := by decide +kernel
theorem d_Md_open_63 : decode b_Md_open 63 = .ok (.iload_n 2, 1) := by decide +kernel
theorem d_Md_open_64 : decode b_Md_open 64 = .ok (.iconst 1, 1) := by decide +kernel
theorem d_Md_open_65 : decode b_Md_open 65 = .ok (.bastore, 1) := by decide +kernel
theorem d_Md_open_66 : decode b_Md_open 66 = .ok (.aload_n 0, 1) := by decide +kernel
theorem d_Md_open_67 : decode b_Md_open 67 = .ok (.getfield 74, 3) := by decide +kernel
theorem d_Md_open_70 : decode b_Md_open 70 = .ok (.iload_n 2, 1) := by decide +kernel
theorem d_Md_open_71 : decode b_Md_open 71 = .ok (.iload_n 1, 1) := by decide +kernel
theorem d_Md_open_72 : decode b_Md_open 72 = .ok (.iastore, 1) := by decide +kernel
theorem d_Md_open_73 : decode b_Md_open 73 = .ok (.aload_n 0, 1) := by decide +kernel
theorem d_Md_open_74 : decode b_Md_open 74 = .ok (.getfield 77, 3) := by decide +kernel
theorem d_Md_open_77 : decode b_Md_open 77 = .ok (.iload_n 2, 1) := by decide +kernel
theorem d_Md_open_78 : decode b_Md_open 78 = .ok (.iload_n 3, 1) := by decide +kernel
theorem d_Md_open_79 : decode b_Md_open 79 = .ok (.ifCond .ge 7, 3) := by decide +kernel
theorem d_Md_open_82 : decode b_Md_open 82 = .ok (.iconst 0, 1) := by decide +kernel
theorem d_Md_open_83 : decode b_Md_open 83 = .ok (.goto 9, 3) := by decide +kernel
theorem d_Md_open_86 : decode b_Md_open 86 = .ok (.aload_n 0, 1) := by decide +kernel
theorem d_Md_open_87 : decode b_Md_open 87 = .ok (.getfield 62, 3) := by decide +kernel
theorem d_Md_open_90 : decode b_Md_open 90 = .ok (.iload_n 3, 1) := by decide +kernel
theorem d_Md_open_91 : decode b_Md_open 91 = .ok (.iaload, 1) := by decide +kernel
theorem d_Md_open_92 : decode b_Md_open 92 = .ok (.iastore, 1) := by decide +kernel
theorem d_Md_open_93 : decode b_Md_open 93 = .ok (.iload_n 2, 1) := by decide +kernel
theorem d_Md_open_94 : decode b_Md_open 94 = .ok (.ireturn, 1) := by decide +kernel
theorem d_Md_close_0 : decode b_Md_close 0 = .ok (.iload_n 1, 1) := by decide +kernel
theorem d_Md_close_1 : decode b_Md_close 1 = .ok (.iconst 0, 1) := by decide +kernel
theorem d_Md_close_2 : decode b_Md_close 2 = .ok (.bipush 7, 2) := by decide +kernel
theorem d_Md_close_4 : decode b_Md_close 4 = .ok (.invokestatic 103, 3) := by decide +kernel
theorem d_Md_close_7 : decode b_Md_close 7 = .ok (.ifCond .eq 12, 3) := by decide +kernel
theorem d_Md_close_10 : decode b_Md_close 10 = .ok (.aload_n 0, 1) := by decide +kernel
theorem d_Md_close_11 : decode b_Md_close 11 = .ok (.getfield 68, 3) := by decide +kernel
theorem d_Md_close_14 : decode b_Md_close 14 = .ok (.iload_n 1, 1) := by decide +kernel
theorem d_Md_close_15 : decode b_Md_close 15 = .ok (.baload, 1) := by decide +kernel
theorem d_Md_close_16 : decode b_Md_close 16 = .ok (.ifCond .ne 9, 3) := by decide +kernel
theorem d_Md_close_19 : decode b_Md_close 19 = .ok (.aload_n 0, 1) := by decide +kernel
theorem d_Md_close_20 : decode b_Md_close 20 = .ok (.iconst 1, 1) := by decide +kernel
theorem d_Md_close_21 : decode b_Md_close 21 = .ok (.invokevirtual 161, 3) := by decide +kernel
theorem d_Md_close_24 : decode b_Md_close 24 = .ok (.ireturn, 1) := by decide +kernel
theorem d_Md_close_25 : decode b_Md_close 25 = .ok (.aload_n 0, 1) := by decide +kernel
theorem d_Md_close_26 : decode b_Md_close 26 = .ok (.iconst 0, 1) := by decide +kernel
theorem d_Md_close_27 : decode b_Md_close 27 = .ok (.putfield 98, 3) := by decide +kernel
theorem d_Md_close_30 : decode b_Md_close 30 = .ok (.aload_n 0, 1) := by decide +kernel
theorem d_Md_close_31 : decode b_Md_close 31 = .ok (.getfield 77, 3) := by decide +kernel
theorem d_Md_close_34 : decode b_Md_close 34 = .ok (.iload_n 1, 1) := by decide +kernel
theorem d_Md_close_35 : decode b_Md_close 35 = .ok (.iaload, 1) := by decide +kernel
theorem d_Md_close_36 : decode b_Md_close 36 = .ok (.istore_n 2, 1) := by decide +kernel
theorem d_Md_close_37 : decode b_Md_close 37 = .ok (.aload_n 0, 1) := by decide +kernel
theorem d_Md_close_38 : decode b_Md_close 38 = .ok (.getfield 68, 3) := by decide +kernel
theorem d_Md_close_41 : decode b_Md_close 41 = .ok (.iload_n 1, 1) := by decide +kernel
theorem d_Md_close_42 : decode b_Md_close 42 = .ok (.iconst 0, 1) := by decide +kernel
theorem d_Md_close_43 : decode b_Md_close 43 = .ok (.bastore, 1) := by decide +kernel
theorem d_Md_close_44 : decode b_Md_close 44 = .ok (.aload_n 0, 1) := by decide +kernel
theorem d_Md_close_45 : decode b_Md_close 45 = .ok (.getfield 77, 3) := by decide +kernel
theorem d_Md_close_48 : decode b_Md_close 48 = .ok (.iload_n 1, 1) := by decide +kernel
theorem d_Md_close_49 : decode b_Md_close 49 = .ok (.iconst 0, 1) := by decide +kernel
theorem d_Md_close_50 : decode b_Md_close 50 = .ok (.iastore, 1) := by decide +kernel
theorem d_Md_close_51 : decode b_Md_close 51 = .ok (.aload_n 0, 1) := by decide +kernel
theorem d_Md_close_52 : decode b_Md_close 52 = .ok (.iload_n 2, 1) := by decide +kernel
theorem d_Md_close_53 : decode b_Md_close 53 = .ok (.invokevirtual 197, 3) := by decide +kernel
theorem d_Md_close_56 : decode b_Md_close 56 = .ok (.iload_n 2, 1) := by decide +kernel
theorem d_Md_close_57 : decode b_Md_close 57 = .ok (.ireturn, 1) := by decide +kernel
theorem d_Md_claim_0 : decode b_Md_claim 0 = .ok (.iload_n 1, 1) := by decide +kernel
theorem d_Md_claim_1 : decode b_Md_claim 1 = .ok (.invokestatic 118, 3) := by decide +kernel
theorem d_Md_claim_4 : decode b_Md_claim 4 = .ok (.ifCond .ne 9, 3) := by decide +kernel
theorem d_Md_claim_7 : decode b_Md_claim 7 = .ok (.aload_n 0, 1) := by decide +kernel
theorem d_Md_claim_8 : decode b_Md_claim 8 = .ok (.iconst 1, 1) := by decide +kernel
theorem d_Md_claim_9 : decode b_Md_claim 9 = .ok (.invokevirtual 161, 3) := by decide +kernel
theorem d_Md_claim_12 : decode b_Md_claim 12 = .ok (.ireturn, 1) := by decide +kernel
theorem d_Md_claim_13 : decode b_Md_claim 13 = .ok (.aload_n 0, 1) := by decide +kernel
theorem d_Md_claim_14 : decode b_Md_claim 14 = .ok (.iload_n 1, 1) := by decide +kernel
theorem d_Md_claim_15 : decode b_Md_claim 15 = .ok (.invokevirtual 167, 3) := by decide +kernel
theorem d_Md_claim_18 : decode b_Md_claim 18 = .ok (.istore_n 2, 1) := by decide +kernel
theorem d_Md_claim_19 : decode b_Md_claim 19 = .ok (.iconst 0, 1) := by decide +kernel
theorem d_Md_claim_20 : decode b_Md_claim 20 = .ok (.istore_n 3, 1) := by decide +kernel
theorem d_Md_claim_21 : decode b_Md_claim 21 = .ok (.iload_n 2, 1) := by decide +kernel
theorem d_Md_claim_22 : decode b_Md_claim 22 = .ok (.ifCond .ge 9, 3) := by decide +kernel
theorem d_Md_claim_25 : decode b_Md_claim 25 = .ok (.aload_n 0, 1) := by decide +kernel
theorem d_Md_claim_26 : decode b_Md_claim 26 = .ok (.iconst 2, 1) := by decide +kernel
theorem d_Md_claim_27 : decode b_Md_claim 27 = .ok (.invokevirtual 161, 3) := by decide +kernel
theorem d_Md_claim_30 : decode b_Md_claim 30 = .ok (.ireturn, 1) := by decide +kernel
theorem d_Md_claim_31 : decode b_Md_claim 31 = .ok (.aload_n 0, 1) := by decide +kernel
theorem d_Md_claim_32 : decode b_Md_claim 32 = .ok (.getfield 62, 3) := by decide +kernel
theorem d_Md_claim_35 : decode b_Md_claim 35 = .ok (.iload_n 2, 1) := by decide +kernel
theorem d_Md_claim_36 : decode b_Md_claim 36 = .ok (.iaload, 1) := by decide +kernel
theorem d_Md_claim_37 : decode b_Md_claim 37 = .ok (.ifCond .ne 9, 3) := by decide +kernel
theorem d_Md_claim_40 : decode b_Md_claim 40 = .ok (.aload_n 0, 1) := by decide +kernel
theorem d_Md_claim_41 : decode b_Md_claim 41 = .ok (.iconst 3, 1) := by decide +kernel
theorem d_Md_claim_42 : decode b_Md_claim 42 = .ok (.invokevirtual 161, 3) := by decide +kernel
theorem d_Md_claim_45 : decode b_Md_claim 45 = .ok (.ireturn, 1) := by decide +kernel
theorem d_Md_claim_46 : decode b_Md_claim 46 = .ok (.aload_n 0, 1) := by decide +kernel
theorem d_Md_claim_47 : decode b_Md_claim 47 = .ok (.iconst 0, 1) := by decide +kernel
theorem d_Md_claim_48 : decode b_Md_claim 48 = .ok (.putfield 98, 3) := by decide +kernel
theorem d_Md_claim_51 : decode b_Md_claim 51 = .ok (.iconst 0, 1) := by decide +kernel
theorem d_Md_claim_52 : decode b_Md_claim 52 = .ok (.istore 4, 2) := by decide +kernel
theorem d_Md_claim_54 : decode b_Md_claim 54 = .ok (.iload 4, 2) := by decide +kernel
theorem d_Md_claim_56 : decode b_Md_claim 56 = .ok (.bipush 8, 2) := by decide +kernel
theorem d_Md_claim_58 : decode b_Md_claim 58 = .ok (.if_icmp .ge 81, 3) := by decide +kernel
theorem d_Md_claim_61 : decode b_Md_claim 61 = .ok (.aload_n 0, 1) := by decide +kernel
theorem d_Md_claim_62 : decode b_Md_claim 62 = .ok (.getfield 68, 3) := by decide +kernel
theorem d_Md_claim_65 : decode b_Md_claim 65 = .ok (.iload 4, 2) := by decide +kernel
theorem d_Md_claim_67 : decode b_Md_claim 67 = .ok (.baload, 1) := by decide +kernel
theorem d_Md_claim_68 : decode b_Md_claim 68 = .ok (.ifCond .eq 65, 3) := by decide +kernel
theorem d_Md_claim_71 : decode b_Md_claim 71 = .ok (.aload_n 0, 1) := by decide +kernel
theorem d_Md_claim_72 : decode b_Md_claim 72 = .ok (.aload_n 0, 1) := by decide +kernel
theorem d_Md_claim_73 : decode b_Md_claim 73 = .ok (.getfield 74, 3) := by decide +kernel
theorem d_Md_claim_76 : decode b_Md_claim 76 = .ok (.iload 4, 2) := by decide +kernel
theorem d_Md_claim_78 : decode b_Md_claim 78 = .ok (.iaload, 1) := by decide +kernel
theorem d_Md_claim_79 : decode b_Md_claim 79 = .ok (.invokevirtual 194, 3) := by decide +kernel
theorem d_Md_claim_82 : decode b_Md_claim 82 = .ok (.iload_n 2, 1) := by decide +kernel
theorem d_Md_claim_83 : decode b_Md_claim 83 = .ok (.if_icmp .ne 50, 3) := by decide +kernel
theorem d_Md_claim_86 : decode b_Md_claim 86 = .ok (.aload_n 0, 1) := by decide +kernel
theorem d_Md_claim_87 : decode b_Md_claim 87 = .ok (.getfield 77, 3) := by decide +kernel
theorem d_Md_claim_90 : decode b_Md_claim 90 = .ok (.iload 4, 2) := by decide +kernel
theorem d_Md_claim_92 : decode b_Md_claim 92 = .ok (.iaload, 1) := by decide +kernel
theorem d_Md_claim_93 : decode b_Md_claim 93 = .ok (.aload_n 0, 1) := by decide +kernel
theorem d_Md_claim_94 : decode b_Md_claim 94 = .ok (.getfield 62, 3) := by decide +kernel
theorem d_Md_claim_97 : decode b_Md_claim 97 = .ok (.iload_n 2, 1) := by decide +kernel
theorem d_Md_claim_98 : decode b_Md_claim 98 = .ok (.iaload, 1) := by decide +kernel
theorem d_Md_claim_99 : decode b_Md_claim 99 = .ok (.if_icmp .ne 6, 3) := by decide +kernel
theorem d_Md_claim_102 : decode b_Md_claim 102 = .ok (.goto 31, 3) := by decide +kernel
theorem d_Md_claim_105 : decode b_Md_claim 105 = .ok (.aload_n 0, 1) := by decide +kernel
theorem d_Md_claim_106 : decode b_Md_claim 106 = .ok (.getfield 95, 3) := by decide +kernel
theorem d_Md_claim_109 : decode b_Md_claim 109 = .ok (.iload_n 3, 1) := by decide +kernel
theorem d_Md_claim_110 : decode b_Md_claim 110 = .ok (.aload_n 0, 1) := by decide +kernel
theorem d_Md_claim_111 : decode b_Md_claim 111 = .ok (.getfield 77, 3) := by decide +kernel
theorem d_Md_claim_114 : decode b_Md_claim 114 = .ok (.iload 4, 2) := by decide +kernel
theorem d_Md_claim_116 : decode b_Md_claim 116 = .ok (.iaload, 1) := by decide +kernel
theorem d_Md_claim_117 : decode b_Md_claim 117 = .ok (.iastore, 1) := by decide +kernel
theorem d_Md_claim_118 : decode b_Md_claim 118 = .ok (.iinc 3 1, 3) := by decide +kernel
theorem d_Md_claim_121 : decode b_Md_claim 121 = .ok (.aload_n 0, 1) := by decide +kernel
theorem d_Md_claim_122 : decode b_Md_claim 122 = .ok (.iload 4, 2) := by decide +kernel
theorem d_Md_claim_124 : decode b_Md_claim 124 = .ok (.aload_n 0, 1) := by decide +kernel
theorem d_Md_claim_125 : decode b_Md_claim 125 = .ok (.getfield 62, 3) := by decide +kernel
theorem d_Md_claim_128 : decode b_Md_claim 128 = .ok (.iload_n 2, 1) := by decide +kernel
theorem d_Md_claim_129 : decode b_Md_claim 129 = .ok (.iaload, 1) := by decide +kernel
theorem d_Md_claim_130 : decode b_Md_claim 130 = .ok (.invokevirtual 143, 3) := by decide +kernel
theorem d_Md_claim_133 : decode b_Md_claim 133 = .ok (.iinc 4 1, 3) := by decide +kernel
theorem d_Md_claim_136 : decode b_Md_claim 136 = .ok (.goto (-82), 3) := by decide +kernel
theorem d_Md_claim_139 : decode b_Md_claim 139 = .ok (.iconst 0, 1) := by decide +kernel
theorem d_Md_claim_140 : decode b_Md_claim 140 = .ok (.istore 4, 2) := by decide +kernel
theorem d_Md_claim_142 : decode b_Md_claim 142 = .ok (.iload 4, 2) := by decide +kernel
theorem d_Md_claim_144 : decode b_Md_claim 144 = .ok (.iload_n 3, 1) := by decide +kernel
theorem d_Md_claim_145 : decode b_Md_claim 145 = .ok (.if_icmp .ge 20, 3) := by decide +kernel
theorem d_Md_claim_148 : decode b_Md_claim 148 = .ok (.aload_n 0, 1) := by decide +kernel
theorem d_Md_claim_149 : decode b_Md_claim 149 = .ok (.aload_n 0, 1) := by decide +kernel
theorem d_Md_claim_150 : decode b_Md_claim 150 = .ok (.getfield 95, 3) := by decide +kernel
theorem d_Md_claim_153 : decode b_Md_claim 153 = .ok (.iload 4, 2) := by decide +kernel
theorem d_Md_claim_155 : decode b_Md_claim 155 = .ok (.iaload, 1) := by decide +kernel
theorem d_Md_claim_156 : decode b_Md_claim 156 = .ok (.invokevirtual 197, 3) := by decide +kernel
theorem d_Md_claim_159 : decode b_Md_claim 159 = .ok (.iinc 4 1, 3) := by decide +kernel
theorem d_Md_claim_162 : decode b_Md_claim 162 = .ok (.goto (-20), 3) := by decide +kernel
theorem d_Md_claim_165 : decode b_Md_claim 165 = .ok (.iload_n 3, 1) := by decide +kernel
theorem d_Md_claim_166 : decode b_Md_claim 166 = .ok (.ireturn, 1) := by decide +kernel
theorem d_Md_skip_0 : decode b_Md_skip 0 = .ok (.iload_n 1, 1) := by decide +kernel
theorem d_Md_skip_1 : decode b_Md_skip 1 = .ok (.invokestatic 118, 3) := by decide +kernel
theorem d_Md_skip_4 : decode b_Md_skip 4 = .ok (.ifCond .ne 9, 3) := by decide +kernel
theorem d_Md_skip_7 : decode b_Md_skip 7 = .ok (.aload_n 0, 1) := by decide +kernel
theorem d_Md_skip_8 : decode b_Md_skip 8 = .ok (.iconst 1, 1) := by decide +kernel
theorem d_Md_skip_9 : decode b_Md_skip 9 = .ok (.invokevirtual 161, 3) := by decide +kernel
theorem d_Md_skip_12 : decode b_Md_skip 12 = .ok (.ireturn, 1) := by decide +kernel
theorem d_Md_skip_13 : decode b_Md_skip 13 = .ok (.aload_n 0, 1) := by decide +kernel
theorem d_Md_skip_14 : decode b_Md_skip 14 = .ok (.iload_n 1, 1) := by decide +kernel
theorem d_Md_skip_15 : decode b_Md_skip 15 = .ok (.invokevirtual 167, 3) := by decide +kernel
theorem d_Md_skip_18 : decode b_Md_skip 18 = .ok (.istore_n 2, 1) := by decide +kernel
theorem d_Md_skip_19 : decode b_Md_skip 19 = .ok (.iload_n 2, 1) := by decide +kernel
theorem d_Md_skip_20 : decode b_Md_skip 20 = .ok (.ifCond .ge 9, 3) := by decide +kernel
theorem d_Md_skip_23 : decode b_Md_skip 23 = .ok (.aload_n 0, 1) := by decide +kernel
theorem d_Md_skip_24 : decode b_Md_skip 24 = .ok (.iconst 2, 1) := by decide +kernel
theorem d_Md_skip_25 : decode b_Md_skip 25 = .ok (.invokevirtual 161, 3) := by decide +kernel
theorem d_Md_skip_28 : decode b_Md_skip 28 = .ok (.ireturn, 1) := by decide +kernel
theorem d_Md_skip_29 : decode b_Md_skip 29 = .ok (.aload_n 0, 1) := by decide +kernel
theorem d_Md_skip_30 : decode b_Md_skip 30 = .ok (.getfield 59, 3) := by decide +kernel
theorem d_Md_skip_33 : decode b_Md_skip 33 = .ok (.iload_n 2, 1) := by decide +kernel
theorem d_Md_skip_34 : decode b_Md_skip 34 = .ok (.iaload, 1) := by decide +kernel
theorem d_Md_skip_35 : decode b_Md_skip 35 = .ok (.ifCond .le 12, 3) := by decide +kernel
theorem d_Md_skip_38 : decode b_Md_skip 38 = .ok (.aload_n 0, 1) := by decide +kernel
theorem d_Md_skip_39 : decode b_Md_skip 39 = .ok (.getfield 59, 3) := by decide +kernel
theorem d_Md_skip_42 : decode b_Md_skip 42 = .ok (.iload_n 2, 1) := by decide +kernel
theorem d_Md_skip_43 : decode b_Md_skip 43 = .ok (.iaload, 1) := by decide +kernel
theorem d_Md_skip_44 : decode b_Md_skip 44 = .ok (.goto 9, 3) := by decide +kernel
theorem d_Md_skip_47 : decode b_Md_skip 47 = .ok (.aload_n 0, 1) := by decide +kernel
theorem d_Md_skip_48 : decode b_Md_skip 48 = .ok (.getfield 56, 3) := by decide +kernel
theorem d_Md_skip_51 : decode b_Md_skip 51 = .ok (.iload_n 2, 1) := by decide +kernel
theorem d_Md_skip_52 : decode b_Md_skip 52 = .ok (.iaload, 1) := by decide +kernel
theorem d_Md_skip_53 : decode b_Md_skip 53 = .ok (.istore_n 3, 1) := by decide +kernel
theorem d_Md_skip_54 : decode b_Md_skip 54 = .ok (.iload_n 3, 1) := by decide +kernel
theorem d_Md_skip_55 : decode b_Md_skip 55 = .ok (.ifCond .ne 9, 3) := by decide +kernel
theorem d_Md_skip_58 : decode b_Md_skip 58 = .ok (.aload_n 0, 1) := by decide +kernel
theorem d_Md_skip_59 : decode b_Md_skip 59 = .ok (.iconst 3, 1) := by decide +kernel
theorem d_Md_skip_60 : decode b_Md_skip 60 = .ok (.invokevirtual 161, 3) := by decide +kernel
theorem d_Md_skip_63 : decode b_Md_skip 63 = .ok (.ireturn, 1) := by decide +kernel
theorem d_Md_skip_64 : decode b_Md_skip 64 = .ok (.aload_n 0, 1) := by decide +kernel
theorem d_Md_skip_65 : decode b_Md_skip 65 = .ok (.iconst 0, 1) := by decide +kernel
theorem d_Md_skip_66 : decode b_Md_skip 66 = .ok (.putfield 98, 3) := by decide +kernel
theorem d_Md_skip_69 : decode b_Md_skip 69 = .ok (.aload_n 0, 1) := by decide +kernel
theorem d_Md_skip_70 : decode b_Md_skip 70 = .ok (.getfield 46, 3) := by decide +kernel
theorem d_Md_skip_73 : decode b_Md_skip 73 = .ok (.iload_n 3, 1) := by decide +kernel
theorem d_Md_skip_74 : decode b_Md_skip 74 = .ok (.iconst 1, 1) := by decide +kernel
theorem d_Md_skip_75 : decode b_Md_skip 75 = .ok (.bastore, 1) := by decide +kernel
theorem d_Md_skip_76 : decode b_Md_skip 76 = .ok (.aload_n 0, 1) := by decide +kernel
theorem d_Md_skip_77 : decode b_Md_skip 77 = .ok (.iload_n 2, 1) := by decide +kernel
theorem d_Md_skip_78 : decode b_Md_skip 78 = .ok (.invokevirtual 155, 3) := by decide +kernel
theorem d_Md_skip_81 : decode b_Md_skip 81 = .ok (.iload_n 3, 1) := by decide +kernel
theorem d_Md_skip_82 : decode b_Md_skip 82 = .ok (.ireturn, 1) := by decide +kernel
theorem d_Md_cached_0 : decode b_Md_cached 0 = .ok (.iconst 0, 1) := by decide +kernel
theorem d_Md_cached_1 : decode b_Md_cached 1 = .ok (.istore_n 3, 1) := by decide +kernel
theorem d_Md_cached_2 : decode b_Md_cached 2 = .ok (.iload_n 3, 1) := by decide +kernel
theorem d_Md_cached_3 : decode b_Md_cached 3 = .ok (.aload_n 0, 1) := by decide +kernel
theorem d_Md_cached_4 : decode b_Md_cached 4 = .ok (.getfield 37, 3) := by decide +kernel
theorem d_Md_cached_7 : decode b_Md_cached 7 = .ok (.iload_n 1, 1) := by decide +kernel
theorem d_Md_cached_8 : decode b_Md_cached 8 = .ok (.iaload, 1) := by decide +kernel
theorem d_Md_cached_9 : decode b_Md_cached 9 = .ok (.if_icmp .ge 25, 3) := by decide +kernel
theorem d_Md_cached_12 : decode b_Md_cached 12 = .ok (.aload_n 0, 1) := by decide +kernel
theorem d_Md_cached_13 : decode b_Md_cached 13 = .ok (.getfield 40, 3) := by decide +kernel
theorem d_Md_cached_16 : decode b_Md_cached 16 = .ok (.iconst 4, 1) := by decide +kernel
theorem d_Md_cached_17 : decode b_Md_cached 17 = .ok (.iload_n 1, 1) := by decide +kernel
theorem d_Md_cached_18 : decode b_Md_cached 18 = .ok (.imul, 1) := by decide +kernel
theorem d_Md_cached_19 : decode b_Md_cached 19 = .ok (.iload_n 3, 1) := by decide +kernel
theorem d_Md_cached_20 : decode b_Md_cached 20 = .ok (.iadd, 1) := by decide +kernel
theorem d_Md_cached_21 : decode b_Md_cached 21 = .ok (.iaload, 1) := by decide +kernel
theorem d_Md_cached_22 : decode b_Md_cached 22 = .ok (.iload_n 2, 1) := by decide +kernel
theorem d_Md_cached_23 : decode b_Md_cached 23 = .ok (.if_icmp .ne 5, 3) := by decide +kernel
theorem d_Md_cached_26 : decode b_Md_cached 26 = .ok (.iload_n 3, 1) := by decide +kernel
theorem d_Md_cached_27 : decode b_Md_cached 27 = .ok (.ireturn, 1) := by decide +kernel
theorem d_Md_cached_28 : decode b_Md_cached 28 = .ok (.iinc 3 1, 3) := by decide +kernel
theorem d_Md_cached_31 : decode b_Md_cached 31 = .ok (.goto (-29), 3) := by decide +kernel
theorem d_Md_cached_34 : decode b_Md_cached 34 = .ok (.iconst (-1), 1) := by decide +kernel
theorem d_Md_cached_35 : decode b_Md_cached 35 = .ok (.ireturn, 1) := by decide +kernel
