theorem d_K_needRegistration_0 : decode b_K_needRegistration 0 = .ok (.iload_n 1, 1) := by decide +kernel
theorem d_K_needRegistration_1 : decode b_K_needRegistration 1 = .ok (.invokestatic 98, 3) := by decide +kernel
theorem d_K_needRegistration_4 : decode b_K_needRegistration 4 = .ok (.aload_n 0, 1) := by decide +kernel
theorem d_K_needRegistration_5 : decode b_K_needRegistration 5 = .ok (.iload_n 1, 1) := by decide +kernel
theorem d_K_needRegistration_6 : decode b_K_needRegistration 6 = .ok (.invokevirtual 291, 3) := by decide +kernel
theorem d_K_needRegistration_9 : decode b_K_needRegistration 9 = .ok (.astore_n 2, 1) := by decide +kernel
theorem d_K_needRegistration_10 : decode b_K_needRegistration 10 = .ok (.aload_n 2, 1) := by decide +kernel
theorem d_K_needRegistration_11 : decode b_K_needRegistration 11 = .ok (.ifnonnull 14, 3) := by decide +kernel
theorem d_K_needRegistration_14 : decode b_K_needRegistration 14 = .ok (.new 135, 3) := by decide +kernel
theorem d_K_needRegistration_17 : decode b_K_needRegistration 17 = .ok (.dup, 1) := by decide +kernel
theorem d_K_needRegistration_18 : decode b_K_needRegistration 18 = .ok (.ldc_w 294, 3) := by decide +kernel
theorem d_K_needRegistration_21 : decode b_K_needRegistration 21 = .ok (.invokespecial 139, 3) := by decide +kernel
theorem d_K_needRegistration_24 : decode b_K_needRegistration 24 = .ok (.athrow, 1) := by decide +kernel
theorem d_K_needRegistration_25 : decode b_K_needRegistration 25 = .ok (.aload_n 2, 1) := by decide +kernel
theorem d_K_needRegistration_26 : decode b_K_needRegistration 26 = .ok (.areturn, 1) := by decide +kernel
theorem d_K_networkAnswer_0 : decode b_K_networkAnswer 0 = .ok (.aload_n 0, 1) := by decide +kernel
theorem d_K_networkAnswer_1 : decode b_K_networkAnswer 1 = .ok (.getfield 15, 3) := by decide +kernel
theorem d_K_networkAnswer_4 : decode b_K_networkAnswer 4 = .ok (.ifCond .ne 14, 3) := by decide +kernel
theorem d_K_networkAnswer_7 : decode b_K_networkAnswer 7 = .ok (.new 296, 3) := by decide +kernel
theorem d_K_networkAnswer_10 : decode b_K_networkAnswer 10 = .ok (.dup, 1) := by decide +kernel
theorem d_K_networkAnswer_11 : decode b_K_networkAnswer 11 = .ok (.ldc_w 298, 3) := by decide +kernel
theorem d_K_networkAnswer_14 : decode b_K_networkAnswer 14 = .ok (.invokespecial 300, 3) := by decide +kernel
theorem d_K_networkAnswer_17 : decode b_K_networkAnswer 17 = .ok (.athrow, 1) := by decide +kernel
theorem d_K_networkAnswer_18 : decode b_K_networkAnswer 18 = .ok (.aload_n 0, 1) := by decide +kernel
theorem d_K_networkAnswer_19 : decode b_K_networkAnswer 19 = .ok (.getfield 19, 3) := by decide +kernel
theorem d_K_networkAnswer_22 : decode b_K_networkAnswer 22 = .ok (.iload_n 1, 1) := by decide +kernel
theorem d_K_networkAnswer_23 : decode b_K_networkAnswer 23 = .ok (.iadd, 1) := by decide +kernel
theorem d_K_networkAnswer_24 : decode b_K_networkAnswer 24 = .ok (.ireturn, 1) := by decide +kernel
theorem d_K_isInRow_0 : decode b_K_isInRow 0 = .ok (.aload_n 0, 1) := by decide +kernel
theorem d_K_isInRow_1 : decode b_K_isInRow 1 = .ok (.getfield 301, 3) := by decide +kernel
theorem d_K_isInRow_4 : decode b_K_isInRow 4 = .ok (.iload_n 1, 1) := by decide +kernel
theorem d_K_isInRow_5 : decode b_K_isInRow 5 = .ok (.if_icmp .ne 14, 3) := by decide +kernel
theorem d_K_isInRow_8 : decode b_K_isInRow 8 = .ok (.aload_n 0, 1) := by decide +kernel
theorem d_K_isInRow_9 : decode b_K_isInRow 9 = .ok (.getfield 147, 3) := by decide +kernel
theorem d_K_isInRow_12 : decode b_K_isInRow 12 = .ok (.ifCond .ne 7, 3) := by decide +kernel
theorem d_K_isInRow_15 : decode b_K_isInRow 15 = .ok (.iconst 1, 1) := by decide +kernel
theorem d_K_isInRow_16 : decode b_K_isInRow 16 = .ok (.goto 4, 3) := by decide +kernel
theorem d_K_isInRow_19 : decode b_K_isInRow 19 = .ok (.iconst 0, 1) := by decide +kernel
theorem d_K_isInRow_20 : decode b_K_isInRow 20 = .ok (.ireturn, 1) := by decide +kernel
theorem d_K_firstOfRow_0 : decode b_K_firstOfRow 0 = .ok (.iconst 0, 1) := by decide +kernel
theorem d_K_firstOfRow_1 : decode b_K_firstOfRow 1 = .ok (.istore_n 2, 1) := by decide +kernel
theorem d_K_firstOfRow_2 : decode b_K_firstOfRow 2 = .ok (.iload_n 2, 1) := by decide +kernel
theorem d_K_firstOfRow_3 : decode b_K_firstOfRow 3 = .ok (.aload_n 0, 1) := by decide +kernel
theorem d_K_firstOfRow_4 : decode b_K_firstOfRow 4 = .ok (.getfield 56, 3) := by decide +kernel
theorem d_K_firstOfRow_7 : decode b_K_firstOfRow 7 = .ok (.if_icmp .ge 29, 3) := by decide +kernel
theorem d_K_firstOfRow_10 : decode b_K_firstOfRow 10 = .ok (.aload_n 0, 1) := by decide +kernel
theorem d_K_firstOfRow_11 : decode b_K_firstOfRow 11 = .ok (.getfield 52, 3) := by decide +kernel
theorem d_K_firstOfRow_14 : decode b_K_firstOfRow 14 = .ok (.iload_n 2, 1) := by decide +kernel
theorem d_K_firstOfRow_15 : decode b_K_firstOfRow 15 = .ok (.aaload, 1) := by decide +kernel
theorem d_K_firstOfRow_16 : decode b_K_firstOfRow 16 = .ok (.iload_n 1, 1) := by decide +kernel
theorem d_K_firstOfRow_17 : decode b_K_firstOfRow 17 = .ok (.invokestatic 302, 3) := by decide +kernel
theorem d_K_firstOfRow_20 : decode b_K_firstOfRow 20 = .ok (.ifCond .eq 10, 3) := by decide +kernel
theorem d_K_firstOfRow_23 : decode b_K_firstOfRow 23 = .ok (.aload_n 0, 1) := by decide +kernel
theorem d_K_firstOfRow_24 : decode b_K_firstOfRow 24 = .ok (.getfield 52, 3) := by decide +kernel
theorem d_K_firstOfRow_27 : decode b_K_firstOfRow 27 = .ok (.iload_n 2, 1) := by decide +kernel
theorem d_K_firstOfRow_28 : decode b_K_firstOfRow 28 = .ok (.aaload, 1) := by decide +kernel
theorem d_K_firstOfRow_29 : decode b_K_firstOfRow 29 = .ok (.areturn, 1) := by decide +kernel
theorem d_K_firstOfRow_30 : decode b_K_firstOfRow 30 = .ok (.iinc 2 1, 3) := by decide +kernel
theorem d_K_firstOfRow_33 : decode b_K_firstOfRow 33 = .ok (.goto (-31), 3) := by decide +kernel
theorem d_K_firstOfRow_36 : decode b_K_firstOfRow 36 = .ok (.aconst_null, 1) := by decide +kernel
theorem d_K_firstOfRow_37 : decode b_K_firstOfRow 37 = .ok (.areturn, 1) := by decide +kernel
theorem d_K_lastOfRow_0 : decode b_K_lastOfRow 0 = .ok (.aload_n 0, 1) := by decide +kernel
theorem d_K_lastOfRow_1 : decode b_K_lastOfRow 1 = .ok (.getfield 56, 3) := by decide +kernel
theorem d_K_lastOfRow_4 : decode b_K_lastOfRow 4 = .ok (.iconst 1, 1) := by decide +kernel
theorem d_K_lastOfRow_5 : decode b_K_lastOfRow 5 = .ok (.isub, 1) := by decide +kernel
theorem d_K_lastOfRow_6 : decode b_K_lastOfRow 6 = .ok (.istore_n 2, 1) := by decide +kernel
theorem d_K_lastOfRow_7 : decode b_K_lastOfRow 7 = .ok (.iload_n 2, 1) := by decide +kernel
theorem d_K_lastOfRow_8 : decode b_K_lastOfRow 8 = .ok (.ifCond .lt 29, 3) := by decide +kernel
theorem d_K_lastOfRow_11 : decode b_K_lastOfRow 11 = .ok (.aload_n 0, 1) := by decide +kernel
theorem d_K_lastOfRow_12 : decode b_K_lastOfRow 12 = .ok (.getfield 52, 3) := by decide +kernel
theorem d_K_lastOfRow_15 : decode b_K_lastOfRow 15 = .ok (.iload_n 2, 1) := by decide +kernel
theorem d_K_lastOfRow_16 : decode b_K_lastOfRow 16 = .ok (.aaload, 1) := by decide +kernel
theorem d_K_lastOfRow_17 : decode b_K_lastOfRow 17 = .ok (.iload_n 1, 1) := by decide +kernel
theorem d_K_lastOfRow_18 : decode b_K_lastOfRow 18 = .ok (.invokestatic 302, 3) := by decide +kernel
theorem d_K_lastOfRow_21 : decode b_K_lastOfRow 21 = .ok (.ifCond .eq 10, 3) := by decide +kernel
theorem d_K_lastOfRow_24 : decode b_K_lastOfRow 24 = .ok (.aload_n 0, 1) := by decide +kernel
theorem d_K_lastOfRow_25 : decode b_K_lastOfRow 25 = .ok (.getfield 52, 3) := by decide +kernel
theorem d_K_lastOfRow_28 : decode b_K_lastOfRow 28 = .ok (.iload_n 2, 1) := by decide +kernel
theorem d_K_lastOfRow_29 : decode b_K_lastOfRow 29 = .ok (.aaload, 1) := by decide +kernel
theorem d_K_lastOfRow_30 : decode b_K_lastOfRow 30 = .ok (.areturn, 1) := by decide +kernel
theorem d_K_lastOfRow_31 : decode b_K_lastOfRow 31 = .ok (.iinc 2 (-1), 3) := by decide +kernel
theorem d_K_lastOfRow_34 : decode b_K_lastOfRow 34 = .ok (.goto (-27), 3) := by decide +kernel
theorem d_K_lastOfRow_37 : decode b_K_lastOfRow 37 = .ok (.aconst_null, 1) := by decide +kernel
theorem d_K_lastOfRow_38 : decode b_K_lastOfRow 38 = .ok (.areturn, 1) := by decide +kernel
theorem d_K_rowLength_0 : decode b_K_rowLength 0 = .ok (.iconst 0, 1) := by decide +kernel
theorem d_K_rowLength_1 : decode b_K_rowLength 1 = .ok (.istore_n 2, 1) := by decide +kernel
theorem d_K_rowLength_2 : decode b_K_rowLength 2 = .ok (.iconst 0, 1) := by decide +kernel
theorem d_K_rowLength_3 : decode b_K_rowLength 3 = .ok (.istore_n 3, 1) := by decide +kernel
theorem d_K_rowLength_4 : decode b_K_rowLength 4 = .ok (.iload_n 3, 1) := by decide +kernel
theorem d_K_rowLength_5 : decode b_K_rowLength 5 = .ok (.aload_n 0, 1) := by decide +kernel
theorem d_K_rowLength_6 : decode b_K_rowLength 6 = .ok (.getfield 56, 3) := by decide +kernel
theorem d_K_rowLength_9 : decode b_K_rowLength 9 = .ok (.if_icmp .ge 25, 3) := by decide +kernel
theorem d_K_rowLength_12 : decode b_K_rowLength 12 = .ok (.aload_n 0, 1) := by decide +kernel
theorem d_K_rowLength_13 : decode b_K_rowLength 13 = .ok (.getfield 52, 3) := by decide +kernel
theorem d_K_rowLength_16 : decode b_K_rowLength 16 = .ok (.iload_n 3, 1) := by decide +kernel
theorem d_K_rowLength_17 : decode b_K_rowLength 17 = .ok (.aaload, 1) := by decide +kernel
theorem d_K_rowLength_18 : decode b_K_rowLength 18 = .ok (.iload_n 1, 1) := by decide +kernel
theorem d_K_rowLength_19 : decode b_K_rowLength 19 = .ok (.invokestatic 302, 3) := by decide +kernel
theorem d_K_rowLength_22 : decode b_K_rowLength 22 = .ok (.ifCond .eq 6, 3) := by decide +kernel
theorem d_K_rowLength_25 : decode b_K_rowLength 25 = .ok (.iinc 2 1, 3) := by decide +kernel
theorem d_K_rowLength_28 : decode b_K_rowLength 28 = .ok (.iinc 3 1, 3) := by decide +kernel
theorem d_K_rowLength_31 : decode b_K_rowLength 31 = .ok (.goto (-27), 3) := by decide +kernel
theorem d_K_rowLength_34 : decode b_K_rowLength 34 = .ok (.iload_n 2, 1) := by decide +kernel
theorem d_K_rowLength_35 : decode b_K_rowLength 35 = .ok (.ireturn, 1) := by decide +kernel
theorem d_K_jobsNotEnded_0 : decode b_K_jobsNotEnded 0 = .ok (.iconst 0, 1) := by decide +kernel
theorem d_K_jobsNotEnded_1 : decode b_K_jobsNotEnded 1 = .ok (.istore_n 1, 1) := by decide +kernel
theorem d_K_jobsNotEnded_2 : decode b_K_jobsNotEnded 2 = .ok (.iconst 0, 1) := by decide +kernel
theorem d_K_jobsNotEnded_3 : decode b_K_jobsNotEnded 3 = .ok (.istore_n 2, 1) := by decide +kernel
theorem d_K_jobsNotEnded_4 : decode b_K_jobsNotEnded 4 = .ok (.iload_n 2, 1) := by decide +kernel
theorem d_K_jobsNotEnded_5 : decode b_K_jobsNotEnded 5 = .ok (.aload_n 0, 1) := by decide +kernel
theorem d_K_jobsNotEnded_6 : decode b_K_jobsNotEnded 6 = .ok (.getfield 56, 3) := by decide +kernel
theorem d_K_jobsNotEnded_9 : decode b_K_jobsNotEnded 9 = .ok (.if_icmp .ge 24, 3) := by decide +kernel
theorem d_K_jobsNotEnded_12 : decode b_K_jobsNotEnded 12 = .ok (.aload_n 0, 1) := by decide +kernel
theorem d_K_jobsNotEnded_13 : decode b_K_jobsNotEnded 13 = .ok (.getfield 52, 3) := by decide +kernel
theorem d_K_jobsNotEnded_16 : decode b_K_jobsNotEnded 16 = .ok (.iload_n 2, 1) := by decide +kernel
theorem d_K_jobsNotEnded_17 : decode b_K_jobsNotEnded 17 = .ok (.aaload, 1) := by decide +kernel
theorem d_K_jobsNotEnded_18 : decode b_K_jobsNotEnded 18 = .ok (.getfield 147, 3) := by decide +kernel
theorem d_K_jobsNotEnded_21 : decode b_K_jobsNotEnded 21 = .ok (.ifCond .ne 6, 3) := by decide +kernel
theorem d_K_jobsNotEnded_24 : decode b_K_jobsNotEnded 24 = .ok (.iinc 1 1, 3) := by decide +kernel
theorem d_K_jobsNotEnded_27 : decode b_K_jobsNotEnded 27 = .ok (.iinc 2 1, 3) := by decide +kernel
theorem d_K_jobsNotEnded_30 : decode b_K_jobsNotEnded 30 = .ok (.goto (-26), 3) := by decide +kernel
theorem d_K_jobsNotEnded_33 : decode b_K_jobsNotEnded 33 = .ok (.iload_n 1, 1) := by decide +kernel
theorem d_K_jobsNotEnded_34 : decode b_K_jobsNotEnded 34 = .ok (.ireturn, 1) := by decide +kernel
theorem d_K_beginJob_0 : decode b_K_beginJob 0 = .ok (.aload_n 1, 1) := by decide +kernel
theorem d_K_beginJob_1 : decode b_K_beginJob 1 = .ok (.getfield 111, 3) := by decide +kernel
theorem d_K_beginJob_4 : decode b_K_beginJob 4 = .ok (.lookupswitch 43 #[(0, 28), (1, 34)], 28) := by decide +kernel
theorem d_K_beginJob_32 : decode b_K_beginJob 32 = .ok (.aload_n 0, 1) := by decide +kernel
theorem d_K_beginJob_33 : decode b_K_beginJob 33 = .ok (.aload_n 1, 1) := by decide +kernel
theorem d_K_beginJob_34 : decode b_K_beginJob 34 = .ok (.invokevirtual 306, 3) := by decide +kernel
theorem d_K_beginJob_37 : decode b_K_beginJob 37 = .ok (.ireturn, 1) := by decide +kernel
theorem d_K_beginJob_38 : decode b_K_beginJob 38 = .ok (.aload_n 0, 1) := by decide +kernel
theorem d_K_beginJob_39 : decode b_K_beginJob 39 = .ok (.aload_n 1, 1) := by decide +kernel
theorem d_K_beginJob_40 : decode b_K_beginJob 40 = .ok (.getfield 301, 3) := by decide +kernel
theorem d_K_beginJob_43 : decode b_K_beginJob 43 = .ok (.invokevirtual 309, 3) := by decide +kernel
theorem d_K_beginJob_46 : decode b_K_beginJob 46 = .ok (.ireturn, 1) := by decide +kernel
theorem d_K_beginJob_47 : decode b_K_beginJob 47 = .ok (.aload_n 0, 1) := by decide +kernel
theorem d_K_beginJob_48 : decode b_K_beginJob 48 = .ok (.aload_n 1, 1) := by decide +kernel
theorem d_K_beginJob_49 : decode b_K_beginJob 49 = .ok (.getfield 301, 3) := by decide +kernel
theorem d_K_beginJob_52 : decode b_K_beginJob 52 = .ok (.invokevirtual 312, 3) := by decide +kernel
theorem d_K_beginJob_55 : decode b_K_beginJob 55 = .ok (.ireturn, 1) := by decide +kernel
theorem d_K_beginRegister_0 : decode b_K_beginRegister 0 = .ok (.aload_n 0, 1) := by decide +kernel
theorem d_K_beginRegister_1 : decode b_K_beginRegister 1 = .ok (.getfield 11, 3) := by decide +kernel
theorem d_K_beginRegister_4 : decode b_K_beginRegister 4 = .ok (.aload_n 1, 1) := by decide +kernel
theorem d_K_beginRegister_5 : decode b_K_beginRegister 5 = .ok (.getfield 114, 3) := by decide +kernel
theorem d_K_beginRegister_8 : decode b_K_beginRegister 8 = .ok (.aaload, 1) := by decide +kernel
theorem d_K_beginRegister_9 : decode b_K_beginRegister 9 = .ok (.getfield 87, 3) := by decide +kernel
theorem d_K_beginRegister_12 : decode b_K_beginRegister 12 = .ok (.aload_n 1, 1) := by decide +kernel
theorem d_K_beginRegister_13 : decode b_K_beginRegister 13 = .ok (.getfield 301, 3) := by decide +kernel
theorem d_K_beginRegister_16 : decode b_K_beginRegister 16 = .ok (.invokestatic 315, 3) := by decide +kernel
theorem d_K_beginRegister_19 : decode b_K_beginRegister 19 = .ok (.ifCond .ne 5, 3) := by decide +kernel
theorem d_K_beginRegister_22 : decode b_K_beginRegister 22 = .ok (.iconst (-1), 1) := by decide +kernel
theorem d_K_beginRegister_23 : decode b_K_beginRegister 23 = .ok (.ireturn, 1) := by decide +kernel
theorem d_K_beginRegister_24 : decode b_K_beginRegister 24 = .ok (.aload_n 0, 1) := by decide +kernel
theorem d_K_beginRegister_25 : decode b_K_beginRegister 25 = .ok (.getfield 15, 3) := by decide +kernel
theorem d_K_beginRegister_28 : decode b_K_beginRegister 28 = .ok (.ifCond .ne 6, 3) := by decide +kernel
theorem d_K_beginRegister_31 : decode b_K_beginRegister 31 = .ok (.bipush (-4), 2) := by decide +kernel
theorem d_K_beginRegister_33 : decode b_K_beginRegister 33 = .ok (.ireturn, 1) := by decide +kernel
theorem d_K_beginRegister_34 : decode b_K_beginRegister 34 = .ok (.aload_n 0, 1) := by decide +kernel
theorem d_K_beginRegister_35 : decode b_K_beginRegister 35 = .ok (.aload_n 1, 1) := by decide +kernel
theorem d_K_beginRegister_36 : decode b_K_beginRegister 36 = .ok (.getfield 301, 3) := by decide +kernel
theorem d_K_beginRegister_39 : decode b_K_beginRegister 39 = .ok (.invokevirtual 291, 3) := by decide +kernel
theorem d_K_beginRegister_42 : decode b_K_beginRegister 42 = .ok (.astore_n 2, 1) := by decide +kernel
theorem d_K_beginRegister_43 : decode b_K_beginRegister 43 = .ok (.aload_n 2, 1) := by decide +kernel
theorem d_K_beginRegister_44 : decode b_K_beginRegister 44 = .ok (.ifnonnull 15, 3) := by decide +kernel
theorem d_K_beginRegister_47 : decode b_K_beginRegister 47 = .ok (.aload_n 0, 1) := by decide +kernel
theorem d_K_beginRegister_48 : decode b_K_beginRegister 48 = .ok (.getfield 38, 3) := by decide +kernel
theorem d_K_beginRegister_51 : decode b_K_beginRegister 51 = .ok (.iconst 5, 1) := by decide +kernel
theorem d_K_beginRegister_52 : decode b_K_beginRegister 52 = .ok (.if_icmp .lt 7, 3) := by decide +kernel
theorem d_K_beginRegister_55 : decode b_K_beginRegister 55 = .ok (.iconst 1, 1) := by decide +kernel
theorem d_K_beginRegister_56 : decode b_K_beginRegister 56 = .ok (.goto 4, 3) := by decide +kernel
theorem d_K_beginRegister_59 : decode b_K_beginRegister 59 = .ok (.iconst 0, 1) := by decide +kernel
theorem d_K_beginRegister_60 : decode b_K_beginRegister 60 = .ok (.istore_n 3, 1) := by decide +kernel
theorem d_K_beginRegister_61 : decode b_K_beginRegister 61 = .ok (.iload_n 3, 1) := by decide +kernel
theorem d_K_beginRegister_62 : decode b_K_beginRegister 62 = .ok (.ifCond .ne 12, 3) := by decide +kernel
theorem d_K_beginRegister_65 : decode b_K_beginRegister 65 = .ok (.aload_n 0, 1) := by decide +kernel
theorem d_K_beginRegister_66 : decode b_K_beginRegister 66 = .ok (.getfield 29, 3) := by decide +kernel
theorem d_K_beginRegister_69 : decode b_K_beginRegister 69 = .ok (.bipush 40, 2) := by decide +kernel
theorem d_K_beginRegister_71 : decode b_K_beginRegister 71 = .ok (.if_icmp .lt 6, 3) := by decide +kernel
theorem d_K_beginRegister_74 : decode b_K_beginRegister 74 = .ok (.bipush (-5), 2) := by decide +kernel
theorem d_K_beginRegister_76 : decode b_K_beginRegister 76 = .ok (.ireturn, 1) := by decide +kernel
theorem d_K_beginRegister_77 : decode b_K_beginRegister 77 = .ok (.aload_n 2, 1) := by decide +kernel
theorem d_K_beginRegister_78 : decode b_K_beginRegister 78 = .ok (.ifnonnull 12, 3) := by decide +kernel
theorem d_K_beginRegister_81 : decode b_K_beginRegister 81 = .ok (.aload_n 0, 1) := by decide +kernel
theorem d_K_beginRegister_82 : decode b_K_beginRegister 82 = .ok (.aload_n 1, 1) := by decide +kernel
theorem d_K_beginRegister_83 : decode b_K_beginRegister 83 = .ok (.getfield 301, 3) := by decide +kernel
theorem d_K_beginRegister_86 : decode b_K_beginRegister 86 = .ok (.invokevirtual 319, 3) := by decide +kernel
theorem d_K_beginRegister_89 : decode b_K_beginRegister 89 = .ok (.astore_n 2, 1) := by decide +kernel
theorem d_K_beginRegister_90 : decode b_K_beginRegister 90 = .ok (.aload_n 2, 1) := by decide +kernel
theorem d_K_beginRegister_91 : decode b_K_beginRegister 91 = .ok (.iconst 0, 1) := by decide +kernel
theorem d_K_beginRegister_92 : decode b_K_beginRegister 92 = .ok (.putfield 236, 3) := by decide +kernel
theorem d_K_beginRegister_95 : decode b_K_beginRegister 95 = .ok (.aload_n 2, 1) := by decide +kernel
theorem d_K_beginRegister_96 : decode b_K_beginRegister 96 = .ok (.getfield 235, 3) := by decide +kernel
theorem d_K_beginRegister_99 : decode b_K_beginRegister 99 = .ok (.aload_n 1, 1) := by decide +kernel
theorem d_K_beginRegister_100 : decode b_K_beginRegister 100 = .ok (.getfield 114, 3) := by decide +kernel
theorem d_K_beginRegister_103 : decode b_K_beginRegister 103 = .ok (.if_icmp .ne 13, 3) := by decide +kernel
theorem d_K_beginRegister_106 : decode b_K_beginRegister 106 = .ok (.aload_n 0, 1) := by decide +kernel
theorem d_K_beginRegister_107 : decode b_K_beginRegister 107 = .ok (.aload_n 2, 1) := by decide +kernel
theorem d_K_beginRegister_108 : decode b_K_beginRegister 108 = .ok (.invokevirtual 322, 3) := by decide +kernel
theorem d_K_beginRegister_111 : decode b_K_beginRegister 111 = .ok (.ifCond .eq 5, 3) := by decide +kernel
theorem d_K_beginRegister_114 : decode b_K_beginRegister 114 = .ok (.iconst 2, 1) := by decide +kernel
theorem d_K_beginRegister_115 : decode b_K_beginRegister 115 = .ok (.ireturn, 1) := by decide +kernel
theorem d_K_beginRegister_116 : decode b_K_beginRegister 116 = .ok (.aload_n 2, 1) := by decide +kernel
theorem d_K_beginRegister_117 : decode b_K_beginRegister 117 = .ok (.aload_n 1, 1) := by decide +kernel
theorem d_K_beginRegister_118 : decode b_K_beginRegister 118 = .ok (.getfield 114, 3) := by decide +kernel
theorem d_K_beginRegister_121 : decode b_K_beginRegister 121 = .ok (.putfield 235, 3) := by decide +kernel
theorem d_K_beginRegister_124 : decode b_K_beginRegister 124 = .ok (.aload_n 0, 1) := by decide +kernel
theorem d_K_beginRegister_125 : decode b_K_beginRegister 125 = .ok (.aload_n 2, 1) := by decide +kernel
theorem d_K_beginRegister_126 : decode b_K_beginRegister 126 = .ok (.invokevirtual 326, 3) := by decide +kernel
theorem d_K_beginRegister_129 : decode b_K_beginRegister 129 = .ok (.iconst 0, 1) := by decide +kernel
theorem d_K_beginRegister_130 : decode b_K_beginRegister 130 = .ok (.ireturn, 1) := by decide +kernel
theorem d_K_beginUpdate_0 : decode b_K_beginUpdate 0 = .ok (.aload_n 0, 1) := by decide +kernel
theorem d_K_beginUpdate_1 : decode b_K_beginUpdate 1 = .ok (.iload_n 1, 1) := by decide +kernel
theorem d_K_beginUpdate_2 : decode b_K_beginUpdate 2 = .ok (.invokevirtual 291, 3) := by decide +kernel
theorem d_K_beginUpdate_5 : decode b_K_beginUpdate 5 = .ok (.astore_n 2, 1) := by decide +kernel
theorem d_K_beginUpdate_6 : decode b_K_beginUpdate 6 = .ok (.aload_n 2, 1) := by decide +kernel
theorem d_K_beginUpdate_7 : decode b_K_beginUpdate 7 = .ok (.ifnull 10, 3) := by decide +kernel
theorem d_K_beginUpdate_10 : decode b_K_beginUpdate 10 = .ok (.aload_n 2, 1) := by decide +kernel
theorem d_K_beginUpdate_11 : decode b_K_beginUpdate 11 = .ok (.getfield 236, 3) := by decide +kernel
theorem d_K_beginUpdate_14 : decode b_K_beginUpdate 14 = .ok (.ifCond .eq 6, 3) := by decide +kernel
theorem d_K_beginUpdate_17 : decode b_K_beginUpdate 17 = .ok (.bipush (-2), 2) := by decide +kernel
theorem d_K_beginUpdate_19 : decode b_K_beginUpdate 19 = .ok (.ireturn, 1) := by decide +kernel
theorem d_K_beginUpdate_20 : decode b_K_beginUpdate 20 = .ok (.aload_n 0, 1) := by decide +kernel
theorem d_K_beginUpdate_21 : decode b_K_beginUpdate 21 = .ok (.getfield 15, 3) := by decide +kernel
theorem d_K_beginUpdate_24 : decode b_K_beginUpdate 24 = .ok (.ifCond .ne 6, 3) := by decide +kernel
theorem d_K_beginUpdate_27 : decode b_K_beginUpdate 27 = .ok (.bipush (-4), 2) := by decide +kernel
theorem d_K_beginUpdate_29 : decode b_K_beginUpdate 29 = .ok (.ireturn, 1) := by decide +kernel
theorem d_K_beginUpdate_30 : decode b_K_beginUpdate 30 = .ok (.aload_n 0, 1) := by decide +kernel
theorem d_K_beginUpdate_31 : decode b_K_beginUpdate 31 = .ok (.getfield 29, 3) := by decide +kernel
theorem d_K_beginUpdate_34 : decode b_K_beginUpdate 34 = .ok (.bipush 40, 2) := by decide +kernel
theorem d_K_beginUpdate_36 : decode b_K_beginUpdate 36 = .ok (.if_icmp .lt 6, 3) := by decide +kernel
theorem d_K_beginUpdate_39 : decode b_K_beginUpdate 39 = .ok (.bipush (-5), 2) := by decide +kernel
theorem d_K_beginUpdate_41 : decode b_K_beginUpdate 41 = .ok (.ireturn, 1) := by decide +kernel
theorem d_K_beginUpdate_42 : decode b_K_beginUpdate 42 = .ok (.aload_n 0, 1) := by decide +kernel
theorem d_K_beginUpdate_43 : decode b_K_beginUpdate 43 = .ok (.aload_n 2, 1) := by decide +kernel
theorem d_K_beginUpdate_44 : decode b_K_beginUpdate 44 = .ok (.invokevirtual 322, 3) := by decide +kernel
theorem d_K_beginUpdate_47 : decode b_K_beginUpdate 47 = .ok (.ifCond .eq 5, 3) := by decide +kernel
theorem d_K_beginUpdate_50 : decode b_K_beginUpdate 50 = .ok (.iconst 2, 1) := by decide +kernel
theorem d_K_beginUpdate_51 : decode b_K_beginUpdate 51 = .ok (.ireturn, 1) := by decide +kernel
theorem d_K_beginUpdate_52 : decode b_K_beginUpdate 52 = .ok (.aload_n 0, 1) := by decide +kernel
theorem d_K_beginUpdate_53 : decode b_K_beginUpdate 53 = .ok (.aload_n 2, 1) := by decide +kernel
theorem d_K_beginUpdate_54 : decode b_K_beginUpdate 54 = .ok (.invokevirtual 326, 3) := by decide +kernel
theorem d_K_beginUpdate_57 : decode b_K_beginUpdate 57 = .ok (.iconst 0, 1) := by decide +kernel
theorem d_K_beginUpdate_58 : decode b_K_beginUpdate 58 = .ok (.ireturn, 1) := by decide +kernel
theorem d_K_unregister_0 : decode b_K_unregister 0 = .ok (.aload_n 0, 1) := by decide +kernel
theorem d_K_unregister_1 : decode b_K_unregister 1 = .ok (.iload_n 1, 1) := by decide +kernel
theorem d_K_unregister_2 : decode b_K_unregister 2 = .ok (.invokevirtual 291, 3) := by decide +kernel
theorem d_K_unregister_5 : decode b_K_unregister 5 = .ok (.astore_n 2, 1) := by decide +kernel
theorem d_K_unregister_6 : decode b_K_unregister 6 = .ok (.aload_n 2, 1) := by decide +kernel
theorem d_K_unregister_7 : decode b_K_unregister 7 = .ok (.ifnull 10, 3) := by decide +kernel
theorem d_K_unregister_10 : decode b_K_unregister 10 = .ok (.aload_n 2, 1) := by decide +kernel
theorem d_K_unregister_11 : decode b_K_unregister 11 = .ok (.getfield 236, 3) := by decide +kernel
theorem d_K_unregister_14 : decode b_K_unregister 14 = .ok (.ifCond .eq 6, 3) := by decide +kernel
theorem d_K_unregister_17 : decode b_K_unregister 17 = .ok (.bipush (-2), 2) := by decide +kernel
theorem d_K_unregister_19 : decode b_K_unregister 19 = .ok (.ireturn, 1) := by decide +kernel
theorem d_K_unregister_20 : decode b_K_unregister 20 = .ok (.aload_n 2, 1) := by decide +kernel
theorem d_K_unregister_21 : decode b_K_unregister 21 = .ok (.iconst 1, 1) := by decide +kernel
theorem d_K_unregister_22 : decode b_K_unregister 22 = .ok (.putfield 236, 3) := by decide +kernel
theorem d_K_unregister_25 : decode b_K_unregister 25 = .ok (.aload_n 0, 1) := by decide +kernel
theorem d_K_unregister_26 : decode b_K_unregister 26 = .ok (.aload_n 2, 1) := by decide +kernel
theorem d_K_unregister_27 : decode b_K_unregister 27 = .ok (.invokevirtual 329, 3) := by decide +kernel
theorem d_K_unregister_30 : decode b_K_unregister 30 = .ok (.pop, 1) := by decide +kernel
theorem d_K_unregister_31 : decode b_K_unregister 31 = .ok (.iconst 1, 1) := by decide +kernel
theorem d_K_unregister_32 : decode b_K_unregister 32 = .ok (.ireturn, 1) := by decide +kernel
theorem d_K_isUpToDate_0 : decode b_K_isUpToDate 0 = .ok (.aload_n 1, 1) := by decide +kernel
theorem d_K_isUpToDate_1 : decode b_K_isUpToDate 1 = .ok (.invokevirtual 332, 3) := by decide +kernel
theorem d_K_isUpToDate_4 : decode b_K_isUpToDate 4 = .ok (.astore_n 2, 1) := by decide +kernel
theorem d_K_isUpToDate_5 : decode b_K_isUpToDate 5 = .ok (.aload_n 2, 1) := by decide +kernel
theorem d_K_isUpToDate_6 : decode b_K_isUpToDate 6 = .ok (.ifnull 26, 3) := by decide +kernel
theorem d_K_isUpToDate_9 : decode b_K_isUpToDate 9 = .ok (.aload_n 2, 1) := by decide +kernel
theorem d_K_isUpToDate_10 : decode b_K_isUpToDate 10 = .ok (.getfield 216, 3) := by decide +kernel
theorem d_K_isUpToDate_13 : decode b_K_isUpToDate 13 = .ok (.aload_n 0, 1) := by decide +kernel
theorem d_K_isUpToDate_14 : decode b_K_isUpToDate 14 = .ok (.getfield 11, 3) := by decide +kernel
theorem d_K_isUpToDate_17 : decode b_K_isUpToDate 17 = .ok (.aload_n 1, 1) := by decide +kernel
theorem d_K_isUpToDate_18 : decode b_K_isUpToDate 18 = .ok (.getfield 235, 3) := by decide +kernel
theorem d_K_isUpToDate_21 : decode b_K_isUpToDate 21 = .ok (.aaload, 1) := by decide +kernel
theorem d_K_isUpToDate_22 : decode b_K_isUpToDate 22 = .ok (.getfield 84, 3) := by decide +kernel
theorem d_K_isUpToDate_25 : decode b_K_isUpToDate 25 = .ok (.if_icmp .ne 7, 3) := by decide +kernel
theorem d_K_isUpToDate_28 : decode b_K_isUpToDate 28 = .ok (.iconst 1, 1) := by decide +kernel
theorem d_K_isUpToDate_29 : decode b_K_isUpToDate 29 = .ok (.goto 4, 3) := by decide +kernel
theorem d_K_isUpToDate_32 : decode b_K_isUpToDate 32 = .ok (.iconst 0, 1) := by decide +kernel
theorem d_K_isUpToDate_33 : decode b_K_isUpToDate 33 = .ok (.ireturn, 1) := by decide +kernel
theorem d_K_beginInstall_0 : decode b_K_beginInstall 0 = .ok (.new 23, 3) := by decide +kernel
theorem d_K_beginInstall_3 : decode b_K_beginInstall 3 = .ok (.dup, 1) := by decide +kernel
theorem d_K_beginInstall_4 : decode b_K_beginInstall 4 = .ok (.aload_n 0, 1) := by decide +kernel
theorem d_K_beginInstall_5 : decode b_K_beginInstall 5 = .ok (.getfield 29, 3) := by decide +kernel
theorem d_K_beginInstall_8 : decode b_K_beginInstall 8 = .ok (.iconst 1, 1) := by decide +kernel
theorem d_K_beginInstall_9 : decode b_K_beginInstall 9 = .ok (.iadd, 1) := by decide +kernel
theorem d_K_beginInstall_10 : decode b_K_beginInstall 10 = .ok (.aload_n 0, 1) := by decide +kernel
theorem d_K_beginInstall_11 : decode b_K_beginInstall 11 = .ok (.getfield 11, 3) := by decide +kernel
theorem d_K_beginInstall_14 : decode b_K_beginInstall 14 = .ok (.aload_n 1, 1) := by decide +kernel
theorem d_K_beginInstall_15 : decode b_K_beginInstall 15 = .ok (.getfield 235, 3) := by decide +kernel
theorem d_K_beginInstall_18 : decode b_K_beginInstall 18 = .ok (.aaload, 1) := by decide +kernel
theorem d_K_beginInstall_19 : decode b_K_beginInstall 19 = .ok (.invokespecial 336, 3) := by decide +kernel
theorem d_K_beginInstall_22 : decode b_K_beginInstall 22 = .ok (.astore_n 2, 1) := by decide +kernel
theorem d_K_beginInstall_23 : decode b_K_beginInstall 23 = .ok (.aload_n 0, 1) := by decide +kernel
theorem d_K_beginInstall_24 : decode b_K_beginInstall 24 = .ok (.getfield 25, 3) := by decide +kernel
theorem d_K_beginInstall_27 : decode b_K_beginInstall 27 = .ok (.aload_n 0, 1) := by decide +kernel
theorem d_K_beginInstall_28 : decode b_K_beginInstall 28 = .ok (.getfield 29, 3) := by decide +kernel
theorem d_K_beginInstall_31 : decode b_K_beginInstall 31 = .ok (.aload_n 2, 1) := by decide +kernel
theorem d_K_beginInstall_32 : decode b_K_beginInstall 32 = .ok (.aastore, 1) := by decide +kernel
theorem d_K_beginInstall_33 : decode b_K_beginInstall 33 = .ok (.aload_n 0, 1) := by decide +kernel
theorem d_K_beginInstall_34 : decode b_K_beginInstall 34 = .ok (.dup, 1) := by decide +kernel
theorem d_K_beginInstall_35 : decode b_K_beginInstall 35 = .ok (.getfield 29, 3) := by decide +kernel
theorem d_K_beginInstall_38 : decode b_K_beginInstall 38 = .ok (.iconst 1, 1) := by decide +kernel
theorem d_K_beginInstall_39 : decode b_K_beginInstall 39 = .ok (.iadd, 1) := by decide +kernel
theorem d_K_beginInstall_40 : decode b_K_beginInstall 40 = .ok (.putfield 29, 3) := by decide +kernel
theorem d_K_beginInstall_43 : decode b_K_beginInstall 43 = .ok (.aload_n 1, 1) := by decide +kernel
theorem d_K_beginInstall_44 : decode b_K_beginInstall 44 = .ok (.aload_n 2, 1) := by decide +kernel
theorem d_K_beginInstall_45 : decode b_K_beginInstall 45 = .ok (.putfield 199, 3) := by decide +kernel
theorem d_K_beginInstall_48 : decode b_K_beginInstall 48 = .ok (.aload_n 0, 1) := by decide +kernel
theorem d_K_beginInstall_49 : decode b_K_beginInstall 49 = .ok (.aload_n 2, 1) := by decide +kernel
theorem d_K_beginInstall_50 : decode b_K_beginInstall 50 = .ok (.iconst 1, 1) := by decide +kernel
theorem d_K_beginInstall_51 : decode b_K_beginInstall 51 = .ok (.invokevirtual 339, 3) := by decide +kernel
theorem d_K_beginInstall_54 : decode b_K_beginInstall 54 = .ok (.return_, 1) := by decide +kernel
theorem d_K_finishInstall_0 : decode b_K_finishInstall 0 = .ok (.aload_n 0, 1) := by decide +kernel
theorem d_K_finishInstall_1 : decode b_K_finishInstall 1 = .ok (.iload_n 1, 1) := by decide +kernel
theorem d_K_finishInstall_2 : decode b_K_finishInstall 2 = .ok (.invokevirtual 291, 3) := by decide +kernel
theorem d_K_finishInstall_5 : decode b_K_finishInstall 5 = .ok (.astore_n 2, 1) := by decide +kernel
theorem d_K_finishInstall_6 : decode b_K_finishInstall 6 = .ok (.aload_n 2, 1) := by decide +kernel
theorem d_K_finishInstall_7 : decode b_K_finishInstall 7 = .ok (.ifnull 10, 3) := by decide +kernel
theorem d_K_finishInstall_10 : decode b_K_finishInstall 10 = .ok (.aload_n 2, 1) := by decide +kernel
theorem d_K_finishInstall_11 : decode b_K_finishInstall 11 = .ok (.getfield 199, 3) := by decide +kernel
theorem d_K_finishInstall_14 : decode b_K_finishInstall 14 = .ok (.ifnonnull 6, 3) := by decide +kernel
theorem d_K_finishInstall_17 : decode b_K_finishInstall 17 = .ok (.bipush (-2), 2) := by decide +kernel
theorem d_K_finishInstall_19 : decode b_K_finishInstall 19 = .ok (.ireturn, 1) := by decide +kernel
theorem d_K_finishInstall_20 : decode b_K_finishInstall 20 = .ok (.aload_n 2, 1) := by decide +kernel
theorem d_K_finishInstall_21 : decode b_K_finishInstall 21 = .ok (.getfield 199, 3) := by decide +kernel
theorem d_K_finishInstall_24 : decode b_K_finishInstall 24 = .ok (.astore_n 3, 1) := by decide +kernel
theorem d_K_finishInstall_25 : decode b_K_finishInstall 25 = .ok (.aload_n 2, 1) := by decide +kernel
theorem d_K_finishInstall_26 : decode b_K_finishInstall 26 = .ok (.aconst_null, 1) := by decide +kernel
theorem d_K_finishInstall_27 : decode b_K_finishInstall 27 = .ok (.putfield 199, 3) := by decide +kernel
theorem d_K_finishInstall_30 : decode b_K_finishInstall 30 = .ok (.aload_n 3, 1) := by decide +kernel
theorem d_K_finishInstall_31 : decode b_K_finishInstall 31 = .ok (.getfield 343, 3) := by decide +kernel
theorem d_K_finishInstall_34 : decode b_K_finishInstall 34 = .ok (.iconst 1, 1) := by decide +kernel
theorem d_K_finishInstall_35 : decode b_K_finishInstall 35 = .ok (.if_icmp .ne 24, 3) := by decide +kernel
theorem d_K_finishInstall_38 : decode b_K_finishInstall 38 = .ok (.aload_n 0, 1) := by decide +kernel
theorem d_K_finishInstall_39 : decode b_K_finishInstall 39 = .ok (.aload_n 3, 1) := by decide +kernel
theorem d_K_finishInstall_40 : decode b_K_finishInstall 40 = .ok (.iconst 4, 1) := by decide +kernel
theorem d_K_finishInstall_41 : decode b_K_finishInstall 41 = .ok (.invokevirtual 339, 3) := by decide +kernel
theorem d_K_finishInstall_44 : decode b_K_finishInstall 44 = .ok (.aload_n 2, 1) := by decide +kernel
theorem d_K_finishInstall_45 : decode b_K_finishInstall 45 = .ok (.invokevirtual 332, 3) := by decide +kernel
theorem d_K_finishInstall_48 : decode b_K_finishInstall 48 = .ok (.ifnonnull 8, 3) := by decide +kernel
theorem d_K_finishInstall_51 : decode b_K_finishInstall 51 = .ok (.aload_n 0, 1) := by decide +kernel
theorem d_K_finishInstall_52 : decode b_K_finishInstall 52 = .ok (.aload_n 2, 1) := by decide +kernel
theorem d_K_finishInstall_53 : decode b_K_finishInstall 53 = .ok (.invokevirtual 344, 3) := by decide +kernel
theorem d_K_finishInstall_56 : decode b_K_finishInstall 56 = .ok (.bipush (-3), 2) := by decide +kernel
theorem d_K_finishInstall_58 : decode b_K_finishInstall 58 = .ok (.ireturn, 1) := by decide +kernel
theorem d_K_finishInstall_59 : decode b_K_finishInstall 59 = .ok (.aload_n 0, 1) := by decide +kernel
theorem d_K_finishInstall_60 : decode b_K_finishInstall 60 = .ok (.aload_n 2, 1) := by decide +kernel
theorem d_K_finishInstall_61 : decode b_K_finishInstall 61 = .ok (.getfield 196, 3) := by decide +kernel
theorem d_K_finishInstall_64 : decode b_K_finishInstall 64 = .ok (.iconst 4, 1) := by decide +kernel
theorem d_K_finishInstall_65 : decode b_K_finishInstall 65 = .ok (.invokevirtual 339, 3) := by decide +kernel
theorem d_K_finishInstall_68 : decode b_K_finishInstall 68 = .ok (.aload_n 2, 1) := by decide +kernel
theorem d_K_finishInstall_69 : decode b_K_finishInstall 69 = .ok (.aload_n 3, 1) := by decide +kernel
theorem d_K_finishInstall_70 : decode b_K_finishInstall 70 = .ok (.putfield 196, 3) := by decide +kernel
theorem d_K_finishInstall_73 : decode b_K_finishInstall 73 = .ok (.aload_n 0, 1) := by decide +kernel
theorem d_K_finishInstall_74 : decode b_K_finishInstall 74 = .ok (.aload_n 3, 1) := by decide +kernel
theorem d_K_finishInstall_75 : decode b_K_finishInstall 75 = .ok (.iconst 2, 1) := by decide +kernel
theorem d_K_finishInstall_76 : decode b_K_finishInstall 76 = .ok (.invokevirtual 339, 3) := by decide +kernel
theorem d_K_finishInstall_79 : decode b_K_finishInstall 79 = .ok (.aload_n 0, 1) := by decide +kernel
theorem d_K_finishInstall_80 : decode b_K_finishInstall 80 = .ok (.aload_n 2, 1) := by decide +kernel
theorem d_K_finishInstall_81 : decode b_K_finishInstall 81 = .ok (.invokevirtual 207, 3) := by decide +kernel
theorem d_K_finishInstall_84 : decode b_K_finishInstall 84 = .ok (.iconst 1, 1) := by decide +kernel
theorem d_K_finishInstall_85 : decode b_K_finishInstall 85 = .ok (.ireturn, 1) := by decide +kernel
theorem d_K_tryActivation_0 : decode b_K_tryActivation 0 = .ok (.aload_n 1, 1) := by decide +kernel
theorem d_K_tryActivation_1 : decode b_K_tryActivation 1 = .ok (.getfield 196, 3) := by decide +kernel
theorem d_K_tryActivation_4 : decode b_K_tryActivation 4 = .ok (.astore_n 2, 1) := by decide +kernel
theorem d_K_tryActivation_5 : decode b_K_tryActivation 5 = .ok (.aload_n 1, 1) := by decide +kernel
theorem d_K_tryActivation_6 : decode b_K_tryActivation 6 = .ok (.getfield 169, 3) := by decide +kernel
theorem d_K_tryActivation_9 : decode b_K_tryActivation 9 = .ok (.astore_n 3, 1) := by decide +kernel
theorem d_K_tryActivation_10 : decode b_K_tryActivation 10 = .ok (.aload_n 2, 1) := by decide +kernel
theorem d_K_tryActivation_11 : decode b_K_tryActivation 11 = .ok (.ifnull 18, 3) := by decide +kernel
theorem d_K_tryActivation_14 : decode b_K_tryActivation 14 = .ok (.aload_n 2, 1) := by decide +kernel
theorem d_K_tryActivation_15 : decode b_K_tryActivation 15 = .ok (.getfield 204, 3) := by decide +kernel
theorem d_K_tryActivation_18 : decode b_K_tryActivation 18 = .ok (.ifCond .ne 12, 3) := by decide +kernel
theorem d_K_tryActivation_21 : decode b_K_tryActivation 21 = .ok (.aload_n 0, 1) := by decide +kernel
theorem d_K_tryActivation_22 : decode b_K_tryActivation 22 = .ok (.aload_n 3, 1) := by decide +kernel
theorem d_K_tryActivation_23 : decode b_K_tryActivation 23 = .ok (.invokevirtual 251, 3) := by decide +kernel
theorem d_K_tryActivation_26 : decode b_K_tryActivation 26 = .ok (.ifCond .eq 4, 3) := by decide +kernel
theorem d_K_tryActivation_29 : decode b_K_tryActivation 29 = .ok (.return_, 1) := by decide +kernel
theorem d_K_tryActivation_30 : decode b_K_tryActivation 30 = .ok (.aload_n 0, 1) := by decide +kernel
theorem d_K_tryActivation_31 : decode b_K_tryActivation 31 = .ok (.aload_n 3, 1) := by decide +kernel
theorem d_K_tryActivation_32 : decode b_K_tryActivation 32 = .ok (.iconst 4, 1) := by decide +kernel
theorem d_K_tryActivation_33 : decode b_K_tryActivation 33 = .ok (.invokevirtual 339, 3) := by decide +kernel
theorem d_K_tryActivation_36 : decode b_K_tryActivation 36 = .ok (.aload_n 1, 1) := by decide +kernel
theorem d_K_tryActivation_37 : decode b_K_tryActivation 37 = .ok (.aconst_null, 1) := by decide +kernel
theorem d_K_tryActivation_38 : decode b_K_tryActivation 38 = .ok (.putfield 196, 3) := by decide +kernel
theorem d_K_tryActivation_41 : decode b_K_tryActivation 41 = .ok (.aload_n 1, 1) := by decide +kernel
theorem d_K_tryActivation_42 : decode b_K_tryActivation 42 = .ok (.aload_n 2, 1) := by decide +kernel
theorem d_K_tryActivation_43 : decode b_K_tryActivation 43 = .ok (.putfield 169, 3) := by decide +kernel
theorem d_K_tryActivation_46 : decode b_K_tryActivation 46 = .ok (.aload_n 0, 1) := by decide +kernel
theorem d_K_tryActivation_47 : decode b_K_tryActivation 47 = .ok (.aload_n 2, 1) := by decide +kernel
theorem d_K_tryActivation_48 : decode b_K_tryActivation 48 = .ok (.iconst 3, 1) := by decide +kernel
theorem d_K_tryActivation_49 : decode b_K_tryActivation 49 = .ok (.invokevirtual 339, 3) := by decide +kernel
theorem d_K_tryActivation_52 : decode b_K_tryActivation 52 = .ok (.aload_n 3, 1) := by decide +kernel
theorem d_K_tryActivation_53 : decode b_K_tryActivation 53 = .ok (.ifnonnull 4, 3) := by decide +kernel
theorem d_K_tryActivation_56 : decode b_K_tryActivation 56 = .ok (.return_, 1) := by decide +kernel
theorem d_K_tryActivation_57 : decode b_K_tryActivation 57 = .ok (.iconst 0, 1) := by decide +kernel
theorem d_K_tryActivation_58 : decode b_K_tryActivation 58 = .ok (.istore 4, 2) := by decide +kernel
theorem d_K_tryActivation_60 : decode b_K_tryActivation 60 = .ok (.iload 4, 2) := by decide +kernel
theorem d_K_tryActivation_62 : decode b_K_tryActivation 62 = .ok (.bipush 8, 2) := by decide +kernel
theorem d_K_tryActivation_64 : decode b_K_tryActivation 64 = .ok (.if_icmp .ge 30, 3) := by decide +kernel
theorem d_K_tryActivation_67 : decode b_K_tryActivation 67 = .ok (.aload_n 0, 1) := by decide +kernel
theorem d_K_tryActivation_68 : decode b_K_tryActivation 68 = .ok (.getfield 43, 3) := by decide +kernel
theorem d_K_tryActivation_71 : decode b_K_tryActivation 71 = .ok (.iload 4, 2) := by decide +kernel
theorem d_K_tryActivation_73 : decode b_K_tryActivation 73 = .ok (.aaload, 1) := by decide +kernel
theorem d_K_tryActivation_74 : decode b_K_tryActivation 74 = .ok (.getfield 173, 3) := by decide +kernel
theorem d_K_tryActivation_77 : decode b_K_tryActivation 77 = .ok (.aload_n 3, 1) := by decide +kernel
theorem d_K_tryActivation_78 : decode b_K_tryActivation 78 = .ok (.if_acmp .ne 10, 3) := by decide +kernel
theorem d_K_tryActivation_81 : decode b_K_tryActivation 81 = .ok (.aload_n 0, 1) := by decide +kernel
theorem d_K_tryActivation_82 : decode b_K_tryActivation 82 = .ok (.iload 4, 2) := by decide +kernel
theorem d_K_tryActivation_84 : decode b_K_tryActivation 84 = .ok (.aload_n 2, 1) := by decide +kernel
theorem d_K_tryActivation_85 : decode b_K_tryActivation 85 = .ok (.invokevirtual 192, 3) := by decide +kernel
theorem d_K_tryActivation_88 : decode b_K_tryActivation 88 = .ok (.iinc 4 1, 3) := by decide +kernel
theorem d_K_tryActivation_91 : decode b_K_tryActivation 91 = .ok (.goto (-31), 3) := by decide +kernel
theorem d_K_tryActivation_94 : decode b_K_tryActivation 94 = .ok (.return_, 1) := by decide +kernel
