theorem d_K_tryClearing_0 : decode b_K_tryClearing 0 = .ok (.aload_n 1, 1) := by decide +kernel
theorem d_K_tryClearing_1 : decode b_K_tryClearing 1 = .ok (.getfield 236, 3) := by decide +kernel
theorem d_K_tryClearing_4 : decode b_K_tryClearing 4 = .ok (.ifCond .eq 21, 3) := by decide +kernel
theorem d_K_tryClearing_7 : decode b_K_tryClearing 7 = .ok (.aload_n 1, 1) := by decide +kernel
theorem d_K_tryClearing_8 : decode b_K_tryClearing 8 = .ok (.getfield 199, 3) := by decide +kernel
theorem d_K_tryClearing_11 : decode b_K_tryClearing 11 = .ok (.ifnonnull 14, 3) := by decide +kernel
theorem d_K_tryClearing_14 : decode b_K_tryClearing 14 = .ok (.aload_n 0, 1) := by decide +kernel
theorem d_K_tryClearing_15 : decode b_K_tryClearing 15 = .ok (.aload_n 1, 1) := by decide +kernel
theorem d_K_tryClearing_16 : decode b_K_tryClearing 16 = .ok (.getfield 169, 3) := by decide +kernel
theorem d_K_tryClearing_19 : decode b_K_tryClearing 19 = .ok (.invokevirtual 251, 3) := by decide +kernel
theorem d_K_tryClearing_22 : decode b_K_tryClearing 22 = .ok (.ifCond .le 5, 3) := by decide +kernel
theorem d_K_tryClearing_25 : decode b_K_tryClearing 25 = .ok (.iconst 0, 1) := by decide +kernel
theorem d_K_tryClearing_26 : decode b_K_tryClearing 26 = .ok (.ireturn, 1) := by decide +kernel
theorem d_K_tryClearing_27 : decode b_K_tryClearing 27 = .ok (.aload_n 0, 1) := by decide +kernel
theorem d_K_tryClearing_28 : decode b_K_tryClearing 28 = .ok (.aload_n 1, 1) := by decide +kernel
theorem d_K_tryClearing_29 : decode b_K_tryClearing 29 = .ok (.getfield 196, 3) := by decide +kernel
theorem d_K_tryClearing_32 : decode b_K_tryClearing 32 = .ok (.iconst 4, 1) := by decide +kernel
theorem d_K_tryClearing_33 : decode b_K_tryClearing 33 = .ok (.invokevirtual 339, 3) := by decide +kernel
theorem d_K_tryClearing_36 : decode b_K_tryClearing 36 = .ok (.aload_n 0, 1) := by decide +kernel
theorem d_K_tryClearing_37 : decode b_K_tryClearing 37 = .ok (.aload_n 1, 1) := by decide +kernel
theorem d_K_tryClearing_38 : decode b_K_tryClearing 38 = .ok (.getfield 169, 3) := by decide +kernel
theorem d_K_tryClearing_41 : decode b_K_tryClearing 41 = .ok (.iconst 4, 1) := by decide +kernel
theorem d_K_tryClearing_42 : decode b_K_tryClearing 42 = .ok (.invokevirtual 339, 3) := by decide +kernel
theorem d_K_tryClearing_45 : decode b_K_tryClearing 45 = .ok (.aload_n 0, 1) := by decide +kernel
theorem d_K_tryClearing_46 : decode b_K_tryClearing 46 = .ok (.aload_n 1, 1) := by decide +kernel
theorem d_K_tryClearing_47 : decode b_K_tryClearing 47 = .ok (.invokevirtual 344, 3) := by decide +kernel
theorem d_K_tryClearing_50 : decode b_K_tryClearing 50 = .ok (.iconst 1, 1) := by decide +kernel
theorem d_K_tryClearing_51 : decode b_K_tryClearing 51 = .ok (.ireturn, 1) := by decide +kernel
theorem d_K_settleAfterLoss_0 : decode b_K_settleAfterLoss 0 = .ok (.aload_n 0, 1) := by decide +kernel
theorem d_K_settleAfterLoss_1 : decode b_K_settleAfterLoss 1 = .ok (.aload_n 1, 1) := by decide +kernel
theorem d_K_settleAfterLoss_2 : decode b_K_settleAfterLoss 2 = .ok (.invokevirtual 347, 3) := by decide +kernel
theorem d_K_settleAfterLoss_5 : decode b_K_settleAfterLoss 5 = .ok (.astore_n 2, 1) := by decide +kernel
theorem d_K_settleAfterLoss_6 : decode b_K_settleAfterLoss 6 = .ok (.aload_n 2, 1) := by decide +kernel
theorem d_K_settleAfterLoss_7 : decode b_K_settleAfterLoss 7 = .ok (.ifnull 16, 3) := by decide +kernel
theorem d_K_settleAfterLoss_10 : decode b_K_settleAfterLoss 10 = .ok (.aload_n 0, 1) := by decide +kernel
theorem d_K_settleAfterLoss_11 : decode b_K_settleAfterLoss 11 = .ok (.aload_n 2, 1) := by decide +kernel
theorem d_K_settleAfterLoss_12 : decode b_K_settleAfterLoss 12 = .ok (.invokevirtual 329, 3) := by decide +kernel
theorem d_K_settleAfterLoss_15 : decode b_K_settleAfterLoss 15 = .ok (.ifCond .ne 8, 3) := by decide +kernel
theorem d_K_settleAfterLoss_18 : decode b_K_settleAfterLoss 18 = .ok (.aload_n 0, 1) := by decide +kernel
theorem d_K_settleAfterLoss_19 : decode b_K_settleAfterLoss 19 = .ok (.aload_n 2, 1) := by decide +kernel
theorem d_K_settleAfterLoss_20 : decode b_K_settleAfterLoss 20 = .ok (.invokevirtual 207, 3) := by decide +kernel
theorem d_K_settleAfterLoss_23 : decode b_K_settleAfterLoss 23 = .ok (.return_, 1) := by decide +kernel
theorem d_K_numberOf_0 : decode b_K_numberOf 0 = .ok (.aload_n 0, 1) := by decide +kernel
theorem d_K_numberOf_1 : decode b_K_numberOf 1 = .ok (.ifnonnull 7, 3) := by decide +kernel
theorem d_K_numberOf_4 : decode b_K_numberOf 4 = .ok (.iconst 0, 1) := by decide +kernel
theorem d_K_numberOf_5 : decode b_K_numberOf 5 = .ok (.goto 7, 3) := by decide +kernel
theorem d_K_numberOf_8 : decode b_K_numberOf 8 = .ok (.aload_n 0, 1) := by decide +kernel
theorem d_K_numberOf_9 : decode b_K_numberOf 9 = .ok (.getfield 211, 3) := by decide +kernel
theorem d_K_numberOf_12 : decode b_K_numberOf 12 = .ok (.ireturn, 1) := by decide +kernel
theorem d_K_bring_0 : decode b_K_bring 0 = .ok (.aload_n 1, 1) := by decide +kernel
theorem d_K_bring_1 : decode b_K_bring 1 = .ok (.ifnull 20, 3) := by decide +kernel
theorem d_K_bring_4 : decode b_K_bring 4 = .ok (.aload_n 1, 1) := by decide +kernel
theorem d_K_bring_5 : decode b_K_bring 5 = .ok (.iload_n 2, 1) := by decide +kernel
theorem d_K_bring_6 : decode b_K_bring 6 = .ok (.putfield 248, 3) := by decide +kernel
theorem d_K_bring_9 : decode b_K_bring 9 = .ok (.aload_n 0, 1) := by decide +kernel
theorem d_K_bring_10 : decode b_K_bring 10 = .ok (.getfield 62, 3) := by decide +kernel
theorem d_K_bring_13 : decode b_K_bring 13 = .ok (.aload_n 1, 1) := by decide +kernel
theorem d_K_bring_14 : decode b_K_bring 14 = .ok (.getfield 211, 3) := by decide +kernel
theorem d_K_bring_17 : decode b_K_bring 17 = .ok (.iload_n 2, 1) := by decide +kernel
theorem d_K_bring_18 : decode b_K_bring 18 = .ok (.invokevirtual 351, 3) := by decide +kernel
theorem d_K_bring_21 : decode b_K_bring 21 = .ok (.return_, 1) := by decide +kernel
theorem d_K_control_0 : decode b_K_control 0 = .ok (.aload_n 0, 1) := by decide +kernel
theorem d_K_control_1 : decode b_K_control 1 = .ok (.getfield 43, 3) := by decide +kernel
theorem d_K_control_4 : decode b_K_control 4 = .ok (.iload_n 1, 1) := by decide +kernel
theorem d_K_control_5 : decode b_K_control 5 = .ok (.aaload, 1) := by decide +kernel
theorem d_K_control_6 : decode b_K_control 6 = .ok (.aload_n 2, 1) := by decide +kernel
theorem d_K_control_7 : decode b_K_control 7 = .ok (.putfield 173, 3) := by decide +kernel
theorem d_K_control_10 : decode b_K_control 10 = .ok (.aload_n 0, 1) := by decide +kernel
theorem d_K_control_11 : decode b_K_control 11 = .ok (.getfield 62, 3) := by decide +kernel
theorem d_K_control_14 : decode b_K_control 14 = .ok (.iload_n 1, 1) := by decide +kernel
theorem d_K_control_15 : decode b_K_control 15 = .ok (.aload_n 2, 1) := by decide +kernel
theorem d_K_control_16 : decode b_K_control 16 = .ok (.invokestatic 183, 3) := by decide +kernel
theorem d_K_control_19 : decode b_K_control 19 = .ok (.invokevirtual 354, 3) := by decide +kernel
theorem d_K_control_22 : decode b_K_control 22 = .ok (.return_, 1) := by decide +kernel
theorem d_K_controlledBy_0 : decode b_K_controlledBy 0 = .ok (.iconst 0, 1) := by decide +kernel
theorem d_K_controlledBy_1 : decode b_K_controlledBy 1 = .ok (.istore_n 2, 1) := by decide +kernel
theorem d_K_controlledBy_2 : decode b_K_controlledBy 2 = .ok (.iconst 0, 1) := by decide +kernel
theorem d_K_controlledBy_3 : decode b_K_controlledBy 3 = .ok (.istore_n 3, 1) := by decide +kernel
theorem d_K_controlledBy_4 : decode b_K_controlledBy 4 = .ok (.iload_n 3, 1) := by decide +kernel
theorem d_K_controlledBy_5 : decode b_K_controlledBy 5 = .ok (.bipush 8, 2) := by decide +kernel
theorem d_K_controlledBy_7 : decode b_K_controlledBy 7 = .ok (.if_icmp .ge 29, 3) := by decide +kernel
theorem d_K_controlledBy_10 : decode b_K_controlledBy 10 = .ok (.aload_n 1, 1) := by decide +kernel
theorem d_K_controlledBy_11 : decode b_K_controlledBy 11 = .ok (.ifnull 19, 3) := by decide +kernel
theorem d_K_controlledBy_14 : decode b_K_controlledBy 14 = .ok (.aload_n 0, 1) := by decide +kernel
theorem d_K_controlledBy_15 : decode b_K_controlledBy 15 = .ok (.getfield 43, 3) := by decide +kernel
theorem d_K_controlledBy_18 : decode b_K_controlledBy 18 = .ok (.iload_n 3, 1) := by decide +kernel
theorem d_K_controlledBy_19 : decode b_K_controlledBy 19 = .ok (.aaload, 1) := by decide +kernel
theorem d_K_controlledBy_20 : decode b_K_controlledBy 20 = .ok (.getfield 173, 3) := by decide +kernel
theorem d_K_controlledBy_23 : decode b_K_controlledBy 23 = .ok (.aload_n 1, 1) := by decide +kernel
theorem d_K_controlledBy_24 : decode b_K_controlledBy 24 = .ok (.if_acmp .ne 6, 3) := by decide +kernel
theorem d_K_controlledBy_27 : decode b_K_controlledBy 27 = .ok (.iinc 2 1, 3) := by decide +kernel
theorem d_K_controlledBy_30 : decode b_K_controlledBy 30 = .ok (.iinc 3 1, 3) := by decide +kernel
theorem d_K_controlledBy_33 : decode b_K_controlledBy 33 = .ok (.goto (-29), 3) := by decide +kernel
theorem d_K_controlledBy_36 : decode b_K_controlledBy 36 = .ok (.iload_n 2, 1) := by decide +kernel
theorem d_K_controlledBy_37 : decode b_K_controlledBy 37 = .ok (.ireturn, 1) := by decide +kernel
theorem d_K_clientsThere_0 : decode b_K_clientsThere 0 = .ok (.iconst 0, 1) := by decide +kernel
theorem d_K_clientsThere_1 : decode b_K_clientsThere 1 = .ok (.istore_n 1, 1) := by decide +kernel
theorem d_K_clientsThere_2 : decode b_K_clientsThere 2 = .ok (.iconst 0, 1) := by decide +kernel
theorem d_K_clientsThere_3 : decode b_K_clientsThere 3 = .ok (.istore_n 2, 1) := by decide +kernel
theorem d_K_clientsThere_4 : decode b_K_clientsThere 4 = .ok (.iload_n 2, 1) := by decide +kernel
theorem d_K_clientsThere_5 : decode b_K_clientsThere 5 = .ok (.bipush 8, 2) := by decide +kernel
theorem d_K_clientsThere_7 : decode b_K_clientsThere 7 = .ok (.if_icmp .ge 24, 3) := by decide +kernel
theorem d_K_clientsThere_10 : decode b_K_clientsThere 10 = .ok (.aload_n 0, 1) := by decide +kernel
theorem d_K_clientsThere_11 : decode b_K_clientsThere 11 = .ok (.getfield 43, 3) := by decide +kernel
theorem d_K_clientsThere_14 : decode b_K_clientsThere 14 = .ok (.iload_n 2, 1) := by decide +kernel
theorem d_K_clientsThere_15 : decode b_K_clientsThere 15 = .ok (.aaload, 1) := by decide +kernel
theorem d_K_clientsThere_16 : decode b_K_clientsThere 16 = .ok (.getfield 163, 3) := by decide +kernel
theorem d_K_clientsThere_19 : decode b_K_clientsThere 19 = .ok (.ifCond .eq 6, 3) := by decide +kernel
theorem d_K_clientsThere_22 : decode b_K_clientsThere 22 = .ok (.iinc 1 1, 3) := by decide +kernel
theorem d_K_clientsThere_25 : decode b_K_clientsThere 25 = .ok (.iinc 2 1, 3) := by decide +kernel
theorem d_K_clientsThere_28 : decode b_K_clientsThere 28 = .ok (.goto (-24), 3) := by decide +kernel
theorem d_K_clientsThere_31 : decode b_K_clientsThere 31 = .ok (.iload_n 1, 1) := by decide +kernel
theorem d_K_clientsThere_32 : decode b_K_clientsThere 32 = .ok (.ireturn, 1) := by decide +kernel
theorem d_K_leastFreeClient_0 : decode b_K_leastFreeClient 0 = .ok (.iconst 0, 1) := by decide +kernel
theorem d_K_leastFreeClient_1 : decode b_K_leastFreeClient 1 = .ok (.istore_n 1, 1) := by decide +kernel
theorem d_K_leastFreeClient_2 : decode b_K_leastFreeClient 2 = .ok (.iload_n 1, 1) := by decide +kernel
theorem d_K_leastFreeClient_3 : decode b_K_leastFreeClient 3 = .ok (.bipush 8, 2) := by decide +kernel
theorem d_K_leastFreeClient_5 : decode b_K_leastFreeClient 5 = .ok (.if_icmp .ge 21, 3) := by decide +kernel
theorem d_K_leastFreeClient_8 : decode b_K_leastFreeClient 8 = .ok (.aload_n 0, 1) := by decide +kernel
theorem d_K_leastFreeClient_9 : decode b_K_leastFreeClient 9 = .ok (.getfield 43, 3) := by decide +kernel
theorem d_K_leastFreeClient_12 : decode b_K_leastFreeClient 12 = .ok (.iload_n 1, 1) := by decide +kernel
theorem d_K_leastFreeClient_13 : decode b_K_leastFreeClient 13 = .ok (.aaload, 1) := by decide +kernel
theorem d_K_leastFreeClient_14 : decode b_K_leastFreeClient 14 = .ok (.getfield 163, 3) := by decide +kernel
theorem d_K_leastFreeClient_17 : decode b_K_leastFreeClient 17 = .ok (.ifCond .eq 9, 3) := by decide +kernel
theorem d_K_leastFreeClient_20 : decode b_K_leastFreeClient 20 = .ok (.iinc 1 1, 3) := by decide +kernel
theorem d_K_leastFreeClient_23 : decode b_K_leastFreeClient 23 = .ok (.goto (-21), 3) := by decide +kernel
theorem d_K_leastFreeClient_26 : decode b_K_leastFreeClient 26 = .ok (.iload_n 1, 1) := by decide +kernel
theorem d_K_leastFreeClient_27 : decode b_K_leastFreeClient 27 = .ok (.ireturn, 1) := by decide +kernel
theorem d_K_registrationOf_0 : decode b_K_registrationOf 0 = .ok (.iconst 0, 1) := by decide +kernel
theorem d_K_registrationOf_1 : decode b_K_registrationOf 1 = .ok (.istore_n 2, 1) := by decide +kernel
theorem d_K_registrationOf_2 : decode b_K_registrationOf 2 = .ok (.iload_n 2, 1) := by decide +kernel
theorem d_K_registrationOf_3 : decode b_K_registrationOf 3 = .ok (.aload_n 0, 1) := by decide +kernel
theorem d_K_registrationOf_4 : decode b_K_registrationOf 4 = .ok (.getfield 38, 3) := by decide +kernel
theorem d_K_registrationOf_7 : decode b_K_registrationOf 7 = .ok (.if_icmp .ge 29, 3) := by decide +kernel
theorem d_K_registrationOf_10 : decode b_K_registrationOf 10 = .ok (.aload_n 0, 1) := by decide +kernel
theorem d_K_registrationOf_11 : decode b_K_registrationOf 11 = .ok (.getfield 34, 3) := by decide +kernel
theorem d_K_registrationOf_14 : decode b_K_registrationOf 14 = .ok (.iload_n 2, 1) := by decide +kernel
theorem d_K_registrationOf_15 : decode b_K_registrationOf 15 = .ok (.aaload, 1) := by decide +kernel
theorem d_K_registrationOf_16 : decode b_K_registrationOf 16 = .ok (.getfield 274, 3) := by decide +kernel
theorem d_K_registrationOf_19 : decode b_K_registrationOf 19 = .ok (.iload_n 1, 1) := by decide +kernel
theorem d_K_registrationOf_20 : decode b_K_registrationOf 20 = .ok (.if_icmp .ne 10, 3) := by decide +kernel
theorem d_K_registrationOf_23 : decode b_K_registrationOf 23 = .ok (.aload_n 0, 1) := by decide +kernel
theorem d_K_registrationOf_24 : decode b_K_registrationOf 24 = .ok (.getfield 34, 3) := by decide +kernel
theorem d_K_registrationOf_27 : decode b_K_registrationOf 27 = .ok (.iload_n 2, 1) := by decide +kernel
theorem d_K_registrationOf_28 : decode b_K_registrationOf 28 = .ok (.aaload, 1) := by decide +kernel
theorem d_K_registrationOf_29 : decode b_K_registrationOf 29 = .ok (.areturn, 1) := by decide +kernel
theorem d_K_registrationOf_30 : decode b_K_registrationOf 30 = .ok (.iinc 2 1, 3) := by decide +kernel
theorem d_K_registrationOf_33 : decode b_K_registrationOf 33 = .ok (.goto (-31), 3) := by decide +kernel
theorem d_K_registrationOf_36 : decode b_K_registrationOf 36 = .ok (.aconst_null, 1) := by decide +kernel
theorem d_K_registrationOf_37 : decode b_K_registrationOf 37 = .ok (.areturn, 1) := by decide +kernel
theorem d_K_registrationFor_0 : decode b_K_registrationFor 0 = .ok (.aconst_null, 1) := by decide +kernel
theorem d_K_registrationFor_1 : decode b_K_registrationFor 1 = .ok (.astore_n 2, 1) := by decide +kernel
theorem d_K_registrationFor_2 : decode b_K_registrationFor 2 = .ok (.iconst 0, 1) := by decide +kernel
theorem d_K_registrationFor_3 : decode b_K_registrationFor 3 = .ok (.istore_n 3, 1) := by decide +kernel
theorem d_K_registrationFor_4 : decode b_K_registrationFor 4 = .ok (.iload_n 3, 1) := by decide +kernel
theorem d_K_registrationFor_5 : decode b_K_registrationFor 5 = .ok (.aload_n 0, 1) := by decide +kernel
theorem d_K_registrationFor_6 : decode b_K_registrationFor 6 = .ok (.getfield 38, 3) := by decide +kernel
theorem d_K_registrationFor_9 : decode b_K_registrationFor 9 = .ok (.if_icmp .ge 76, 3) := by decide +kernel
theorem d_K_registrationFor_12 : decode b_K_registrationFor 12 = .ok (.aload_n 0, 1) := by decide +kernel
theorem d_K_registrationFor_13 : decode b_K_registrationFor 13 = .ok (.getfield 34, 3) := by decide +kernel
theorem d_K_registrationFor_16 : decode b_K_registrationFor 16 = .ok (.iload_n 3, 1) := by decide +kernel
theorem d_K_registrationFor_17 : decode b_K_registrationFor 17 = .ok (.aaload, 1) := by decide +kernel
theorem d_K_registrationFor_18 : decode b_K_registrationFor 18 = .ok (.astore 4, 2) := by decide +kernel
theorem d_K_registrationFor_20 : decode b_K_registrationFor 20 = .ok (.aload 4, 2) := by decide +kernel
theorem d_K_registrationFor_22 : decode b_K_registrationFor 22 = .ok (.getfield 236, 3) := by decide +kernel
theorem d_K_registrationFor_25 : decode b_K_registrationFor 25 = .ok (.ifCond .ne 27, 3) := by decide +kernel
theorem d_K_registrationFor_28 : decode b_K_registrationFor 28 = .ok (.aload 4, 2) := by decide +kernel
theorem d_K_registrationFor_30 : decode b_K_registrationFor 30 = .ok (.getfield 169, 3) := by decide +kernel
theorem d_K_registrationFor_33 : decode b_K_registrationFor 33 = .ok (.ifnull 19, 3) := by decide +kernel
theorem d_K_registrationFor_36 : decode b_K_registrationFor 36 = .ok (.aload 4, 2) := by decide +kernel
theorem d_K_registrationFor_38 : decode b_K_registrationFor 38 = .ok (.getfield 274, 3) := by decide +kernel
theorem d_K_registrationFor_41 : decode b_K_registrationFor 41 = .ok (.iload_n 1, 1) := by decide +kernel
theorem d_K_registrationFor_42 : decode b_K_registrationFor 42 = .ok (.invokestatic 315, 3) := by decide +kernel
theorem d_K_registrationFor_45 : decode b_K_registrationFor 45 = .ok (.ifCond .eq 7, 3) := by decide +kernel
theorem d_K_registrationFor_48 : decode b_K_registrationFor 48 = .ok (.iconst 1, 1) := by decide +kernel
theorem d_K_registrationFor_49 : decode b_K_registrationFor 49 = .ok (.goto 4, 3) := by decide +kernel
theorem d_K_registrationFor_52 : decode b_K_registrationFor 52 = .ok (.iconst 0, 1) := by decide +kernel
theorem d_K_registrationFor_53 : decode b_K_registrationFor 53 = .ok (.istore 5, 2) := by decide +kernel
theorem d_K_registrationFor_55 : decode b_K_registrationFor 55 = .ok (.iload 5, 2) := by decide +kernel
theorem d_K_registrationFor_57 : decode b_K_registrationFor 57 = .ok (.ifCond .eq 22, 3) := by decide +kernel
theorem d_K_registrationFor_60 : decode b_K_registrationFor 60 = .ok (.aload_n 2, 1) := by decide +kernel
theorem d_K_registrationFor_61 : decode b_K_registrationFor 61 = .ok (.ifnull 15, 3) := by decide +kernel
theorem d_K_registrationFor_64 : decode b_K_registrationFor 64 = .ok (.aload 4, 2) := by decide +kernel
theorem d_K_registrationFor_66 : decode b_K_registrationFor 66 = .ok (.getfield 274, 3) := by decide +kernel
theorem d_K_registrationFor_69 : decode b_K_registrationFor 69 = .ok (.aload_n 2, 1) := by decide +kernel
theorem d_K_registrationFor_70 : decode b_K_registrationFor 70 = .ok (.getfield 274, 3) := by decide +kernel
theorem d_K_registrationFor_73 : decode b_K_registrationFor 73 = .ok (.if_icmp .le 6, 3) := by decide +kernel
theorem d_K_registrationFor_76 : decode b_K_registrationFor 76 = .ok (.aload 4, 2) := by decide +kernel
theorem d_K_registrationFor_78 : decode b_K_registrationFor 78 = .ok (.astore_n 2, 1) := by decide +kernel
theorem d_K_registrationFor_79 : decode b_K_registrationFor 79 = .ok (.iinc 3 1, 3) := by decide +kernel
theorem d_K_registrationFor_82 : decode b_K_registrationFor 82 = .ok (.goto (-78), 3) := by decide +kernel
theorem d_K_registrationFor_85 : decode b_K_registrationFor 85 = .ok (.aload_n 2, 1) := by decide +kernel
theorem d_K_registrationFor_86 : decode b_K_registrationFor 86 = .ok (.areturn, 1) := by decide +kernel
theorem d_K_registrationWithActive_0 : decode b_K_registrationWithActive 0 = .ok (.iconst 0, 1) := by decide +kernel
theorem d_K_registrationWithActive_1 : decode b_K_registrationWithActive 1 = .ok (.istore_n 2, 1) := by decide +kernel
theorem d_K_registrationWithActive_2 : decode b_K_registrationWithActive 2 = .ok (.iload_n 2, 1) := by decide +kernel
theorem d_K_registrationWithActive_3 : decode b_K_registrationWithActive 3 = .ok (.aload_n 0, 1) := by decide +kernel
theorem d_K_registrationWithActive_4 : decode b_K_registrationWithActive 4 = .ok (.getfield 38, 3) := by decide +kernel
theorem d_K_registrationWithActive_7 : decode b_K_registrationWithActive 7 = .ok (.if_icmp .ge 33, 3) := by decide +kernel
theorem d_K_registrationWithActive_10 : decode b_K_registrationWithActive 10 = .ok (.aload_n 1, 1) := by decide +kernel
theorem d_K_registrationWithActive_11 : decode b_K_registrationWithActive 11 = .ok (.ifnull 23, 3) := by decide +kernel
theorem d_K_registrationWithActive_14 : decode b_K_registrationWithActive 14 = .ok (.aload_n 0, 1) := by decide +kernel
theorem d_K_registrationWithActive_15 : decode b_K_registrationWithActive 15 = .ok (.getfield 34, 3) := by decide +kernel
theorem d_K_registrationWithActive_18 : decode b_K_registrationWithActive 18 = .ok (.iload_n 2, 1) := by decide +kernel
theorem d_K_registrationWithActive_19 : decode b_K_registrationWithActive 19 = .ok (.aaload, 1) := by decide +kernel
theorem d_K_registrationWithActive_20 : decode b_K_registrationWithActive 20 = .ok (.getfield 169, 3) := by decide +kernel
theorem d_K_registrationWithActive_23 : decode b_K_registrationWithActive 23 = .ok (.aload_n 1, 1) := by decide +kernel
theorem d_K_registrationWithActive_24 : decode b_K_registrationWithActive 24 = .ok (.if_acmp .ne 10, 3) := by decide +kernel
theorem d_K_registrationWithActive_27 : decode b_K_registrationWithActive 27 = .ok (.aload_n 0, 1) := by decide +kernel
theorem d_K_registrationWithActive_28 : decode b_K_registrationWithActive 28 = .ok (.getfield 34, 3) := by decide +kernel
theorem d_K_registrationWithActive_31 : decode b_K_registrationWithActive 31 = .ok (.iload_n 2, 1) := by decide +kernel
theorem d_K_registrationWithActive_32 : decode b_K_registrationWithActive 32 = .ok (.aaload, 1) := by decide +kernel
theorem d_K_registrationWithActive_33 : decode b_K_registrationWithActive 33 = .ok (.areturn, 1) := by decide +kernel
theorem d_K_registrationWithActive_34 : decode b_K_registrationWithActive 34 = .ok (.iinc 2 1, 3) := by decide +kernel
theorem d_K_registrationWithActive_37 : decode b_K_registrationWithActive 37 = .ok (.goto (-35), 3) := by decide +kernel
theorem d_K_registrationWithActive_40 : decode b_K_registrationWithActive 40 = .ok (.aconst_null, 1) := by decide +kernel
theorem d_K_registrationWithActive_41 : decode b_K_registrationWithActive 41 = .ok (.areturn, 1) := by decide +kernel
theorem d_K_addRegistration_0 : decode b_K_addRegistration 0 = .ok (.new 32, 3) := by decide +kernel
theorem d_K_addRegistration_3 : decode b_K_addRegistration 3 = .ok (.dup, 1) := by decide +kernel
theorem d_K_addRegistration_4 : decode b_K_addRegistration 4 = .ok (.iload_n 1, 1) := by decide +kernel
theorem d_K_addRegistration_5 : decode b_K_addRegistration 5 = .ok (.invokespecial 357, 3) := by decide +kernel
theorem d_K_addRegistration_8 : decode b_K_addRegistration 8 = .ok (.astore_n 2, 1) := by decide +kernel
theorem d_K_addRegistration_9 : decode b_K_addRegistration 9 = .ok (.aload_n 0, 1) := by decide +kernel
theorem d_K_addRegistration_10 : decode b_K_addRegistration 10 = .ok (.getfield 34, 3) := by decide +kernel
theorem d_K_addRegistration_13 : decode b_K_addRegistration 13 = .ok (.aload_n 0, 1) := by decide +kernel
theorem d_K_addRegistration_14 : decode b_K_addRegistration 14 = .ok (.getfield 38, 3) := by decide +kernel
theorem d_K_addRegistration_17 : decode b_K_addRegistration 17 = .ok (.aload_n 2, 1) := by decide +kernel
theorem d_K_addRegistration_18 : decode b_K_addRegistration 18 = .ok (.aastore, 1) := by decide +kernel
theorem d_K_addRegistration_19 : decode b_K_addRegistration 19 = .ok (.aload_n 0, 1) := by decide +kernel
theorem d_K_addRegistration_20 : decode b_K_addRegistration 20 = .ok (.dup, 1) := by decide +kernel
theorem d_K_addRegistration_21 : decode b_K_addRegistration 21 = .ok (.getfield 38, 3) := by decide +kernel
theorem d_K_addRegistration_24 : decode b_K_addRegistration 24 = .ok (.iconst 1, 1) := by decide +kernel
theorem d_K_addRegistration_25 : decode b_K_addRegistration 25 = .ok (.iadd, 1) := by decide +kernel
theorem d_K_addRegistration_26 : decode b_K_addRegistration 26 = .ok (.putfield 38, 3) := by decide +kernel
theorem d_K_addRegistration_29 : decode b_K_addRegistration 29 = .ok (.aload_n 2, 1) := by decide +kernel
theorem d_K_addRegistration_30 : decode b_K_addRegistration 30 = .ok (.areturn, 1) := by decide +kernel
theorem d_K_removeRegistration_0 : decode b_K_removeRegistration 0 = .ok (.iconst 0, 1) := by decide +kernel
theorem d_K_removeRegistration_1 : decode b_K_removeRegistration 1 = .ok (.istore_n 2, 1) := by decide +kernel
theorem d_K_removeRegistration_2 : decode b_K_removeRegistration 2 = .ok (.iconst 0, 1) := by decide +kernel
theorem d_K_removeRegistration_3 : decode b_K_removeRegistration 3 = .ok (.istore_n 3, 1) := by decide +kernel
theorem d_K_removeRegistration_4 : decode b_K_removeRegistration 4 = .ok (.iload_n 3, 1) := by decide +kernel
theorem d_K_removeRegistration_5 : decode b_K_removeRegistration 5 = .ok (.aload_n 0, 1) := by decide +kernel
theorem d_K_removeRegistration_6 : decode b_K_removeRegistration 6 = .ok (.getfield 38, 3) := by decide +kernel
theorem d_K_removeRegistration_9 : decode b_K_removeRegistration 9 = .ok (.if_icmp .ge 34, 3) := by decide +kernel
theorem d_K_removeRegistration_12 : decode b_K_removeRegistration 12 = .ok (.aload_n 0, 1) := by decide +kernel
theorem d_K_removeRegistration_13 : decode b_K_removeRegistration 13 = .ok (.getfield 34, 3) := by decide +kernel
theorem d_K_removeRegistration_16 : decode b_K_removeRegistration 16 = .ok (.iload_n 3, 1) := by decide +kernel
theorem d_K_removeRegistration_17 : decode b_K_removeRegistration 17 = .ok (.aaload, 1) := by decide +kernel
theorem d_K_removeRegistration_18 : decode b_K_removeRegistration 18 = .ok (.aload_n 1, 1) := by decide +kernel
theorem d_K_removeRegistration_19 : decode b_K_removeRegistration 19 = .ok (.if_acmp .eq 18, 3) := by decide +kernel
theorem d_K_removeRegistration_22 : decode b_K_removeRegistration 22 = .ok (.aload_n 0, 1) := by decide +kernel
theorem d_K_removeRegistration_23 : decode b_K_removeRegistration 23 = .ok (.getfield 34, 3) := by decide +kernel
theorem d_K_removeRegistration_26 : decode b_K_removeRegistration 26 = .ok (.iload_n 2, 1) := by decide +kernel
theorem d_K_removeRegistration_27 : decode b_K_removeRegistration 27 = .ok (.aload_n 0, 1) := by decide +kernel
theorem d_K_removeRegistration_28 : decode b_K_removeRegistration 28 = .ok (.getfield 34, 3) := by decide +kernel
theorem d_K_removeRegistration_31 : decode b_K_removeRegistration 31 = .ok (.iload_n 3, 1) := by decide +kernel
theorem d_K_removeRegistration_32 : decode b_K_removeRegistration 32 = .ok (.aaload, 1) := by decide +kernel
theorem d_K_removeRegistration_33 : decode b_K_removeRegistration 33 = .ok (.aastore, 1) := by decide +kernel
theorem d_K_removeRegistration_34 : decode b_K_removeRegistration 34 = .ok (.iinc 2 1, 3) := by decide +kernel
theorem d_K_removeRegistration_37 : decode b_K_removeRegistration 37 = .ok (.iinc 3 1, 3) := by decide +kernel
theorem d_K_removeRegistration_40 : decode b_K_removeRegistration 40 = .ok (.goto (-36), 3) := by decide +kernel
theorem d_K_removeRegistration_43 : decode b_K_removeRegistration 43 = .ok (.aload_n 0, 1) := by decide +kernel
theorem d_K_removeRegistration_44 : decode b_K_removeRegistration 44 = .ok (.iload_n 2, 1) := by decide +kernel
theorem d_K_removeRegistration_45 : decode b_K_removeRegistration 45 = .ok (.putfield 38, 3) := by decide +kernel
theorem d_K_removeRegistration_48 : decode b_K_removeRegistration 48 = .ok (.return_, 1) := by decide +kernel
