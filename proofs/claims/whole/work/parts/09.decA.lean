theorem d_Ca_init_0 : decode b_Ca_init 0 = .ok (.aload_n 0, 1) := by decide +kernel
theorem d_Ca_init_1 : decode b_Ca_init 1 = .ok (.invokespecial 3, 3) := by decide +kernel
theorem d_Ca_init_4 : decode b_Ca_init 4 = .ok (.aload_n 0, 1) := by decide +kernel
theorem d_Ca_init_5 : decode b_Ca_init 5 = .ok (.iconst 4, 1) := by decide +kernel
theorem d_Ca_init_6 : decode b_Ca_init 6 = .ok (.newarray .int, 2) := by decide +kernel
theorem d_Ca_init_8 : decode b_Ca_init 8 = .ok (.putfield 9, 3) := by decide +kernel
theorem d_Ca_init_11 : decode b_Ca_init 11 = .ok (.aload_n 0, 1) := by decide +kernel
theorem d_Ca_init_12 : decode b_Ca_init 12 = .ok (.iconst 4, 1) := by decide +kernel
theorem d_Ca_init_13 : decode b_Ca_init 13 = .ok (.newarray .int, 2) := by decide +kernel
theorem d_Ca_init_15 : decode b_Ca_init 15 = .ok (.putfield 15, 3) := by decide +kernel
theorem d_Ca_init_18 : decode b_Ca_init 18 = .ok (.aload_n 0, 1) := by decide +kernel
theorem d_Ca_init_19 : decode b_Ca_init 19 = .ok (.iconst 0, 1) := by decide +kernel
theorem d_Ca_init_20 : decode b_Ca_init 20 = .ok (.putfield 18, 3) := by decide +kernel
theorem d_Ca_init_23 : decode b_Ca_init 23 = .ok (.return_, 1) := by decide +kernel
theorem d_Ca_placeOf_0 : decode b_Ca_placeOf 0 = .ok (.iconst 0, 1) := by decide +kernel
theorem d_Ca_placeOf_1 : decode b_Ca_placeOf 1 = .ok (.istore_n 2, 1) := by decide +kernel
theorem d_Ca_placeOf_2 : decode b_Ca_placeOf 2 = .ok (.iload_n 2, 1) := by decide +kernel
theorem d_Ca_placeOf_3 : decode b_Ca_placeOf 3 = .ok (.aload_n 0, 1) := by decide +kernel
theorem d_Ca_placeOf_4 : decode b_Ca_placeOf 4 = .ok (.getfield 18, 3) := by decide +kernel
theorem d_Ca_placeOf_7 : decode b_Ca_placeOf 7 = .ok (.if_icmp .ge 19, 3) := by decide +kernel
theorem d_Ca_placeOf_10 : decode b_Ca_placeOf 10 = .ok (.aload_n 0, 1) := by decide +kernel
theorem d_Ca_placeOf_11 : decode b_Ca_placeOf 11 = .ok (.getfield 9, 3) := by decide +kernel
theorem d_Ca_placeOf_14 : decode b_Ca_placeOf 14 = .ok (.iload_n 2, 1) := by decide +kernel
theorem d_Ca_placeOf_15 : decode b_Ca_placeOf 15 = .ok (.iaload, 1) := by decide +kernel
theorem d_Ca_placeOf_16 : decode b_Ca_placeOf 16 = .ok (.iload_n 1, 1) := by decide +kernel
theorem d_Ca_placeOf_17 : decode b_Ca_placeOf 17 = .ok (.if_icmp .eq 9, 3) := by decide +kernel
theorem d_Ca_placeOf_20 : decode b_Ca_placeOf 20 = .ok (.iinc 2 1, 3) := by decide +kernel
theorem d_Ca_placeOf_23 : decode b_Ca_placeOf 23 = .ok (.goto (-21), 3) := by decide +kernel
theorem d_Ca_placeOf_26 : decode b_Ca_placeOf 26 = .ok (.iload_n 2, 1) := by decide +kernel
theorem d_Ca_placeOf_27 : decode b_Ca_placeOf 27 = .ok (.ireturn, 1) := by decide +kernel
theorem d_Ca_has_0 : decode b_Ca_has 0 = .ok (.aload_n 0, 1) := by decide +kernel
theorem d_Ca_has_1 : decode b_Ca_has 1 = .ok (.iload_n 1, 1) := by decide +kernel
theorem d_Ca_has_2 : decode b_Ca_has 2 = .ok (.invokevirtual 22, 3) := by decide +kernel
theorem d_Ca_has_5 : decode b_Ca_has 5 = .ok (.aload_n 0, 1) := by decide +kernel
theorem d_Ca_has_6 : decode b_Ca_has 6 = .ok (.getfield 18, 3) := by decide +kernel
theorem d_Ca_has_9 : decode b_Ca_has 9 = .ok (.if_icmp .ge 7, 3) := by decide +kernel
theorem d_Ca_has_12 : decode b_Ca_has 12 = .ok (.iconst 1, 1) := by decide +kernel
theorem d_Ca_has_13 : decode b_Ca_has 13 = .ok (.goto 4, 3) := by decide +kernel
theorem d_Ca_has_16 : decode b_Ca_has 16 = .ok (.iconst 0, 1) := by decide +kernel
theorem d_Ca_has_17 : decode b_Ca_has 17 = .ok (.ireturn, 1) := by decide +kernel
theorem d_Ca_valueOf_0 : decode b_Ca_valueOf 0 = .ok (.aload_n 0, 1) := by decide +kernel
theorem d_Ca_valueOf_1 : decode b_Ca_valueOf 1 = .ok (.aload_n 0, 1) := by decide +kernel
theorem d_Ca_valueOf_2 : decode b_Ca_valueOf 2 = .ok (.iload_n 1, 1) := by decide +kernel
theorem d_Ca_valueOf_3 : decode b_Ca_valueOf 3 = .ok (.invokevirtual 22, 3) := by decide +kernel
theorem d_Ca_valueOf_6 : decode b_Ca_valueOf 6 = .ok (.invokevirtual 26, 3) := by decide +kernel
theorem d_Ca_valueOf_9 : decode b_Ca_valueOf 9 = .ok (.ireturn, 1) := by decide +kernel
theorem d_Ca_pathAt_0 : decode b_Ca_pathAt 0 = .ok (.iload_n 1, 1) := by decide +kernel
theorem d_Ca_pathAt_1 : decode b_Ca_pathAt 1 = .ok (.ifCond .lt 20, 3) := by decide +kernel
theorem d_Ca_pathAt_4 : decode b_Ca_pathAt 4 = .ok (.iload_n 1, 1) := by decide +kernel
theorem d_Ca_pathAt_5 : decode b_Ca_pathAt 5 = .ok (.aload_n 0, 1) := by decide +kernel
theorem d_Ca_pathAt_6 : decode b_Ca_pathAt 6 = .ok (.getfield 18, 3) := by decide +kernel
theorem d_Ca_pathAt_9 : decode b_Ca_pathAt 9 = .ok (.if_icmp .ge 12, 3) := by decide +kernel
theorem d_Ca_pathAt_12 : decode b_Ca_pathAt 12 = .ok (.aload_n 0, 1) := by decide +kernel
theorem d_Ca_pathAt_13 : decode b_Ca_pathAt 13 = .ok (.getfield 9, 3) := by decide +kernel
theorem d_Ca_pathAt_16 : decode b_Ca_pathAt 16 = .ok (.iload_n 1, 1) := by decide +kernel
theorem d_Ca_pathAt_17 : decode b_Ca_pathAt 17 = .ok (.iaload, 1) := by decide +kernel
theorem d_Ca_pathAt_18 : decode b_Ca_pathAt 18 = .ok (.goto 4, 3) := by decide +kernel
theorem d_Ca_pathAt_21 : decode b_Ca_pathAt 21 = .ok (.iconst 0, 1) := by decide +kernel
theorem d_Ca_pathAt_22 : decode b_Ca_pathAt 22 = .ok (.ireturn, 1) := by decide +kernel
theorem d_Ca_valueAt_0 : decode b_Ca_valueAt 0 = .ok (.iload_n 1, 1) := by decide +kernel
theorem d_Ca_valueAt_1 : decode b_Ca_valueAt 1 = .ok (.ifCond .lt 20, 3) := by decide +kernel
theorem d_Ca_valueAt_4 : decode b_Ca_valueAt 4 = .ok (.iload_n 1, 1) := by decide +kernel
theorem d_Ca_valueAt_5 : decode b_Ca_valueAt 5 = .ok (.aload_n 0, 1) := by decide +kernel
theorem d_Ca_valueAt_6 : decode b_Ca_valueAt 6 = .ok (.getfield 18, 3) := by decide +kernel
theorem d_Ca_valueAt_9 : decode b_Ca_valueAt 9 = .ok (.if_icmp .ge 12, 3) := by decide +kernel
theorem d_Ca_valueAt_12 : decode b_Ca_valueAt 12 = .ok (.aload_n 0, 1) := by decide +kernel
theorem d_Ca_valueAt_13 : decode b_Ca_valueAt 13 = .ok (.getfield 15, 3) := by decide +kernel
theorem d_Ca_valueAt_16 : decode b_Ca_valueAt 16 = .ok (.iload_n 1, 1) := by decide +kernel
theorem d_Ca_valueAt_17 : decode b_Ca_valueAt 17 = .ok (.iaload, 1) := by decide +kernel
theorem d_Ca_valueAt_18 : decode b_Ca_valueAt 18 = .ok (.goto 4, 3) := by decide +kernel
theorem d_Ca_valueAt_21 : decode b_Ca_valueAt 21 = .ok (.iconst 0, 1) := by decide +kernel
theorem d_Ca_valueAt_22 : decode b_Ca_valueAt 22 = .ok (.ireturn, 1) := by decide +kernel
theorem d_Ca_keep_0 : decode b_Ca_keep 0 = .ok (.aload_n 0, 1) := by decide +kernel
theorem d_Ca_keep_1 : decode b_Ca_keep 1 = .ok (.iload_n 1, 1) := by decide +kernel
theorem d_Ca_keep_2 : decode b_Ca_keep 2 = .ok (.invokevirtual 29, 3) := by decide +kernel
theorem d_Ca_keep_5 : decode b_Ca_keep 5 = .ok (.ifCond .eq 15, 3) := by decide +kernel
theorem d_Ca_keep_8 : decode b_Ca_keep 8 = .ok (.aload_n 0, 1) := by decide +kernel
theorem d_Ca_keep_9 : decode b_Ca_keep 9 = .ok (.aload_n 0, 1) := by decide +kernel
theorem d_Ca_keep_10 : decode b_Ca_keep 10 = .ok (.iload_n 1, 1) := by decide +kernel
theorem d_Ca_keep_11 : decode b_Ca_keep 11 = .ok (.invokevirtual 22, 3) := by decide +kernel
theorem d_Ca_keep_14 : decode b_Ca_keep 14 = .ok (.invokevirtual 33, 3) := by decide +kernel
theorem d_Ca_keep_17 : decode b_Ca_keep 17 = .ok (.goto 16, 3) := by decide +kernel
theorem d_Ca_keep_20 : decode b_Ca_keep 20 = .ok (.aload_n 0, 1) := by decide +kernel
theorem d_Ca_keep_21 : decode b_Ca_keep 21 = .ok (.getfield 18, 3) := by decide +kernel
theorem d_Ca_keep_24 : decode b_Ca_keep 24 = .ok (.iconst 4, 1) := by decide +kernel
theorem d_Ca_keep_25 : decode b_Ca_keep 25 = .ok (.if_icmp .lt 8, 3) := by decide +kernel
theorem d_Ca_keep_28 : decode b_Ca_keep 28 = .ok (.aload_n 0, 1) := by decide +kernel
theorem d_Ca_keep_29 : decode b_Ca_keep 29 = .ok (.iconst 0, 1) := by decide +kernel
theorem d_Ca_keep_30 : decode b_Ca_keep 30 = .ok (.invokevirtual 33, 3) := by decide +kernel
theorem d_Ca_keep_33 : decode b_Ca_keep 33 = .ok (.aload_n 0, 1) := by decide +kernel
theorem d_Ca_keep_34 : decode b_Ca_keep 34 = .ok (.getfield 9, 3) := by decide +kernel
theorem d_Ca_keep_37 : decode b_Ca_keep 37 = .ok (.aload_n 0, 1) := by decide +kernel
theorem d_Ca_keep_38 : decode b_Ca_keep 38 = .ok (.getfield 18, 3) := by decide +kernel
theorem d_Ca_keep_41 : decode b_Ca_keep 41 = .ok (.iload_n 1, 1) := by decide +kernel
theorem d_Ca_keep_42 : decode b_Ca_keep 42 = .ok (.iastore, 1) := by decide +kernel
theorem d_Ca_keep_43 : decode b_Ca_keep 43 = .ok (.aload_n 0, 1) := by decide +kernel
theorem d_Ca_keep_44 : decode b_Ca_keep 44 = .ok (.getfield 15, 3) := by decide +kernel
theorem d_Ca_keep_47 : decode b_Ca_keep 47 = .ok (.aload_n 0, 1) := by decide +kernel
theorem d_Ca_keep_48 : decode b_Ca_keep 48 = .ok (.getfield 18, 3) := by decide +kernel
theorem d_Ca_keep_51 : decode b_Ca_keep 51 = .ok (.iload_n 2, 1) := by decide +kernel
theorem d_Ca_keep_52 : decode b_Ca_keep 52 = .ok (.iastore, 1) := by decide +kernel
theorem d_Ca_keep_53 : decode b_Ca_keep 53 = .ok (.aload_n 0, 1) := by decide +kernel
theorem d_Ca_keep_54 : decode b_Ca_keep 54 = .ok (.dup, 1) := by decide +kernel
theorem d_Ca_keep_55 : decode b_Ca_keep 55 = .ok (.getfield 18, 3) := by decide +kernel
theorem d_Ca_keep_58 : decode b_Ca_keep 58 = .ok (.iconst 1, 1) := by decide +kernel
theorem d_Ca_keep_59 : decode b_Ca_keep 59 = .ok (.iadd, 1) := by decide +kernel
theorem d_Ca_keep_60 : decode b_Ca_keep 60 = .ok (.putfield 18, 3) := by decide +kernel
theorem d_Ca_keep_63 : decode b_Ca_keep 63 = .ok (.return_, 1) := by decide +kernel
theorem d_Ca_drop_0 : decode b_Ca_drop 0 = .ok (.iload_n 1, 1) := by decide +kernel
theorem d_Ca_drop_1 : decode b_Ca_drop 1 = .ok (.istore_n 2, 1) := by decide +kernel
theorem d_Ca_drop_2 : decode b_Ca_drop 2 = .ok (.iload_n 2, 1) := by decide +kernel
theorem d_Ca_drop_3 : decode b_Ca_drop 3 = .ok (.iconst 1, 1) := by decide +kernel
theorem d_Ca_drop_4 : decode b_Ca_drop 4 = .ok (.iadd, 1) := by decide +kernel
theorem d_Ca_drop_5 : decode b_Ca_drop 5 = .ok (.aload_n 0, 1) := by decide +kernel
theorem d_Ca_drop_6 : decode b_Ca_drop 6 = .ok (.getfield 18, 3) := by decide +kernel
theorem d_Ca_drop_9 : decode b_Ca_drop 9 = .ok (.if_icmp .ge 37, 3) := by decide +kernel
theorem d_Ca_drop_12 : decode b_Ca_drop 12 = .ok (.aload_n 0, 1) := by decide +kernel
theorem d_Ca_drop_13 : decode b_Ca_drop 13 = .ok (.getfield 9, 3) := by decide +kernel
theorem d_Ca_drop_16 : decode b_Ca_drop 16 = .ok (.iload_n 2, 1) := by decide +kernel
theorem d_Ca_drop_17 : decode b_Ca_drop 17 = .ok (.aload_n 0, 1) := by decide +kernel
theorem d_Ca_drop_18 : decode b_Ca_drop 18 = .ok (.getfield 9, 3) := by decide +kernel
theorem d_Ca_drop_21 : decode b_Ca_drop 21 = .ok (.iload_n 2, 1) := by decide +kernel
theorem d_Ca_drop_22 : decode b_Ca_drop 22 = .ok (.iconst 1, 1) := by decide +kernel
theorem d_Ca_drop_23 : decode b_Ca_drop 23 = .ok (.iadd, 1) := by decide +kernel
theorem d_Ca_drop_24 : decode b_Ca_drop 24 = .ok (.iaload, 1) := by decide +kernel
theorem d_Ca_drop_25 : decode b_Ca_drop 25 = .ok (.iastore, 1) := by decide +kernel
theorem d_Ca_drop_26 : decode b_Ca_drop 26 = .ok (.aload_n 0, 1) := by decide +kernel
theorem d_Ca_drop_27 : decode b_Ca_drop 27 = .ok (.getfield 15, 3) := by decide +kernel
theorem d_Ca_drop_30 : decode b_Ca_drop 30 = .ok (.iload_n 2, 1) := by decide +kernel
theorem d_Ca_drop_31 : decode b_Ca_drop 31 = .ok (.aload_n 0, 1) := by decide +kernel
theorem d_Ca_drop_32 : decode b_Ca_drop 32 = .ok (.getfield 15, 3) := by decide +kernel
theorem d_Ca_drop_35 : decode b_Ca_drop 35 = .ok (.iload_n 2, 1) := by decide +kernel
theorem d_Ca_drop_36 : decode b_Ca_drop 36 = .ok (.iconst 1, 1) := by decide +kernel
theorem d_Ca_drop_37 : decode b_Ca_drop 37 = .ok (.iadd, 1) := by decide +kernel
theorem d_Ca_drop_38 : decode b_Ca_drop 38 = .ok (.iaload, 1) := by decide +kernel
theorem d_Ca_drop_39 : decode b_Ca_drop 39 = .ok (.iastore, 1) := by decide +kernel
theorem d_Ca_drop_40 : decode b_Ca_drop 40 = .ok (.iinc 2 1, 3) := by decide +kernel
theorem d_Ca_drop_43 : decode b_Ca_drop 43 = .ok (.goto (-41), 3) := by decide +kernel
theorem d_Ca_drop_46 : decode b_Ca_drop 46 = .ok (.aload_n 0, 1) := by decide +kernel
theorem d_Ca_drop_47 : decode b_Ca_drop 47 = .ok (.dup, 1) := by decide +kernel
theorem d_Ca_drop_48 : decode b_Ca_drop 48 = .ok (.getfield 18, 3) := by decide +kernel
theorem d_Ca_drop_51 : decode b_Ca_drop 51 = .ok (.iconst 1, 1) := by decide +kernel
theorem d_Ca_drop_52 : decode b_Ca_drop 52 = .ok (.isub, 1) := by decide +kernel
theorem d_Ca_drop_53 : decode b_Ca_drop 53 = .ok (.putfield 18, 3) := by decide +kernel
theorem d_Ca_drop_56 : decode b_Ca_drop 56 = .ok (.return_, 1) := by decide +kernel
theorem d_Cl_init_0 : decode b_Cl_init 0 = .ok (.aload_n 0, 1) := by decide +kernel
theorem d_Cl_init_1 : decode b_Cl_init 1 = .ok (.invokespecial 1, 3) := by decide +kernel
theorem d_Cl_init_4 : decode b_Cl_init 4 = .ok (.aload_n 0, 1) := by decide +kernel
theorem d_Cl_init_5 : decode b_Cl_init 5 = .ok (.iconst 0, 1) := by decide +kernel
theorem d_Cl_init_6 : decode b_Cl_init 6 = .ok (.putfield 7, 3) := by decide +kernel
theorem d_Cl_init_9 : decode b_Cl_init 9 = .ok (.aload_n 0, 1) := by decide +kernel
theorem d_Cl_init_10 : decode b_Cl_init 10 = .ok (.iconst 0, 1) := by decide +kernel
theorem d_Cl_init_11 : decode b_Cl_init 11 = .ok (.putfield 13, 3) := by decide +kernel
theorem d_Cl_init_14 : decode b_Cl_init 14 = .ok (.aload_n 0, 1) := by decide +kernel
theorem d_Cl_init_15 : decode b_Cl_init 15 = .ok (.aconst_null, 1) := by decide +kernel
theorem d_Cl_init_16 : decode b_Cl_init 16 = .ok (.putfield 17, 3) := by decide +kernel
theorem d_Cl_init_19 : decode b_Cl_init 19 = .ok (.return_, 1) := by decide +kernel
theorem d_Jb_init_0 : decode b_Jb_init 0 = .ok (.aload_n 0, 1) := by decide +kernel
theorem d_Jb_init_1 : decode b_Jb_init 1 = .ok (.invokespecial 3, 3) := by decide +kernel
theorem d_Jb_init_4 : decode b_Jb_init 4 = .ok (.aload_n 0, 1) := by decide +kernel
theorem d_Jb_init_5 : decode b_Jb_init 5 = .ok (.iconst 0, 1) := by decide +kernel
theorem d_Jb_init_6 : decode b_Jb_init 6 = .ok (.putfield 9, 3) := by decide +kernel
theorem d_Jb_init_9 : decode b_Jb_init 9 = .ok (.aload_n 0, 1) := by decide +kernel
theorem d_Jb_init_10 : decode b_Jb_init 10 = .ok (.iconst 0, 1) := by decide +kernel
theorem d_Jb_init_11 : decode b_Jb_init 11 = .ok (.putfield 15, 3) := by decide +kernel
theorem d_Jb_init_14 : decode b_Jb_init 14 = .ok (.aload_n 0, 1) := by decide +kernel
theorem d_Jb_init_15 : decode b_Jb_init 15 = .ok (.iload_n 1, 1) := by decide +kernel
theorem d_Jb_init_16 : decode b_Jb_init 16 = .ok (.putfield 19, 3) := by decide +kernel
theorem d_Jb_init_19 : decode b_Jb_init 19 = .ok (.aload_n 0, 1) := by decide +kernel
theorem d_Jb_init_20 : decode b_Jb_init 20 = .ok (.iload_n 2, 1) := by decide +kernel
theorem d_Jb_init_21 : decode b_Jb_init 21 = .ok (.putfield 22, 3) := by decide +kernel
theorem d_Jb_init_24 : decode b_Jb_init 24 = .ok (.aload_n 0, 1) := by decide +kernel
theorem d_Jb_init_25 : decode b_Jb_init 25 = .ok (.iload_n 3, 1) := by decide +kernel
theorem d_Jb_init_26 : decode b_Jb_init 26 = .ok (.putfield 25, 3) := by decide +kernel
theorem d_Jb_init_29 : decode b_Jb_init 29 = .ok (.aload_n 0, 1) := by decide +kernel
theorem d_Jb_init_30 : decode b_Jb_init 30 = .ok (.iload 4, 2) := by decide +kernel
theorem d_Jb_init_32 : decode b_Jb_init 32 = .ok (.putfield 28, 3) := by decide +kernel
theorem d_Jb_init_35 : decode b_Jb_init 35 = .ok (.return_, 1) := by decide +kernel
theorem d_Rg_init_0 : decode b_Rg_init 0 = .ok (.aload_n 0, 1) := by decide +kernel
theorem d_Rg_init_1 : decode b_Rg_init 1 = .ok (.invokespecial 1, 3) := by decide +kernel
theorem d_Rg_init_4 : decode b_Rg_init 4 = .ok (.aload_n 0, 1) := by decide +kernel
theorem d_Rg_init_5 : decode b_Rg_init 5 = .ok (.iconst 0, 1) := by decide +kernel
theorem d_Rg_init_6 : decode b_Rg_init 6 = .ok (.putfield 7, 3) := by decide +kernel
theorem d_Rg_init_9 : decode b_Rg_init 9 = .ok (.aload_n 0, 1) := by decide +kernel
theorem d_Rg_init_10 : decode b_Rg_init 10 = .ok (.aconst_null, 1) := by decide +kernel
theorem d_Rg_init_11 : decode b_Rg_init 11 = .ok (.putfield 13, 3) := by decide +kernel
theorem d_Rg_init_14 : decode b_Rg_init 14 = .ok (.aload_n 0, 1) := by decide +kernel
theorem d_Rg_init_15 : decode b_Rg_init 15 = .ok (.aconst_null, 1) := by decide +kernel
theorem d_Rg_init_16 : decode b_Rg_init 16 = .ok (.putfield 17, 3) := by decide +kernel
theorem d_Rg_init_19 : decode b_Rg_init 19 = .ok (.aload_n 0, 1) := by decide +kernel
theorem d_Rg_init_20 : decode b_Rg_init 20 = .ok (.aconst_null, 1) := by decide +kernel
theorem d_Rg_init_21 : decode b_Rg_init 21 = .ok (.putfield 20, 3) := by decide +kernel
theorem d_Rg_init_24 : decode b_Rg_init 24 = .ok (.aload_n 0, 1) := by decide +kernel
theorem d_Rg_init_25 : decode b_Rg_init 25 = .ok (.iconst 0, 1) := by decide +kernel
theorem d_Rg_init_26 : decode b_Rg_init 26 = .ok (.putfield 23, 3) := by decide +kernel
theorem d_Rg_init_29 : decode b_Rg_init 29 = .ok (.aload_n 0, 1) := by decide +kernel
theorem d_Rg_init_30 : decode b_Rg_init 30 = .ok (.iload_n 1, 1) := by decide +kernel
theorem d_Rg_init_31 : decode b_Rg_init 31 = .ok (.putfield 27, 3) := by decide +kernel
theorem d_Rg_init_34 : decode b_Rg_init 34 = .ok (.return_, 1) := by decide +kernel
theorem d_Rg_newest_0 : decode b_Rg_newest 0 = .ok (.aload_n 0, 1) := by decide +kernel
theorem d_Rg_newest_1 : decode b_Rg_newest 1 = .ok (.getfield 13, 3) := by decide +kernel
theorem d_Rg_newest_4 : decode b_Rg_newest 4 = .ok (.ifnull 8, 3) := by decide +kernel
theorem d_Rg_newest_7 : decode b_Rg_newest 7 = .ok (.aload_n 0, 1) := by decide +kernel
theorem d_Rg_newest_8 : decode b_Rg_newest 8 = .ok (.getfield 13, 3) := by decide +kernel
theorem d_Rg_newest_11 : decode b_Rg_newest 11 = .ok (.areturn, 1) := by decide +kernel
theorem d_Rg_newest_12 : decode b_Rg_newest 12 = .ok (.aload_n 0, 1) := by decide +kernel
theorem d_Rg_newest_13 : decode b_Rg_newest 13 = .ok (.getfield 17, 3) := by decide +kernel
theorem d_Rg_newest_16 : decode b_Rg_newest 16 = .ok (.ifnull 10, 3) := by decide +kernel
theorem d_Rg_newest_19 : decode b_Rg_newest 19 = .ok (.aload_n 0, 1) := by decide +kernel
theorem d_Rg_newest_20 : decode b_Rg_newest 20 = .ok (.getfield 17, 3) := by decide +kernel
theorem d_Rg_newest_23 : decode b_Rg_newest 23 = .ok (.goto 7, 3) := by decide +kernel
theorem d_Rg_newest_26 : decode b_Rg_newest 26 = .ok (.aload_n 0, 1) := by decide +kernel
theorem d_Rg_newest_27 : decode b_Rg_newest 27 = .ok (.getfield 20, 3) := by decide +kernel
theorem d_Rg_newest_30 : decode b_Rg_newest 30 = .ok (.areturn, 1) := by decide +kernel
theorem d_Sc_init_0 : decode b_Sc_init 0 = .ok (.aload_n 0, 1) := by decide +kernel
theorem d_Sc_init_1 : decode b_Sc_init 1 = .ok (.invokespecial 3, 3) := by decide +kernel
theorem d_Sc_init_4 : decode b_Sc_init 4 = .ok (.aload_n 0, 1) := by decide +kernel
theorem d_Sc_init_5 : decode b_Sc_init 5 = .ok (.iconst 0, 1) := by decide +kernel
theorem d_Sc_init_6 : decode b_Sc_init 6 = .ok (.putfield 9, 3) := by decide +kernel
theorem d_Sc_init_9 : decode b_Sc_init 9 = .ok (.aload_n 0, 1) := by decide +kernel
theorem d_Sc_init_10 : decode b_Sc_init 10 = .ok (.iconst 0, 1) := by decide +kernel
theorem d_Sc_init_11 : decode b_Sc_init 11 = .ok (.putfield 15, 3) := by decide +kernel
theorem d_Sc_init_14 : decode b_Sc_init 14 = .ok (.aload_n 0, 1) := by decide +kernel
theorem d_Sc_init_15 : decode b_Sc_init 15 = .ok (.iconst 0, 1) := by decide +kernel
theorem d_Sc_init_16 : decode b_Sc_init 16 = .ok (.putfield 18, 3) := by decide +kernel
theorem d_Sc_init_19 : decode b_Sc_init 19 = .ok (.aload_n 0, 1) := by decide +kernel
theorem d_Sc_init_20 : decode b_Sc_init 20 = .ok (.iconst 0, 1) := by decide +kernel
theorem d_Sc_init_21 : decode b_Sc_init 21 = .ok (.putfield 21, 3) := by decide +kernel
theorem d_Sc_init_24 : decode b_Sc_init 24 = .ok (.return_, 1) := by decide +kernel
theorem d_Tr_init_0 : decode b_Tr_init 0 = .ok (.aload_n 0, 1) := by decide +kernel
theorem d_Tr_init_1 : decode b_Tr_init 1 = .ok (.invokespecial 3, 3) := by decide +kernel
theorem d_Tr_init_4 : decode b_Tr_init 4 = .ok (.aload_n 0, 1) := by decide +kernel
theorem d_Tr_init_5 : decode b_Tr_init 5 = .ok (.bipush 60, 2) := by decide +kernel
theorem d_Tr_init_7 : decode b_Tr_init 7 = .ok (.newarray .int, 2) := by decide +kernel
theorem d_Tr_init_9 : decode b_Tr_init 9 = .ok (.putfield 9, 3) := by decide +kernel
theorem d_Tr_init_12 : decode b_Tr_init 12 = .ok (.aload_n 0, 1) := by decide +kernel
theorem d_Tr_init_13 : decode b_Tr_init 13 = .ok (.iconst 0, 1) := by decide +kernel
theorem d_Tr_init_14 : decode b_Tr_init 14 = .ok (.putfield 15, 3) := by decide +kernel
theorem d_Tr_init_17 : decode b_Tr_init 17 = .ok (.aload_n 0, 1) := by decide +kernel
theorem d_Tr_init_18 : decode b_Tr_init 18 = .ok (.iconst 0, 1) := by decide +kernel
theorem d_Tr_init_19 : decode b_Tr_init 19 = .ok (.putfield 19, 3) := by decide +kernel
theorem d_Tr_init_22 : decode b_Tr_init 22 = .ok (.return_, 1) := by decide +kernel
theorem d_Tr_workerComesTo_0 : decode b_Tr_workerComesTo 0 = .ok (.aload_n 0, 1) := by decide +kernel
theorem d_Tr_workerComesTo_1 : decode b_Tr_workerComesTo 1 = .ok (.bipush 8, 2) := by decide +kernel
theorem d_Tr_workerComesTo_3 : decode b_Tr_workerComesTo 3 = .ok (.iload_n 1, 1) := by decide +kernel
theorem d_Tr_workerComesTo_4 : decode b_Tr_workerComesTo 4 = .ok (.imul, 1) := by decide +kernel
theorem d_Tr_workerComesTo_5 : decode b_Tr_workerComesTo 5 = .ok (.iload_n 2, 1) := by decide +kernel
theorem d_Tr_workerComesTo_6 : decode b_Tr_workerComesTo 6 = .ok (.iadd, 1) := by decide +kernel
theorem d_Tr_workerComesTo_7 : decode b_Tr_workerComesTo 7 = .ok (.invokevirtual 22, 3) := by decide +kernel
theorem d_Tr_workerComesTo_10 : decode b_Tr_workerComesTo 10 = .ok (.return_, 1) := by decide +kernel
theorem d_Tr_clientIsControlled_0 : decode b_Tr_clientIsControlled 0 = .ok (.aload_n 0, 1) := by decide +kernel
theorem d_Tr_clientIsControlled_1 : decode b_Tr_clientIsControlled 1 = .ok (.bipush 64, 2) := by decide +kernel
theorem d_Tr_clientIsControlled_3 : decode b_Tr_clientIsControlled 3 = .ok (.iload_n 1, 1) := by decide +kernel
theorem d_Tr_clientIsControlled_4 : decode b_Tr_clientIsControlled 4 = .ok (.imul, 1) := by decide +kernel
theorem d_Tr_clientIsControlled_5 : decode b_Tr_clientIsControlled 5 = .ok (.iload_n 2, 1) := by decide +kernel
theorem d_Tr_clientIsControlled_6 : decode b_Tr_clientIsControlled 6 = .ok (.iadd, 1) := by decide +kernel
theorem d_Tr_clientIsControlled_7 : decode b_Tr_clientIsControlled 7 = .ok (.ineg, 1) := by decide +kernel
theorem d_Tr_clientIsControlled_8 : decode b_Tr_clientIsControlled 8 = .ok (.iconst 1, 1) := by decide +kernel
theorem d_Tr_clientIsControlled_9 : decode b_Tr_clientIsControlled 9 = .ok (.isub, 1) := by decide +kernel
theorem d_Tr_clientIsControlled_10 : decode b_Tr_clientIsControlled 10 = .ok (.invokevirtual 22, 3) := by decide +kernel
theorem d_Tr_clientIsControlled_13 : decode b_Tr_clientIsControlled 13 = .ok (.return_, 1) := by decide +kernel
theorem d_Tr_jobEnds_0 : decode b_Tr_jobEnds 0 = .ok (.aload_n 0, 1) := by decide +kernel
theorem d_Tr_jobEnds_1 : decode b_Tr_jobEnds 1 = .ok (.sipush 1000, 3) := by decide +kernel
theorem d_Tr_jobEnds_4 : decode b_Tr_jobEnds 4 = .ok (.iload_n 1, 1) := by decide +kernel
theorem d_Tr_jobEnds_5 : decode b_Tr_jobEnds 5 = .ok (.iadd, 1) := by decide +kernel
theorem d_Tr_jobEnds_6 : decode b_Tr_jobEnds 6 = .ok (.invokevirtual 22, 3) := by decide +kernel
theorem d_Tr_jobEnds_9 : decode b_Tr_jobEnds 9 = .ok (.return_, 1) := by decide +kernel
theorem d_Tr_append_0 : decode b_Tr_append 0 = .ok (.aload_n 0, 1) := by decide +kernel
theorem d_Tr_append_1 : decode b_Tr_append 1 = .ok (.getfield 15, 3) := by decide +kernel
theorem d_Tr_append_4 : decode b_Tr_append 4 = .ok (.bipush 60, 2) := by decide +kernel
theorem d_Tr_append_6 : decode b_Tr_append 6 = .ok (.if_icmp .ge 23, 3) := by decide +kernel
theorem d_Tr_append_9 : decode b_Tr_append 9 = .ok (.aload_n 0, 1) := by decide +kernel
theorem d_Tr_append_10 : decode b_Tr_append 10 = .ok (.getfield 9, 3) := by decide +kernel
theorem d_Tr_append_13 : decode b_Tr_append 13 = .ok (.aload_n 0, 1) := by decide +kernel
theorem d_Tr_append_14 : decode b_Tr_append 14 = .ok (.getfield 15, 3) := by decide +kernel
theorem d_Tr_append_17 : decode b_Tr_append 17 = .ok (.iload_n 1, 1) := by decide +kernel
theorem d_Tr_append_18 : decode b_Tr_append 18 = .ok (.iastore, 1) := by decide +kernel
theorem d_Tr_append_19 : decode b_Tr_append 19 = .ok (.aload_n 0, 1) := by decide +kernel
theorem d_Tr_append_20 : decode b_Tr_append 20 = .ok (.dup, 1) := by decide +kernel
theorem d_Tr_append_21 : decode b_Tr_append 21 = .ok (.getfield 15, 3) := by decide +kernel
theorem d_Tr_append_24 : decode b_Tr_append 24 = .ok (.iconst 1, 1) := by decide +kernel
theorem d_Tr_append_25 : decode b_Tr_append 25 = .ok (.iadd, 1) := by decide +kernel
theorem d_Tr_append_26 : decode b_Tr_append 26 = .ok (.putfield 15, 3) := by decide +kernel
theorem d_Tr_append_29 : decode b_Tr_append 29 = .ok (.aload_n 0, 1) := by decide +kernel
theorem d_Tr_append_30 : decode b_Tr_append 30 = .ok (.dup, 1) := by decide +kernel
theorem d_Tr_append_31 : decode b_Tr_append 31 = .ok (.getfield 19, 3) := by decide +kernel
theorem d_Tr_append_34 : decode b_Tr_append 34 = .ok (.iconst 1, 1) := by decide +kernel
theorem d_Tr_append_35 : decode b_Tr_append 35 = .ok (.iadd, 1) := by decide +kernel
theorem d_Tr_append_36 : decode b_Tr_append 36 = .ok (.putfield 19, 3) := by decide +kernel
theorem d_Tr_append_39 : decode b_Tr_append 39 = .ok (.return_, 1) := by decide +kernel
theorem d_Wk_init_0 : decode b_Wk_init 0 = .ok (.aload_n 0, 1) := by decide +kernel
theorem d_Wk_init_1 : decode b_Wk_init 1 = .ok (.invokespecial 3, 3) := by decide +kernel
theorem d_Wk_init_4 : decode b_Wk_init 4 = .ok (.aload_n 0, 1) := by decide +kernel
theorem d_Wk_init_5 : decode b_Wk_init 5 = .ok (.new 9, 3) := by decide +kernel
theorem d_Wk_init_8 : decode b_Wk_init 8 = .ok (.dup, 1) := by decide +kernel
theorem d_Wk_init_9 : decode b_Wk_init 9 = .ok (.invokespecial 11, 3) := by decide +kernel
theorem d_Wk_init_12 : decode b_Wk_init 12 = .ok (.putfield 12, 3) := by decide +kernel
theorem d_Wk_init_15 : decode b_Wk_init 15 = .ok (.aload_n 0, 1) := by decide +kernel
theorem d_Wk_init_16 : decode b_Wk_init 16 = .ok (.iconst 1, 1) := by decide +kernel
theorem d_Wk_init_17 : decode b_Wk_init 17 = .ok (.putfield 18, 3) := by decide +kernel
theorem d_Wk_init_20 : decode b_Wk_init 20 = .ok (.aload_n 0, 1) := by decide +kernel
theorem d_Wk_init_21 : decode b_Wk_init 21 = .ok (.iconst 0, 1) := by decide +kernel
theorem d_Wk_init_22 : decode b_Wk_init 22 = .ok (.putfield 22, 3) := by decide +kernel
theorem d_Wk_init_25 : decode b_Wk_init 25 = .ok (.aload_n 0, 1) := by decide +kernel
theorem d_Wk_init_26 : decode b_Wk_init 26 = .ok (.iload_n 1, 1) := by decide +kernel
theorem d_Wk_init_27 : decode b_Wk_init 27 = .ok (.putfield 26, 3) := by decide +kernel
theorem d_Wk_init_30 : decode b_Wk_init 30 = .ok (.aload_n 0, 1) := by decide +kernel
theorem d_Wk_init_31 : decode b_Wk_init 31 = .ok (.aload_n 2, 1) := by decide +kernel
theorem d_Wk_init_32 : decode b_Wk_init 32 = .ok (.getfield 29, 3) := by decide +kernel
theorem d_Wk_init_35 : decode b_Wk_init 35 = .ok (.putfield 34, 3) := by decide +kernel
theorem d_Wk_init_38 : decode b_Wk_init 38 = .ok (.aload_n 0, 1) := by decide +kernel
theorem d_Wk_init_39 : decode b_Wk_init 39 = .ok (.aload_n 2, 1) := by decide +kernel
theorem d_Wk_init_40 : decode b_Wk_init 40 = .ok (.getfield 35, 3) := by decide +kernel
theorem d_Wk_init_43 : decode b_Wk_init 43 = .ok (.putfield 38, 3) := by decide +kernel
theorem d_Wk_init_46 : decode b_Wk_init 46 = .ok (.aload_n 0, 1) := by decide +kernel
theorem d_Wk_init_47 : decode b_Wk_init 47 = .ok (.aload_n 2, 1) := by decide +kernel
theorem d_Wk_init_48 : decode b_Wk_init 48 = .ok (.getfield 39, 3) := by decide +kernel
theorem d_Wk_init_51 : decode b_Wk_init 51 = .ok (.putfield 42, 3) := by decide +kernel
theorem d_Wk_init_54 : decode b_Wk_init 54 = .ok (.return_, 1) := by decide +kernel
