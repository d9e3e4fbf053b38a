/-! decode rows, by program -/
theorem d_Run_cancelAll_40 : decode (xt_code m_Run_cancelAll) 40 = .ok (.ifCond .ne 23, 3) := by decide +kernel
theorem d_Run_cancelAll_43 : decode (xt_code m_Run_cancelAll) 43 = .ok (.aload_n 0, 1) := by decide +kernel
theorem d_Run_cancelAll_44 : decode (xt_code m_Run_cancelAll) 44 = .ok (.getfield 27, 3) := by decide +kernel
theorem d_Run_cancelAll_47 : decode (xt_code m_Run_cancelAll) 47 = .ok (.iload_n 1, 1) := by decide +kernel
theorem d_Run_cancelAll_48 : decode (xt_code m_Run_cancelAll) 48 = .ok (.aaload, 1) := by decide +kernel
theorem d_Run_cancelAll_49 : decode (xt_code m_Run_cancelAll) 49 = .ok (.invokevirtual 53, 3) := by decide +kernel
theorem d_Run_cancelAll_52 : decode (xt_code m_Run_cancelAll) 52 = .ok (.aload_n 0, 1) := by decide +kernel
theorem d_Run_cancelAll_53 : decode (xt_code m_Run_cancelAll) 53 = .ok (.getfield 27, 3) := by decide +kernel
theorem d_Run_cancelAll_56 : decode (xt_code m_Run_cancelAll) 56 = .ok (.iload_n 1, 1) := by decide +kernel
theorem d_Run_cancelAll_57 : decode (xt_code m_Run_cancelAll) 57 = .ok (.aaload, 1) := by decide +kernel
theorem d_Run_cancelAll_58 : decode (xt_code m_Run_cancelAll) 58 = .ok (.bipush 6, 2) := by decide +kernel
theorem d_Run_cancelAll_60 : decode (xt_code m_Run_cancelAll) 60 = .ok (.putfield 35, 3) := by decide +kernel
theorem d_Run_cancelAll_63 : decode (xt_code m_Run_cancelAll) 63 = .ok (.iinc 1 1, 3) := by decide +kernel
theorem d_Run_cancelAll_66 : decode (xt_code m_Run_cancelAll) 66 = .ok (.goto (-59), 3) := by decide +kernel
theorem d_Run_cancelAll_69 : decode (xt_code m_Run_cancelAll) 69 = .ok (.return_, 1) := by decide +kernel
theorem d_Tsk_leaveRunner_0 : decode (xt_code m_Tsk_leaveRunner) 0 = .ok (.aload_n 0, 1) := by decide +kernel
theorem d_Tsk_leaveRunner_1 : decode (xt_code m_Tsk_leaveRunner) 1 = .ok (.getfield 15, 3) := by decide +kernel
theorem d_Tsk_leaveRunner_4 : decode (xt_code m_Tsk_leaveRunner) 4 = .ok (.ifnull 16, 3) := by decide +kernel
theorem d_Tsk_leaveRunner_7 : decode (xt_code m_Tsk_leaveRunner) 7 = .ok (.aload_n 0, 1) := by decide +kernel
theorem d_Tsk_leaveRunner_8 : decode (xt_code m_Tsk_leaveRunner) 8 = .ok (.getfield 15, 3) := by decide +kernel
theorem d_Tsk_leaveRunner_11 : decode (xt_code m_Tsk_leaveRunner) 11 = .ok (.aconst_null, 1) := by decide +kernel
theorem d_Tsk_leaveRunner_12 : decode (xt_code m_Tsk_leaveRunner) 12 = .ok (.putfield 72, 3) := by decide +kernel
theorem d_Tsk_leaveRunner_15 : decode (xt_code m_Tsk_leaveRunner) 15 = .ok (.aload_n 0, 1) := by decide +kernel
theorem d_Tsk_leaveRunner_16 : decode (xt_code m_Tsk_leaveRunner) 16 = .ok (.aconst_null, 1) := by decide +kernel
theorem d_Tsk_leaveRunner_17 : decode (xt_code m_Tsk_leaveRunner) 17 = .ok (.putfield 15, 3) := by decide +kernel
theorem d_Tsk_leaveRunner_20 : decode (xt_code m_Tsk_leaveRunner) 20 = .ok (.return_, 1) := by decide +kernel
theorem d_S_newRun_0 : decode (xt_code m_S_newRun) 0 = .ok (.new 21, 3) := by decide +kernel
theorem d_S_newRun_3 : decode (xt_code m_S_newRun) 3 = .ok (.dup, 1) := by decide +kernel
theorem d_S_newRun_4 : decode (xt_code m_S_newRun) 4 = .ok (.iload_n 1, 1) := by decide +kernel
theorem d_S_newRun_5 : decode (xt_code m_S_newRun) 5 = .ok (.iload_n 2, 1) := by decide +kernel
theorem d_S_newRun_6 : decode (xt_code m_S_newRun) 6 = .ok (.iload_n 3, 1) := by decide +kernel
theorem d_S_newRun_7 : decode (xt_code m_S_newRun) 7 = .ok (.aload_n 0, 1) := by decide +kernel
theorem d_S_newRun_8 : decode (xt_code m_S_newRun) 8 = .ok (.getfield 27, 3) := by decide +kernel
theorem d_S_newRun_11 : decode (xt_code m_S_newRun) 11 = .ok (.invokespecial 175, 3) := by decide +kernel
theorem d_S_newRun_14 : decode (xt_code m_S_newRun) 14 = .ok (.astore 4, 2) := by decide +kernel
theorem d_S_newRun_16 : decode (xt_code m_S_newRun) 16 = .ok (.iconst 0, 1) := by decide +kernel
theorem d_S_newRun_17 : decode (xt_code m_S_newRun) 17 = .ok (.istore 5, 2) := by decide +kernel
theorem d_S_newRun_19 : decode (xt_code m_S_newRun) 19 = .ok (.iload 5, 2) := by decide +kernel
theorem d_S_newRun_21 : decode (xt_code m_S_newRun) 21 = .ok (.aload_n 0, 1) := by decide +kernel
theorem d_S_newRun_22 : decode (xt_code m_S_newRun) 22 = .ok (.getfield 27, 3) := by decide +kernel
theorem d_S_newRun_25 : decode (xt_code m_S_newRun) 25 = .ok (.if_icmp .ge 35, 3) := by decide +kernel
theorem d_S_newRun_28 : decode (xt_code m_S_newRun) 28 = .ok (.aload 4, 2) := by decide +kernel
theorem d_S_newRun_30 : decode (xt_code m_S_newRun) 30 = .ok (.getfield 171, 3) := by decide +kernel
theorem d_S_newRun_33 : decode (xt_code m_S_newRun) 33 = .ok (.iload 5, 2) := by decide +kernel
theorem d_S_newRun_35 : decode (xt_code m_S_newRun) 35 = .ok (.new 75, 3) := by decide +kernel
theorem d_S_newRun_38 : decode (xt_code m_S_newRun) 38 = .ok (.dup, 1) := by decide +kernel
theorem d_S_newRun_39 : decode (xt_code m_S_newRun) 39 = .ok (.aload 4, 2) := by decide +kernel
theorem d_S_newRun_41 : decode (xt_code m_S_newRun) 41 = .ok (.iload 5, 2) := by decide +kernel
theorem d_S_newRun_43 : decode (xt_code m_S_newRun) 43 = .ok (.aload_n 0, 1) := by decide +kernel
theorem d_S_newRun_44 : decode (xt_code m_S_newRun) 44 = .ok (.getfield 11, 3) := by decide +kernel
theorem d_S_newRun_47 : decode (xt_code m_S_newRun) 47 = .ok (.iload 5, 2) := by decide +kernel
theorem d_S_newRun_49 : decode (xt_code m_S_newRun) 49 = .ok (.aaload, 1) := by decide +kernel
theorem d_S_newRun_50 : decode (xt_code m_S_newRun) 50 = .ok (.invokespecial 178, 3) := by decide +kernel
theorem d_S_newRun_53 : decode (xt_code m_S_newRun) 53 = .ok (.aastore, 1) := by decide +kernel
theorem d_S_newRun_54 : decode (xt_code m_S_newRun) 54 = .ok (.iinc 5 1, 3) := by decide +kernel
theorem d_S_newRun_57 : decode (xt_code m_S_newRun) 57 = .ok (.goto (-38), 3) := by decide +kernel
theorem d_S_newRun_60 : decode (xt_code m_S_newRun) 60 = .ok (.aload 4, 2) := by decide +kernel
theorem d_S_newRun_62 : decode (xt_code m_S_newRun) 62 = .ok (.areturn, 1) := by decide +kernel
theorem d_Run_init_0 : decode (xt_code m_Run_init) 0 = .ok (.aload_n 0, 1) := by decide +kernel
theorem d_Run_init_1 : decode (xt_code m_Run_init) 1 = .ok (.invokespecial 3, 3) := by decide +kernel
theorem d_Run_init_4 : decode (xt_code m_Run_init) 4 = .ok (.aload_n 0, 1) := by decide +kernel
theorem d_Run_init_5 : decode (xt_code m_Run_init) 5 = .ok (.iconst 0, 1) := by decide +kernel
theorem d_Run_init_6 : decode (xt_code m_Run_init) 6 = .ok (.putfield 9, 3) := by decide +kernel
theorem d_Run_init_9 : decode (xt_code m_Run_init) 9 = .ok (.aload_n 0, 1) := by decide +kernel
theorem d_Run_init_10 : decode (xt_code m_Run_init) 10 = .ok (.iload_n 1, 1) := by decide +kernel
theorem d_Run_init_11 : decode (xt_code m_Run_init) 11 = .ok (.putfield 15, 3) := by decide +kernel
theorem d_Run_init_14 : decode (xt_code m_Run_init) 14 = .ok (.aload_n 0, 1) := by decide +kernel
theorem d_Run_init_15 : decode (xt_code m_Run_init) 15 = .ok (.iload_n 2, 1) := by decide +kernel
theorem d_Run_init_16 : decode (xt_code m_Run_init) 16 = .ok (.putfield 19, 3) := by decide +kernel
theorem d_Run_init_19 : decode (xt_code m_Run_init) 19 = .ok (.aload_n 0, 1) := by decide +kernel
theorem d_Run_init_20 : decode (xt_code m_Run_init) 20 = .ok (.iload_n 3, 1) := by decide +kernel
theorem d_Run_init_21 : decode (xt_code m_Run_init) 21 = .ok (.putfield 22, 3) := by decide +kernel
theorem d_Run_init_24 : decode (xt_code m_Run_init) 24 = .ok (.aload_n 0, 1) := by decide +kernel
theorem d_Run_init_25 : decode (xt_code m_Run_init) 25 = .ok (.iload 4, 2) := by decide +kernel
theorem d_Run_init_27 : decode (xt_code m_Run_init) 27 = .ok (.anewarray 25, 3) := by decide +kernel
theorem d_Run_init_30 : decode (xt_code m_Run_init) 30 = .ok (.putfield 27, 3) := by decide +kernel
theorem d_Run_init_33 : decode (xt_code m_Run_init) 33 = .ok (.return_, 1) := by decide +kernel
theorem d_Tsk_init_0 : decode (xt_code m_Tsk_init) 0 = .ok (.aload_n 0, 1) := by decide +kernel
theorem d_Tsk_init_1 : decode (xt_code m_Tsk_init) 1 = .ok (.invokespecial 3, 3) := by decide +kernel
theorem d_Tsk_init_4 : decode (xt_code m_Tsk_init) 4 = .ok (.aload_n 0, 1) := by decide +kernel
theorem d_Tsk_init_5 : decode (xt_code m_Tsk_init) 5 = .ok (.iconst 0, 1) := by decide +kernel
theorem d_Tsk_init_6 : decode (xt_code m_Tsk_init) 6 = .ok (.putfield 9, 3) := by decide +kernel
theorem d_Tsk_init_9 : decode (xt_code m_Tsk_init) 9 = .ok (.aload_n 0, 1) := by decide +kernel
theorem d_Tsk_init_10 : decode (xt_code m_Tsk_init) 10 = .ok (.aconst_null, 1) := by decide +kernel
theorem d_Tsk_init_11 : decode (xt_code m_Tsk_init) 11 = .ok (.putfield 15, 3) := by decide +kernel
theorem d_Tsk_init_14 : decode (xt_code m_Tsk_init) 14 = .ok (.aload_n 0, 1) := by decide +kernel
theorem d_Tsk_init_15 : decode (xt_code m_Tsk_init) 15 = .ok (.iconst 0, 1) := by decide +kernel
theorem d_Tsk_init_16 : decode (xt_code m_Tsk_init) 16 = .ok (.putfield 19, 3) := by decide +kernel
theorem d_Tsk_init_19 : decode (xt_code m_Tsk_init) 19 = .ok (.aload_n 0, 1) := by decide +kernel
theorem d_Tsk_init_20 : decode (xt_code m_Tsk_init) 20 = .ok (.iconst 0, 1) := by decide +kernel
theorem d_Tsk_init_21 : decode (xt_code m_Tsk_init) 21 = .ok (.putfield 22, 3) := by decide +kernel
theorem d_Tsk_init_24 : decode (xt_code m_Tsk_init) 24 = .ok (.aload_n 0, 1) := by decide +kernel
theorem d_Tsk_init_25 : decode (xt_code m_Tsk_init) 25 = .ok (.iconst 0, 1) := by decide +kernel
theorem d_Tsk_init_26 : decode (xt_code m_Tsk_init) 26 = .ok (.putfield 25, 3) := by decide +kernel
theorem d_Tsk_init_29 : decode (xt_code m_Tsk_init) 29 = .ok (.aload_n 0, 1) := by decide +kernel
theorem d_Tsk_init_30 : decode (xt_code m_Tsk_init) 30 = .ok (.iconst 0, 1) := by decide +kernel
theorem d_Tsk_init_31 : decode (xt_code m_Tsk_init) 31 = .ok (.putfield 28, 3) := by decide +kernel
theorem d_Tsk_init_34 : decode (xt_code m_Tsk_init) 34 = .ok (.aload_n 0, 1) := by decide +kernel
theorem d_Tsk_init_35 : decode (xt_code m_Tsk_init) 35 = .ok (.iconst 0, 1) := by decide +kernel
theorem d_Tsk_init_36 : decode (xt_code m_Tsk_init) 36 = .ok (.putfield 31, 3) := by decide +kernel
theorem d_Tsk_init_39 : decode (xt_code m_Tsk_init) 39 = .ok (.aload_n 0, 1) := by decide +kernel
theorem d_Tsk_init_40 : decode (xt_code m_Tsk_init) 40 = .ok (.iconst 0, 1) := by decide +kernel
theorem d_Tsk_init_41 : decode (xt_code m_Tsk_init) 41 = .ok (.putfield 34, 3) := by decide +kernel
theorem d_Tsk_init_44 : decode (xt_code m_Tsk_init) 44 = .ok (.aload_n 0, 1) := by decide +kernel
theorem d_Tsk_init_45 : decode (xt_code m_Tsk_init) 45 = .ok (.iconst 0, 1) := by decide +kernel
theorem d_Tsk_init_46 : decode (xt_code m_Tsk_init) 46 = .ok (.putfield 37, 3) := by decide +kernel
theorem d_Tsk_init_49 : decode (xt_code m_Tsk_init) 49 = .ok (.aload_n 0, 1) := by decide +kernel
theorem d_Tsk_init_50 : decode (xt_code m_Tsk_init) 50 = .ok (.aload_n 1, 1) := by decide +kernel
theorem d_Tsk_init_51 : decode (xt_code m_Tsk_init) 51 = .ok (.putfield 41, 3) := by decide +kernel
theorem d_Tsk_init_54 : decode (xt_code m_Tsk_init) 54 = .ok (.aload_n 0, 1) := by decide +kernel
theorem d_Tsk_init_55 : decode (xt_code m_Tsk_init) 55 = .ok (.iload_n 2, 1) := by decide +kernel
theorem d_Tsk_init_56 : decode (xt_code m_Tsk_init) 56 = .ok (.putfield 45, 3) := by decide +kernel
theorem d_Tsk_init_59 : decode (xt_code m_Tsk_init) 59 = .ok (.aload_n 0, 1) := by decide +kernel
theorem d_Tsk_init_60 : decode (xt_code m_Tsk_init) 60 = .ok (.aload_n 3, 1) := by decide +kernel
theorem d_Tsk_init_61 : decode (xt_code m_Tsk_init) 61 = .ok (.putfield 48, 3) := by decide +kernel
theorem d_Tsk_init_64 : decode (xt_code m_Tsk_init) 64 = .ok (.return_, 1) := by decide +kernel
theorem d_S_settle_0 : decode (xt_code m_S_settle) 0 = .ok (.iconst 0, 1) := by decide +kernel
theorem d_S_settle_1 : decode (xt_code m_S_settle) 1 = .ok (.istore_n 1, 1) := by decide +kernel
theorem d_S_settle_2 : decode (xt_code m_S_settle) 2 = .ok (.iload_n 1, 1) := by decide +kernel
theorem d_S_settle_3 : decode (xt_code m_S_settle) 3 = .ok (.aload_n 0, 1) := by decide +kernel
theorem d_S_settle_4 : decode (xt_code m_S_settle) 4 = .ok (.getfield 34, 3) := by decide +kernel
theorem d_S_settle_7 : decode (xt_code m_S_settle) 7 = .ok (.if_icmp .ge 18, 3) := by decide +kernel
theorem d_S_settle_10 : decode (xt_code m_S_settle) 10 = .ok (.aload_n 0, 1) := by decide +kernel
theorem d_S_settle_11 : decode (xt_code m_S_settle) 11 = .ok (.getfield 23, 3) := by decide +kernel
theorem d_S_settle_14 : decode (xt_code m_S_settle) 14 = .ok (.iload_n 1, 1) := by decide +kernel
theorem d_S_settle_15 : decode (xt_code m_S_settle) 15 = .ok (.aaload, 1) := by decide +kernel
theorem d_S_settle_16 : decode (xt_code m_S_settle) 16 = .ok (.invokevirtual 184, 3) := by decide +kernel
theorem d_S_settle_19 : decode (xt_code m_S_settle) 19 = .ok (.iinc 1 1, 3) := by decide +kernel
theorem d_S_settle_22 : decode (xt_code m_S_settle) 22 = .ok (.goto (-20), 3) := by decide +kernel
theorem d_S_settle_25 : decode (xt_code m_S_settle) 25 = .ok (.return_, 1) := by decide +kernel
theorem d_Run_settleTasks_0 : decode (xt_code m_Run_settleTasks) 0 = .ok (.iconst 0, 1) := by decide +kernel
theorem d_Run_settleTasks_1 : decode (xt_code m_Run_settleTasks) 1 = .ok (.istore_n 1, 1) := by decide +kernel
theorem d_Run_settleTasks_2 : decode (xt_code m_Run_settleTasks) 2 = .ok (.iload_n 1, 1) := by decide +kernel
theorem d_Run_settleTasks_3 : decode (xt_code m_Run_settleTasks) 3 = .ok (.aload_n 0, 1) := by decide +kernel
theorem d_Run_settleTasks_4 : decode (xt_code m_Run_settleTasks) 4 = .ok (.getfield 27, 3) := by decide +kernel
theorem d_Run_settleTasks_7 : decode (xt_code m_Run_settleTasks) 7 = .ok (.arraylength, 1) := by decide +kernel
theorem d_Run_settleTasks_8 : decode (xt_code m_Run_settleTasks) 8 = .ok (.if_icmp .ge 40, 3) := by decide +kernel
theorem d_Run_settleTasks_11 : decode (xt_code m_Run_settleTasks) 11 = .ok (.aload_n 0, 1) := by decide +kernel
theorem d_Run_settleTasks_12 : decode (xt_code m_Run_settleTasks) 12 = .ok (.getfield 27, 3) := by decide +kernel
theorem d_Run_settleTasks_15 : decode (xt_code m_Run_settleTasks) 15 = .ok (.iload_n 1, 1) := by decide +kernel
theorem d_Run_settleTasks_16 : decode (xt_code m_Run_settleTasks) 16 = .ok (.aaload, 1) := by decide +kernel
theorem d_Run_settleTasks_17 : decode (xt_code m_Run_settleTasks) 17 = .ok (.getfield 35, 3) := by decide +kernel
theorem d_Run_settleTasks_20 : decode (xt_code m_Run_settleTasks) 20 = .ok (.ifCond .ne 22, 3) := by decide +kernel
theorem d_Run_settleTasks_23 : decode (xt_code m_Run_settleTasks) 23 = .ok (.aload_n 0, 1) := by decide +kernel
theorem d_Run_settleTasks_24 : decode (xt_code m_Run_settleTasks) 24 = .ok (.getfield 27, 3) := by decide +kernel
theorem d_Run_settleTasks_27 : decode (xt_code m_Run_settleTasks) 27 = .ok (.iload_n 1, 1) := by decide +kernel
theorem d_Run_settleTasks_28 : decode (xt_code m_Run_settleTasks) 28 = .ok (.aaload, 1) := by decide +kernel
theorem d_Run_settleTasks_29 : decode (xt_code m_Run_settleTasks) 29 = .ok (.aload_n 0, 1) := by decide +kernel
theorem d_Run_settleTasks_30 : decode (xt_code m_Run_settleTasks) 30 = .ok (.aload_n 0, 1) := by decide +kernel
theorem d_Run_settleTasks_31 : decode (xt_code m_Run_settleTasks) 31 = .ok (.getfield 27, 3) := by decide +kernel
theorem d_Run_settleTasks_34 : decode (xt_code m_Run_settleTasks) 34 = .ok (.iload_n 1, 1) := by decide +kernel
theorem d_Run_settleTasks_35 : decode (xt_code m_Run_settleTasks) 35 = .ok (.aaload, 1) := by decide +kernel
theorem d_Run_settleTasks_36 : decode (xt_code m_Run_settleTasks) 36 = .ok (.invokevirtual 59, 3) := by decide +kernel
theorem d_Run_settleTasks_39 : decode (xt_code m_Run_settleTasks) 39 = .ok (.putfield 35, 3) := by decide +kernel
theorem d_Run_settleTasks_42 : decode (xt_code m_Run_settleTasks) 42 = .ok (.iinc 1 1, 3) := by decide +kernel
theorem d_Run_settleTasks_45 : decode (xt_code m_Run_settleTasks) 45 = .ok (.goto (-43), 3) := by decide +kernel
theorem d_Run_settleTasks_48 : decode (xt_code m_Run_settleTasks) 48 = .ok (.return_, 1) := by decide +kernel
theorem d_Run_stateAfterWaiting_0 : decode (xt_code m_Run_stateAfterWaiting) 0 = .ok (.iconst 1, 1) := by decide +kernel
theorem d_Run_stateAfterWaiting_1 : decode (xt_code m_Run_stateAfterWaiting) 1 = .ok (.istore_n 2, 1) := by decide +kernel
theorem d_Run_stateAfterWaiting_2 : decode (xt_code m_Run_stateAfterWaiting) 2 = .ok (.iconst 1, 1) := by decide +kernel
theorem d_Run_stateAfterWaiting_3 : decode (xt_code m_Run_stateAfterWaiting) 3 = .ok (.istore_n 3, 1) := by decide +kernel
theorem d_Run_stateAfterWaiting_4 : decode (xt_code m_Run_stateAfterWaiting) 4 = .ok (.iconst 0, 1) := by decide +kernel
theorem d_Run_stateAfterWaiting_5 : decode (xt_code m_Run_stateAfterWaiting) 5 = .ok (.istore 4, 2) := by decide +kernel
theorem d_Run_stateAfterWaiting_7 : decode (xt_code m_Run_stateAfterWaiting) 7 = .ok (.iload 4, 2) := by decide +kernel
theorem d_Run_stateAfterWaiting_9 : decode (xt_code m_Run_stateAfterWaiting) 9 = .ok (.aload_n 0, 1) := by decide +kernel
theorem d_Run_stateAfterWaiting_10 : decode (xt_code m_Run_stateAfterWaiting) 10 = .ok (.getfield 27, 3) := by decide +kernel
theorem d_Run_stateAfterWaiting_13 : decode (xt_code m_Run_stateAfterWaiting) 13 = .ok (.arraylength, 1) := by decide +kernel
theorem d_Run_stateAfterWaiting_14 : decode (xt_code m_Run_stateAfterWaiting) 14 = .ok (.if_icmp .ge 81, 3) := by decide +kernel
theorem d_Run_stateAfterWaiting_17 : decode (xt_code m_Run_stateAfterWaiting) 17 = .ok (.aload_n 1, 1) := by decide +kernel
theorem d_Run_stateAfterWaiting_18 : decode (xt_code m_Run_stateAfterWaiting) 18 = .ok (.getfield 44, 3) := by decide +kernel
theorem d_Run_stateAfterWaiting_21 : decode (xt_code m_Run_stateAfterWaiting) 21 = .ok (.iload 4, 2) := by decide +kernel
theorem d_Run_stateAfterWaiting_23 : decode (xt_code m_Run_stateAfterWaiting) 23 = .ok (.invokevirtual 63, 3) := by decide +kernel
theorem d_Run_stateAfterWaiting_26 : decode (xt_code m_Run_stateAfterWaiting) 26 = .ok (.ifCond .eq 63, 3) := by decide +kernel
theorem d_Run_stateAfterWaiting_29 : decode (xt_code m_Run_stateAfterWaiting) 29 = .ok (.iload_n 2, 1) := by decide +kernel
theorem d_Run_stateAfterWaiting_30 : decode (xt_code m_Run_stateAfterWaiting) 30 = .ok (.ifCond .eq 20, 3) := by decide +kernel
theorem d_Run_stateAfterWaiting_33 : decode (xt_code m_Run_stateAfterWaiting) 33 = .ok (.aload_n 0, 1) := by decide +kernel
theorem d_Run_stateAfterWaiting_34 : decode (xt_code m_Run_stateAfterWaiting) 34 = .ok (.getfield 27, 3) := by decide +kernel
theorem d_Run_stateAfterWaiting_37 : decode (xt_code m_Run_stateAfterWaiting) 37 = .ok (.iload 4, 2) := by decide +kernel
theorem d_Run_stateAfterWaiting_39 : decode (xt_code m_Run_stateAfterWaiting) 39 = .ok (.aaload, 1) := by decide +kernel
theorem d_Run_stateAfterWaiting_40 : decode (xt_code m_Run_stateAfterWaiting) 40 = .ok (.invokevirtual 31, 3) := by decide +kernel
theorem d_Run_stateAfterWaiting_43 : decode (xt_code m_Run_stateAfterWaiting) 43 = .ok (.ifCond .eq 7, 3) := by decide +kernel
theorem d_Run_stateAfterWaiting_46 : decode (xt_code m_Run_stateAfterWaiting) 46 = .ok (.iconst 1, 1) := by decide +kernel
theorem d_Run_stateAfterWaiting_47 : decode (xt_code m_Run_stateAfterWaiting) 47 = .ok (.goto 4, 3) := by decide +kernel
theorem d_Run_stateAfterWaiting_50 : decode (xt_code m_Run_stateAfterWaiting) 50 = .ok (.iconst 0, 1) := by decide +kernel
theorem d_Run_stateAfterWaiting_51 : decode (xt_code m_Run_stateAfterWaiting) 51 = .ok (.istore_n 2, 1) := by decide +kernel
theorem d_Run_stateAfterWaiting_52 : decode (xt_code m_Run_stateAfterWaiting) 52 = .ok (.iload_n 3, 1) := by decide +kernel
theorem d_Run_stateAfterWaiting_53 : decode (xt_code m_Run_stateAfterWaiting) 53 = .ok (.ifCond .eq 34, 3) := by decide +kernel
theorem d_Run_stateAfterWaiting_56 : decode (xt_code m_Run_stateAfterWaiting) 56 = .ok (.aload_n 0, 1) := by decide +kernel
theorem d_Run_stateAfterWaiting_57 : decode (xt_code m_Run_stateAfterWaiting) 57 = .ok (.getfield 27, 3) := by decide +kernel
theorem d_Run_stateAfterWaiting_60 : decode (xt_code m_Run_stateAfterWaiting) 60 = .ok (.iload 4, 2) := by decide +kernel
theorem d_Run_stateAfterWaiting_62 : decode (xt_code m_Run_stateAfterWaiting) 62 = .ok (.aaload, 1) := by decide +kernel
theorem d_Run_stateAfterWaiting_63 : decode (xt_code m_Run_stateAfterWaiting) 63 = .ok (.getfield 35, 3) := by decide +kernel
theorem d_Run_stateAfterWaiting_66 : decode (xt_code m_Run_stateAfterWaiting) 66 = .ok (.iconst 3, 1) := by decide +kernel
theorem d_Run_stateAfterWaiting_67 : decode (xt_code m_Run_stateAfterWaiting) 67 = .ok (.if_icmp .eq 16, 3) := by decide +kernel
theorem d_Run_stateAfterWaiting_70 : decode (xt_code m_Run_stateAfterWaiting) 70 = .ok (.aload_n 0, 1) := by decide +kernel
theorem d_Run_stateAfterWaiting_71 : decode (xt_code m_Run_stateAfterWaiting) 71 = .ok (.getfield 27, 3) := by decide +kernel
theorem d_Run_stateAfterWaiting_74 : decode (xt_code m_Run_stateAfterWaiting) 74 = .ok (.iload 4, 2) := by decide +kernel
theorem d_Run_stateAfterWaiting_76 : decode (xt_code m_Run_stateAfterWaiting) 76 = .ok (.aaload, 1) := by decide +kernel
theorem d_Run_stateAfterWaiting_77 : decode (xt_code m_Run_stateAfterWaiting) 77 = .ok (.invokevirtual 31, 3) := by decide +kernel
theorem d_Run_stateAfterWaiting_80 : decode (xt_code m_Run_stateAfterWaiting) 80 = .ok (.ifCond .ne 7, 3) := by decide +kernel
theorem d_Run_stateAfterWaiting_83 : decode (xt_code m_Run_stateAfterWaiting) 83 = .ok (.iconst 1, 1) := by decide +kernel
theorem d_Run_stateAfterWaiting_84 : decode (xt_code m_Run_stateAfterWaiting) 84 = .ok (.goto 4, 3) := by decide +kernel
theorem d_Run_stateAfterWaiting_87 : decode (xt_code m_Run_stateAfterWaiting) 87 = .ok (.iconst 0, 1) := by decide +kernel
theorem d_Run_stateAfterWaiting_88 : decode (xt_code m_Run_stateAfterWaiting) 88 = .ok (.istore_n 3, 1) := by decide +kernel
theorem d_Run_stateAfterWaiting_89 : decode (xt_code m_Run_stateAfterWaiting) 89 = .ok (.iinc 4 1, 3) := by decide +kernel
theorem d_Run_stateAfterWaiting_92 : decode (xt_code m_Run_stateAfterWaiting) 92 = .ok (.goto (-85), 3) := by decide +kernel
theorem d_Run_stateAfterWaiting_95 : decode (xt_code m_Run_stateAfterWaiting) 95 = .ok (.iload_n 3, 1) := by decide +kernel
theorem d_Run_stateAfterWaiting_96 : decode (xt_code m_Run_stateAfterWaiting) 96 = .ok (.ifCond .ne 15, 3) := by decide +kernel
theorem d_Run_stateAfterWaiting_99 : decode (xt_code m_Run_stateAfterWaiting) 99 = .ok (.aload_n 1, 1) := by decide +kernel
theorem d_Run_stateAfterWaiting_100 : decode (xt_code m_Run_stateAfterWaiting) 100 = .ok (.getfield 44, 3) := by decide +kernel
theorem d_Run_stateAfterWaiting_103 : decode (xt_code m_Run_stateAfterWaiting) 103 = .ok (.getfield 48, 3) := by decide +kernel
theorem d_Run_stateAfterWaiting_106 : decode (xt_code m_Run_stateAfterWaiting) 106 = .ok (.ifCond .ne 5, 3) := by decide +kernel
theorem d_Run_stateAfterWaiting_109 : decode (xt_code m_Run_stateAfterWaiting) 109 = .ok (.iconst 5, 1) := by decide +kernel
theorem d_Run_stateAfterWaiting_110 : decode (xt_code m_Run_stateAfterWaiting) 110 = .ok (.ireturn, 1) := by decide +kernel
theorem d_Run_stateAfterWaiting_111 : decode (xt_code m_Run_stateAfterWaiting) 111 = .ok (.iload_n 2, 1) := by decide +kernel
theorem d_Run_stateAfterWaiting_112 : decode (xt_code m_Run_stateAfterWaiting) 112 = .ok (.ifCond .eq 14, 3) := by decide +kernel
theorem d_Run_stateAfterWaiting_115 : decode (xt_code m_Run_stateAfterWaiting) 115 = .ok (.aload_n 1, 1) := by decide +kernel
theorem d_Run_stateAfterWaiting_116 : decode (xt_code m_Run_stateAfterWaiting) 116 = .ok (.invokevirtual 67, 3) := by decide +kernel
theorem d_Run_stateAfterWaiting_119 : decode (xt_code m_Run_stateAfterWaiting) 119 = .ok (.ifCond .eq 7, 3) := by decide +kernel
theorem d_Run_stateAfterWaiting_122 : decode (xt_code m_Run_stateAfterWaiting) 122 = .ok (.iconst 1, 1) := by decide +kernel
theorem d_Run_stateAfterWaiting_123 : decode (xt_code m_Run_stateAfterWaiting) 123 = .ok (.goto 4, 3) := by decide +kernel
theorem d_Run_stateAfterWaiting_126 : decode (xt_code m_Run_stateAfterWaiting) 126 = .ok (.iconst 0, 1) := by decide +kernel
theorem d_Run_stateAfterWaiting_127 : decode (xt_code m_Run_stateAfterWaiting) 127 = .ok (.ireturn, 1) := by decide +kernel
theorem d_Tsk_isFreeToRun_0 : decode (xt_code m_Tsk_isFreeToRun) 0 = .ok (.aload_n 0, 1) := by decide +kernel
theorem d_Tsk_isFreeToRun_1 : decode (xt_code m_Tsk_isFreeToRun) 1 = .ok (.getfield 48, 3) := by decide +kernel
theorem d_Tsk_isFreeToRun_4 : decode (xt_code m_Tsk_isFreeToRun) 4 = .ok (.getfield 55, 3) := by decide +kernel
theorem d_Tsk_isFreeToRun_7 : decode (xt_code m_Tsk_isFreeToRun) 7 = .ok (.ifCond .eq 14, 3) := by decide +kernel
theorem d_Tsk_isFreeToRun_10 : decode (xt_code m_Tsk_isFreeToRun) 10 = .ok (.aload_n 0, 1) := by decide +kernel
theorem d_Tsk_isFreeToRun_11 : decode (xt_code m_Tsk_isFreeToRun) 11 = .ok (.getfield 22, 3) := by decide +kernel
theorem d_Tsk_isFreeToRun_14 : decode (xt_code m_Tsk_isFreeToRun) 14 = .ok (.invokestatic 60, 3) := by decide +kernel
theorem d_Tsk_isFreeToRun_17 : decode (xt_code m_Tsk_isFreeToRun) 17 = .ok (.iconst 2, 1) := by decide +kernel
theorem d_Tsk_isFreeToRun_18 : decode (xt_code m_Tsk_isFreeToRun) 18 = .ok (.if_icmp .lt 7, 3) := by decide +kernel
theorem d_Tsk_isFreeToRun_21 : decode (xt_code m_Tsk_isFreeToRun) 21 = .ok (.iconst 1, 1) := by decide +kernel
theorem d_Tsk_isFreeToRun_22 : decode (xt_code m_Tsk_isFreeToRun) 22 = .ok (.goto 4, 3) := by decide +kernel
theorem d_Tsk_isFreeToRun_25 : decode (xt_code m_Tsk_isFreeToRun) 25 = .ok (.iconst 0, 1) := by decide +kernel
theorem d_Tsk_isFreeToRun_26 : decode (xt_code m_Tsk_isFreeToRun) 26 = .ok (.ireturn, 1) := by decide +kernel
theorem d_I_bitCount_0 : decode (xt_code m_I_bitCount) 0 = .ok (.iload_n 0, 1) := by decide +kernel
theorem d_I_bitCount_1 : decode (xt_code m_I_bitCount) 1 = .ok (.iload_n 0, 1) := by decide +kernel
theorem d_I_bitCount_2 : decode (xt_code m_I_bitCount) 2 = .ok (.iconst 1, 1) := by decide +kernel
theorem d_I_bitCount_3 : decode (xt_code m_I_bitCount) 3 = .ok (.iushr, 1) := by decide +kernel
theorem d_I_bitCount_4 : decode (xt_code m_I_bitCount) 4 = .ok (.ldc_w 265, 3) := by decide +kernel
theorem d_I_bitCount_7 : decode (xt_code m_I_bitCount) 7 = .ok (.iand, 1) := by decide +kernel
theorem d_I_bitCount_8 : decode (xt_code m_I_bitCount) 8 = .ok (.isub, 1) := by decide +kernel
theorem d_I_bitCount_9 : decode (xt_code m_I_bitCount) 9 = .ok (.istore_n 0, 1) := by decide +kernel
theorem d_I_bitCount_10 : decode (xt_code m_I_bitCount) 10 = .ok (.iload_n 0, 1) := by decide +kernel
theorem d_I_bitCount_11 : decode (xt_code m_I_bitCount) 11 = .ok (.ldc_w 266, 3) := by decide +kernel
theorem d_I_bitCount_14 : decode (xt_code m_I_bitCount) 14 = .ok (.iand, 1) := by decide +kernel
theorem d_I_bitCount_15 : decode (xt_code m_I_bitCount) 15 = .ok (.iload_n 0, 1) := by decide +kernel
theorem d_I_bitCount_16 : decode (xt_code m_I_bitCount) 16 = .ok (.iconst 2, 1) := by decide +kernel
theorem d_I_bitCount_17 : decode (xt_code m_I_bitCount) 17 = .ok (.iushr, 1) := by decide +kernel
theorem d_I_bitCount_18 : decode (xt_code m_I_bitCount) 18 = .ok (.ldc_w 266, 3) := by decide +kernel
theorem d_I_bitCount_21 : decode (xt_code m_I_bitCount) 21 = .ok (.iand, 1) := by decide +kernel
theorem d_I_bitCount_22 : decode (xt_code m_I_bitCount) 22 = .ok (.iadd, 1) := by decide +kernel
theorem d_I_bitCount_23 : decode (xt_code m_I_bitCount) 23 = .ok (.istore_n 0, 1) := by decide +kernel
theorem d_I_bitCount_24 : decode (xt_code m_I_bitCount) 24 = .ok (.iload_n 0, 1) := by decide +kernel
theorem d_I_bitCount_25 : decode (xt_code m_I_bitCount) 25 = .ok (.iload_n 0, 1) := by decide +kernel
theorem d_I_bitCount_26 : decode (xt_code m_I_bitCount) 26 = .ok (.iconst 4, 1) := by decide +kernel
theorem d_I_bitCount_27 : decode (xt_code m_I_bitCount) 27 = .ok (.iushr, 1) := by decide +kernel
theorem d_I_bitCount_28 : decode (xt_code m_I_bitCount) 28 = .ok (.iadd, 1) := by decide +kernel
theorem d_I_bitCount_29 : decode (xt_code m_I_bitCount) 29 = .ok (.ldc_w 267, 3) := by decide +kernel
theorem d_I_bitCount_32 : decode (xt_code m_I_bitCount) 32 = .ok (.iand, 1) := by decide +kernel
theorem d_I_bitCount_33 : decode (xt_code m_I_bitCount) 33 = .ok (.istore_n 0, 1) := by decide +kernel
theorem d_I_bitCount_34 : decode (xt_code m_I_bitCount) 34 = .ok (.iload_n 0, 1) := by decide +kernel
theorem d_I_bitCount_35 : decode (xt_code m_I_bitCount) 35 = .ok (.iload_n 0, 1) := by decide +kernel
theorem d_I_bitCount_36 : decode (xt_code m_I_bitCount) 36 = .ok (.bipush 8, 2) := by decide +kernel
theorem d_I_bitCount_38 : decode (xt_code m_I_bitCount) 38 = .ok (.iushr, 1) := by decide +kernel
theorem d_I_bitCount_39 : decode (xt_code m_I_bitCount) 39 = .ok (.iadd, 1) := by decide +kernel
theorem d_I_bitCount_40 : decode (xt_code m_I_bitCount) 40 = .ok (.istore_n 0, 1) := by decide +kernel
theorem d_I_bitCount_41 : decode (xt_code m_I_bitCount) 41 = .ok (.iload_n 0, 1) := by decide +kernel
theorem d_I_bitCount_42 : decode (xt_code m_I_bitCount) 42 = .ok (.iload_n 0, 1) := by decide +kernel
theorem d_I_bitCount_43 : decode (xt_code m_I_bitCount) 43 = .ok (.bipush 16, 2) := by decide +kernel
theorem d_I_bitCount_45 : decode (xt_code m_I_bitCount) 45 = .ok (.iushr, 1) := by decide +kernel
theorem d_I_bitCount_46 : decode (xt_code m_I_bitCount) 46 = .ok (.iadd, 1) := by decide +kernel
theorem d_I_bitCount_47 : decode (xt_code m_I_bitCount) 47 = .ok (.istore_n 0, 1) := by decide +kernel
theorem d_I_bitCount_48 : decode (xt_code m_I_bitCount) 48 = .ok (.iload_n 0, 1) := by decide +kernel
theorem d_I_bitCount_49 : decode (xt_code m_I_bitCount) 49 = .ok (.bipush 63, 2) := by decide +kernel
theorem d_I_bitCount_51 : decode (xt_code m_I_bitCount) 51 = .ok (.iand, 1) := by decide +kernel
theorem d_I_bitCount_52 : decode (xt_code m_I_bitCount) 52 = .ok (.ireturn, 1) := by decide +kernel
theorem d_S_approve_0 : decode (xt_code m_S_approve) 0 = .ok (.aload_n 0, 1) := by decide +kernel
theorem d_S_approve_1 : decode (xt_code m_S_approve) 1 = .ok (.iload_n 1, 1) := by decide +kernel
theorem d_S_approve_2 : decode (xt_code m_S_approve) 2 = .ok (.iload_n 2, 1) := by decide +kernel
theorem d_S_approve_3 : decode (xt_code m_S_approve) 3 = .ok (.invokevirtual 70, 3) := by decide +kernel
theorem d_S_approve_6 : decode (xt_code m_S_approve) 6 = .ok (.astore 4, 2) := by decide +kernel
theorem d_S_approve_8 : decode (xt_code m_S_approve) 8 = .ok (.aload 4, 2) := by decide +kernel
theorem d_S_approve_10 : decode (xt_code m_S_approve) 10 = .ok (.ifnull 29, 3) := by decide +kernel
theorem d_S_approve_13 : decode (xt_code m_S_approve) 13 = .ok (.iload_n 3, 1) := by decide +kernel
theorem d_S_approve_14 : decode (xt_code m_S_approve) 14 = .ok (.invokestatic 56, 3) := by decide +kernel
theorem d_S_approve_17 : decode (xt_code m_S_approve) 17 = .ok (.ifCond .eq 22, 3) := by decide +kernel
theorem d_S_approve_20 : decode (xt_code m_S_approve) 20 = .ok (.aload 4, 2) := by decide +kernel
theorem d_S_approve_22 : decode (xt_code m_S_approve) 22 = .ok (.getfield 74, 3) := by decide +kernel
theorem d_S_approve_25 : decode (xt_code m_S_approve) 25 = .ok (.getfield 80, 3) := by decide +kernel
theorem d_S_approve_28 : decode (xt_code m_S_approve) 28 = .ok (.ifCond .eq 11, 3) := by decide +kernel
theorem d_S_approve_31 : decode (xt_code m_S_approve) 31 = .ok (.aload 4, 2) := by decide +kernel
theorem d_S_approve_33 : decode (xt_code m_S_approve) 33 = .ok (.invokevirtual 84, 3) := by decide +kernel
theorem d_S_approve_36 : decode (xt_code m_S_approve) 36 = .ok (.ifCond .eq 5, 3) := by decide +kernel
theorem d_S_approve_39 : decode (xt_code m_S_approve) 39 = .ok (.iconst (-1), 1) := by decide +kernel
theorem d_S_approve_40 : decode (xt_code m_S_approve) 40 = .ok (.ireturn, 1) := by decide +kernel
theorem d_S_approve_41 : decode (xt_code m_S_approve) 41 = .ok (.iload_n 3, 1) := by decide +kernel
theorem d_S_approve_42 : decode (xt_code m_S_approve) 42 = .ok (.aload 4, 2) := by decide +kernel
theorem d_S_approve_44 : decode (xt_code m_S_approve) 44 = .ok (.getfield 88, 3) := by decide +kernel
theorem d_S_approve_47 : decode (xt_code m_S_approve) 47 = .ok (.getfield 92, 3) := by decide +kernel
theorem d_S_approve_50 : decode (xt_code m_S_approve) 50 = .ok (.if_icmp .ne 6, 3) := by decide +kernel
theorem d_S_approve_53 : decode (xt_code m_S_approve) 53 = .ok (.bipush (-2), 2) := by decide +kernel
theorem d_S_approve_55 : decode (xt_code m_S_approve) 55 = .ok (.ireturn, 1) := by decide +kernel
theorem d_S_approve_56 : decode (xt_code m_S_approve) 56 = .ok (.iconst 1, 1) := by decide +kernel
theorem d_S_approve_57 : decode (xt_code m_S_approve) 57 = .ok (.iload_n 3, 1) := by decide +kernel
theorem d_S_approve_58 : decode (xt_code m_S_approve) 58 = .ok (.ishl, 1) := by decide +kernel
theorem d_S_approve_59 : decode (xt_code m_S_approve) 59 = .ok (.istore 5, 2) := by decide +kernel
theorem d_S_approve_61 : decode (xt_code m_S_approve) 61 = .ok (.aload 4, 2) := by decide +kernel
theorem d_S_approve_63 : decode (xt_code m_S_approve) 63 = .ok (.getfield 95, 3) := by decide +kernel
theorem d_S_approve_66 : decode (xt_code m_S_approve) 66 = .ok (.iload 5, 2) := by decide +kernel
theorem d_S_approve_68 : decode (xt_code m_S_approve) 68 = .ok (.iand, 1) := by decide +kernel
theorem d_S_approve_69 : decode (xt_code m_S_approve) 69 = .ok (.ifCond .eq 5, 3) := by decide +kernel
theorem d_S_approve_72 : decode (xt_code m_S_approve) 72 = .ok (.iconst 0, 1) := by decide +kernel
theorem d_S_approve_73 : decode (xt_code m_S_approve) 73 = .ok (.ireturn, 1) := by decide +kernel
theorem d_S_approve_74 : decode (xt_code m_S_approve) 74 = .ok (.aload 4, 2) := by decide +kernel
theorem d_S_approve_76 : decode (xt_code m_S_approve) 76 = .ok (.dup, 1) := by decide +kernel
theorem d_S_approve_77 : decode (xt_code m_S_approve) 77 = .ok (.getfield 95, 3) := by decide +kernel
theorem d_S_approve_80 : decode (xt_code m_S_approve) 80 = .ok (.iload 5, 2) := by decide +kernel
theorem d_S_approve_82 : decode (xt_code m_S_approve) 82 = .ok (.ior, 1) := by decide +kernel
theorem d_S_approve_83 : decode (xt_code m_S_approve) 83 = .ok (.putfield 95, 3) := by decide +kernel
theorem d_S_approve_86 : decode (xt_code m_S_approve) 86 = .ok (.aload_n 0, 1) := by decide +kernel
theorem d_S_approve_87 : decode (xt_code m_S_approve) 87 = .ok (.invokevirtual 67, 3) := by decide +kernel
theorem d_S_approve_90 : decode (xt_code m_S_approve) 90 = .ok (.iconst 1, 1) := by decide +kernel
theorem d_S_approve_91 : decode (xt_code m_S_approve) 91 = .ok (.ireturn, 1) := by decide +kernel
theorem d_S_findTask_0 : decode (xt_code m_S_findTask) 0 = .ok (.aload_n 0, 1) := by decide +kernel
theorem d_S_findTask_1 : decode (xt_code m_S_findTask) 1 = .ok (.iload_n 1, 1) := by decide +kernel
theorem d_S_findTask_2 : decode (xt_code m_S_findTask) 2 = .ok (.invokevirtual 133, 3) := by decide +kernel
theorem d_S_findTask_5 : decode (xt_code m_S_findTask) 5 = .ok (.astore_n 3, 1) := by decide +kernel
theorem d_S_findTask_6 : decode (xt_code m_S_findTask) 6 = .ok (.aload_n 3, 1) := by decide +kernel
