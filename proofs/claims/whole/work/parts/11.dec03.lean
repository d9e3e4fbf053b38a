/-! decode rows, by program -/
theorem d_S_findTask_7 : decode (xt_code m_S_findTask) 7 = .ok (.ifnull 16, 3) := by decide +kernel
theorem d_S_findTask_10 : decode (xt_code m_S_findTask) 10 = .ok (.iload_n 2, 1) := by decide +kernel
theorem d_S_findTask_11 : decode (xt_code m_S_findTask) 11 = .ok (.ifCond .lt 12, 3) := by decide +kernel
theorem d_S_findTask_14 : decode (xt_code m_S_findTask) 14 = .ok (.iload_n 2, 1) := by decide +kernel
theorem d_S_findTask_15 : decode (xt_code m_S_findTask) 15 = .ok (.aload_n 3, 1) := by decide +kernel
theorem d_S_findTask_16 : decode (xt_code m_S_findTask) 16 = .ok (.getfield 171, 3) := by decide +kernel
theorem d_S_findTask_19 : decode (xt_code m_S_findTask) 19 = .ok (.arraylength, 1) := by decide +kernel
theorem d_S_findTask_20 : decode (xt_code m_S_findTask) 20 = .ok (.if_icmp .lt 5, 3) := by decide +kernel
theorem d_S_findTask_23 : decode (xt_code m_S_findTask) 23 = .ok (.aconst_null, 1) := by decide +kernel
theorem d_S_findTask_24 : decode (xt_code m_S_findTask) 24 = .ok (.areturn, 1) := by decide +kernel
theorem d_S_findTask_25 : decode (xt_code m_S_findTask) 25 = .ok (.aload_n 3, 1) := by decide +kernel
theorem d_S_findTask_26 : decode (xt_code m_S_findTask) 26 = .ok (.getfield 171, 3) := by decide +kernel
theorem d_S_findTask_29 : decode (xt_code m_S_findTask) 29 = .ok (.iload_n 2, 1) := by decide +kernel
theorem d_S_findTask_30 : decode (xt_code m_S_findTask) 30 = .ok (.aaload, 1) := by decide +kernel
theorem d_S_findTask_31 : decode (xt_code m_S_findTask) 31 = .ok (.areturn, 1) := by decide +kernel
theorem d_S_findRun_0 : decode (xt_code m_S_findRun) 0 = .ok (.iload_n 1, 1) := by decide +kernel
theorem d_S_findRun_1 : decode (xt_code m_S_findRun) 1 = .ok (.ifCond .lt 20, 3) := by decide +kernel
theorem d_S_findRun_4 : decode (xt_code m_S_findRun) 4 = .ok (.iload_n 1, 1) := by decide +kernel
theorem d_S_findRun_5 : decode (xt_code m_S_findRun) 5 = .ok (.aload_n 0, 1) := by decide +kernel
theorem d_S_findRun_6 : decode (xt_code m_S_findRun) 6 = .ok (.getfield 34, 3) := by decide +kernel
theorem d_S_findRun_9 : decode (xt_code m_S_findRun) 9 = .ok (.if_icmp .ge 12, 3) := by decide +kernel
theorem d_S_findRun_12 : decode (xt_code m_S_findRun) 12 = .ok (.aload_n 0, 1) := by decide +kernel
theorem d_S_findRun_13 : decode (xt_code m_S_findRun) 13 = .ok (.getfield 23, 3) := by decide +kernel
theorem d_S_findRun_16 : decode (xt_code m_S_findRun) 16 = .ok (.iload_n 1, 1) := by decide +kernel
theorem d_S_findRun_17 : decode (xt_code m_S_findRun) 17 = .ok (.aaload, 1) := by decide +kernel
theorem d_S_findRun_18 : decode (xt_code m_S_findRun) 18 = .ok (.goto 4, 3) := by decide +kernel
theorem d_S_findRun_21 : decode (xt_code m_S_findRun) 21 = .ok (.aconst_null, 1) := by decide +kernel
theorem d_S_findRun_22 : decode (xt_code m_S_findRun) 22 = .ok (.areturn, 1) := by decide +kernel
theorem d_S_take_0 : decode (xt_code m_S_take) 0 = .ok (.aload_n 0, 1) := by decide +kernel
theorem d_S_take_1 : decode (xt_code m_S_take) 1 = .ok (.iload_n 1, 1) := by decide +kernel
theorem d_S_take_2 : decode (xt_code m_S_take) 2 = .ok (.invokevirtual 98, 3) := by decide +kernel
theorem d_S_take_5 : decode (xt_code m_S_take) 5 = .ok (.astore_n 2, 1) := by decide +kernel
theorem d_S_take_6 : decode (xt_code m_S_take) 6 = .ok (.aload_n 2, 1) := by decide +kernel
theorem d_S_take_7 : decode (xt_code m_S_take) 7 = .ok (.ifnull 10, 3) := by decide +kernel
theorem d_S_take_10 : decode (xt_code m_S_take) 10 = .ok (.aload_n 2, 1) := by decide +kernel
theorem d_S_take_11 : decode (xt_code m_S_take) 11 = .ok (.getfield 102, 3) := by decide +kernel
theorem d_S_take_14 : decode (xt_code m_S_take) 14 = .ok (.ifnull 5, 3) := by decide +kernel
theorem d_S_take_17 : decode (xt_code m_S_take) 17 = .ok (.iconst (-1), 1) := by decide +kernel
theorem d_S_take_18 : decode (xt_code m_S_take) 18 = .ok (.ireturn, 1) := by decide +kernel
theorem d_S_take_19 : decode (xt_code m_S_take) 19 = .ok (.aload_n 0, 1) := by decide +kernel
theorem d_S_take_20 : decode (xt_code m_S_take) 20 = .ok (.aload_n 2, 1) := by decide +kernel
theorem d_S_take_21 : decode (xt_code m_S_take) 21 = .ok (.invokevirtual 106, 3) := by decide +kernel
theorem d_S_take_24 : decode (xt_code m_S_take) 24 = .ok (.astore_n 3, 1) := by decide +kernel
theorem d_S_take_25 : decode (xt_code m_S_take) 25 = .ok (.aload_n 3, 1) := by decide +kernel
theorem d_S_take_26 : decode (xt_code m_S_take) 26 = .ok (.ifnonnull 5, 3) := by decide +kernel
theorem d_S_take_29 : decode (xt_code m_S_take) 29 = .ok (.iconst (-1), 1) := by decide +kernel
theorem d_S_take_30 : decode (xt_code m_S_take) 30 = .ok (.ireturn, 1) := by decide +kernel
theorem d_S_take_31 : decode (xt_code m_S_take) 31 = .ok (.aload_n 3, 1) := by decide +kernel
theorem d_S_take_32 : decode (xt_code m_S_take) 32 = .ok (.aload_n 2, 1) := by decide +kernel
theorem d_S_take_33 : decode (xt_code m_S_take) 33 = .ok (.aload_n 0, 1) := by decide +kernel
theorem d_S_take_34 : decode (xt_code m_S_take) 34 = .ok (.getfield 37, 3) := by decide +kernel
theorem d_S_take_37 : decode (xt_code m_S_take) 37 = .ok (.invokevirtual 110, 3) := by decide +kernel
theorem d_S_take_40 : decode (xt_code m_S_take) 40 = .ok (.aload_n 3, 1) := by decide +kernel
theorem d_S_take_41 : decode (xt_code m_S_take) 41 = .ok (.invokevirtual 114, 3) := by decide +kernel
theorem d_S_take_44 : decode (xt_code m_S_take) 44 = .ok (.ireturn, 1) := by decide +kernel
theorem d_S_findRunner_0 : decode (xt_code m_S_findRunner) 0 = .ok (.iload_n 1, 1) := by decide +kernel
theorem d_S_findRunner_1 : decode (xt_code m_S_findRunner) 1 = .ok (.ifCond .lt 20, 3) := by decide +kernel
theorem d_S_findRunner_4 : decode (xt_code m_S_findRunner) 4 = .ok (.iload_n 1, 1) := by decide +kernel
theorem d_S_findRunner_5 : decode (xt_code m_S_findRunner) 5 = .ok (.aload_n 0, 1) := by decide +kernel
theorem d_S_findRunner_6 : decode (xt_code m_S_findRunner) 6 = .ok (.getfield 31, 3) := by decide +kernel
theorem d_S_findRunner_9 : decode (xt_code m_S_findRunner) 9 = .ok (.if_icmp .ge 12, 3) := by decide +kernel
theorem d_S_findRunner_12 : decode (xt_code m_S_findRunner) 12 = .ok (.aload_n 0, 1) := by decide +kernel
theorem d_S_findRunner_13 : decode (xt_code m_S_findRunner) 13 = .ok (.getfield 17, 3) := by decide +kernel
theorem d_S_findRunner_16 : decode (xt_code m_S_findRunner) 16 = .ok (.iload_n 1, 1) := by decide +kernel
theorem d_S_findRunner_17 : decode (xt_code m_S_findRunner) 17 = .ok (.aaload, 1) := by decide +kernel
theorem d_S_findRunner_18 : decode (xt_code m_S_findRunner) 18 = .ok (.goto 4, 3) := by decide +kernel
theorem d_S_findRunner_21 : decode (xt_code m_S_findRunner) 21 = .ok (.aconst_null, 1) := by decide +kernel
theorem d_S_findRunner_22 : decode (xt_code m_S_findRunner) 22 = .ok (.areturn, 1) := by decide +kernel
theorem d_S_nextFor_0 : decode (xt_code m_S_nextFor) 0 = .ok (.aconst_null, 1) := by decide +kernel
theorem d_S_nextFor_1 : decode (xt_code m_S_nextFor) 1 = .ok (.astore_n 2, 1) := by decide +kernel
theorem d_S_nextFor_2 : decode (xt_code m_S_nextFor) 2 = .ok (.iconst 0, 1) := by decide +kernel
theorem d_S_nextFor_3 : decode (xt_code m_S_nextFor) 3 = .ok (.istore_n 3, 1) := by decide +kernel
theorem d_S_nextFor_4 : decode (xt_code m_S_nextFor) 4 = .ok (.iload_n 3, 1) := by decide +kernel
theorem d_S_nextFor_5 : decode (xt_code m_S_nextFor) 5 = .ok (.aload_n 0, 1) := by decide +kernel
theorem d_S_nextFor_6 : decode (xt_code m_S_nextFor) 6 = .ok (.getfield 34, 3) := by decide +kernel
theorem d_S_nextFor_9 : decode (xt_code m_S_nextFor) 9 = .ok (.if_icmp .ge 55, 3) := by decide +kernel
theorem d_S_nextFor_12 : decode (xt_code m_S_nextFor) 12 = .ok (.aload_n 0, 1) := by decide +kernel
theorem d_S_nextFor_13 : decode (xt_code m_S_nextFor) 13 = .ok (.getfield 23, 3) := by decide +kernel
theorem d_S_nextFor_16 : decode (xt_code m_S_nextFor) 16 = .ok (.iload_n 3, 1) := by decide +kernel
theorem d_S_nextFor_17 : decode (xt_code m_S_nextFor) 17 = .ok (.aaload, 1) := by decide +kernel
theorem d_S_nextFor_18 : decode (xt_code m_S_nextFor) 18 = .ok (.aload_n 1, 1) := by decide +kernel
theorem d_S_nextFor_19 : decode (xt_code m_S_nextFor) 19 = .ok (.invokevirtual 187, 3) := by decide +kernel
theorem d_S_nextFor_22 : decode (xt_code m_S_nextFor) 22 = .ok (.astore 4, 2) := by decide +kernel
theorem d_S_nextFor_24 : decode (xt_code m_S_nextFor) 24 = .ok (.aload 4, 2) := by decide +kernel
theorem d_S_nextFor_26 : decode (xt_code m_S_nextFor) 26 = .ok (.ifnull 32, 3) := by decide +kernel
theorem d_S_nextFor_29 : decode (xt_code m_S_nextFor) 29 = .ok (.aload_n 2, 1) := by decide +kernel
theorem d_S_nextFor_30 : decode (xt_code m_S_nextFor) 30 = .ok (.ifnull 25, 3) := by decide +kernel
theorem d_S_nextFor_33 : decode (xt_code m_S_nextFor) 33 = .ok (.aload_n 0, 1) := by decide +kernel
theorem d_S_nextFor_34 : decode (xt_code m_S_nextFor) 34 = .ok (.aload 4, 2) := by decide +kernel
theorem d_S_nextFor_36 : decode (xt_code m_S_nextFor) 36 = .ok (.getfield 88, 3) := by decide +kernel
theorem d_S_nextFor_39 : decode (xt_code m_S_nextFor) 39 = .ok (.getfield 92, 3) := by decide +kernel
theorem d_S_nextFor_42 : decode (xt_code m_S_nextFor) 42 = .ok (.aload_n 2, 1) := by decide +kernel
theorem d_S_nextFor_43 : decode (xt_code m_S_nextFor) 43 = .ok (.getfield 88, 3) := by decide +kernel
theorem d_S_nextFor_46 : decode (xt_code m_S_nextFor) 46 = .ok (.getfield 92, 3) := by decide +kernel
theorem d_S_nextFor_49 : decode (xt_code m_S_nextFor) 49 = .ok (.invokevirtual 190, 3) := by decide +kernel
theorem d_S_nextFor_52 : decode (xt_code m_S_nextFor) 52 = .ok (.ifCond .eq 6, 3) := by decide +kernel
theorem d_S_nextFor_55 : decode (xt_code m_S_nextFor) 55 = .ok (.aload 4, 2) := by decide +kernel
theorem d_S_nextFor_57 : decode (xt_code m_S_nextFor) 57 = .ok (.astore_n 2, 1) := by decide +kernel
theorem d_S_nextFor_58 : decode (xt_code m_S_nextFor) 58 = .ok (.iinc 3 1, 3) := by decide +kernel
theorem d_S_nextFor_61 : decode (xt_code m_S_nextFor) 61 = .ok (.goto (-57), 3) := by decide +kernel
theorem d_S_nextFor_64 : decode (xt_code m_S_nextFor) 64 = .ok (.aload_n 2, 1) := by decide +kernel
theorem d_S_nextFor_65 : decode (xt_code m_S_nextFor) 65 = .ok (.areturn, 1) := by decide +kernel
theorem d_Run_firstReadyFor_0 : decode (xt_code m_Run_firstReadyFor) 0 = .ok (.iconst 0, 1) := by decide +kernel
theorem d_Run_firstReadyFor_1 : decode (xt_code m_Run_firstReadyFor) 1 = .ok (.istore_n 2, 1) := by decide +kernel
theorem d_Run_firstReadyFor_2 : decode (xt_code m_Run_firstReadyFor) 2 = .ok (.iload_n 2, 1) := by decide +kernel
theorem d_Run_firstReadyFor_3 : decode (xt_code m_Run_firstReadyFor) 3 = .ok (.aload_n 0, 1) := by decide +kernel
theorem d_Run_firstReadyFor_4 : decode (xt_code m_Run_firstReadyFor) 4 = .ok (.getfield 27, 3) := by decide +kernel
theorem d_Run_firstReadyFor_7 : decode (xt_code m_Run_firstReadyFor) 7 = .ok (.arraylength, 1) := by decide +kernel
theorem d_Run_firstReadyFor_8 : decode (xt_code m_Run_firstReadyFor) 8 = .ok (.if_icmp .ge 51, 3) := by decide +kernel
theorem d_Run_firstReadyFor_11 : decode (xt_code m_Run_firstReadyFor) 11 = .ok (.aload_n 0, 1) := by decide +kernel
theorem d_Run_firstReadyFor_12 : decode (xt_code m_Run_firstReadyFor) 12 = .ok (.getfield 27, 3) := by decide +kernel
theorem d_Run_firstReadyFor_15 : decode (xt_code m_Run_firstReadyFor) 15 = .ok (.iload_n 2, 1) := by decide +kernel
theorem d_Run_firstReadyFor_16 : decode (xt_code m_Run_firstReadyFor) 16 = .ok (.aaload, 1) := by decide +kernel
theorem d_Run_firstReadyFor_17 : decode (xt_code m_Run_firstReadyFor) 17 = .ok (.getfield 35, 3) := by decide +kernel
theorem d_Run_firstReadyFor_20 : decode (xt_code m_Run_firstReadyFor) 20 = .ok (.iconst 1, 1) := by decide +kernel
theorem d_Run_firstReadyFor_21 : decode (xt_code m_Run_firstReadyFor) 21 = .ok (.if_icmp .ne 32, 3) := by decide +kernel
theorem d_Run_firstReadyFor_24 : decode (xt_code m_Run_firstReadyFor) 24 = .ok (.aload_n 0, 1) := by decide +kernel
theorem d_Run_firstReadyFor_25 : decode (xt_code m_Run_firstReadyFor) 25 = .ok (.getfield 27, 3) := by decide +kernel
theorem d_Run_firstReadyFor_28 : decode (xt_code m_Run_firstReadyFor) 28 = .ok (.iload_n 2, 1) := by decide +kernel
theorem d_Run_firstReadyFor_29 : decode (xt_code m_Run_firstReadyFor) 29 = .ok (.aaload, 1) := by decide +kernel
theorem d_Run_firstReadyFor_30 : decode (xt_code m_Run_firstReadyFor) 30 = .ok (.getfield 44, 3) := by decide +kernel
theorem d_Run_firstReadyFor_33 : decode (xt_code m_Run_firstReadyFor) 33 = .ok (.getfield 70, 3) := by decide +kernel
theorem d_Run_firstReadyFor_36 : decode (xt_code m_Run_firstReadyFor) 36 = .ok (.aload_n 1, 1) := by decide +kernel
theorem d_Run_firstReadyFor_37 : decode (xt_code m_Run_firstReadyFor) 37 = .ok (.getfield 73, 3) := by decide +kernel
theorem d_Run_firstReadyFor_40 : decode (xt_code m_Run_firstReadyFor) 40 = .ok (.iconst (-1), 1) := by decide +kernel
theorem d_Run_firstReadyFor_41 : decode (xt_code m_Run_firstReadyFor) 41 = .ok (.ixor, 1) := by decide +kernel
theorem d_Run_firstReadyFor_42 : decode (xt_code m_Run_firstReadyFor) 42 = .ok (.iand, 1) := by decide +kernel
theorem d_Run_firstReadyFor_43 : decode (xt_code m_Run_firstReadyFor) 43 = .ok (.ifCond .ne 10, 3) := by decide +kernel
theorem d_Run_firstReadyFor_46 : decode (xt_code m_Run_firstReadyFor) 46 = .ok (.aload_n 0, 1) := by decide +kernel
theorem d_Run_firstReadyFor_47 : decode (xt_code m_Run_firstReadyFor) 47 = .ok (.getfield 27, 3) := by decide +kernel
theorem d_Run_firstReadyFor_50 : decode (xt_code m_Run_firstReadyFor) 50 = .ok (.iload_n 2, 1) := by decide +kernel
theorem d_Run_firstReadyFor_51 : decode (xt_code m_Run_firstReadyFor) 51 = .ok (.aaload, 1) := by decide +kernel
theorem d_Run_firstReadyFor_52 : decode (xt_code m_Run_firstReadyFor) 52 = .ok (.areturn, 1) := by decide +kernel
theorem d_Run_firstReadyFor_53 : decode (xt_code m_Run_firstReadyFor) 53 = .ok (.iinc 2 1, 3) := by decide +kernel
theorem d_Run_firstReadyFor_56 : decode (xt_code m_Run_firstReadyFor) 56 = .ok (.goto (-54), 3) := by decide +kernel
theorem d_Run_firstReadyFor_59 : decode (xt_code m_Run_firstReadyFor) 59 = .ok (.aconst_null, 1) := by decide +kernel
theorem d_Run_firstReadyFor_60 : decode (xt_code m_Run_firstReadyFor) 60 = .ok (.areturn, 1) := by decide +kernel
theorem d_S_isServedBefore_0 : decode (xt_code m_S_isServedBefore) 0 = .ok (.aload_n 0, 1) := by decide +kernel
theorem d_S_isServedBefore_1 : decode (xt_code m_S_isServedBefore) 1 = .ok (.iload_n 1, 1) := by decide +kernel
theorem d_S_isServedBefore_2 : decode (xt_code m_S_isServedBefore) 2 = .ok (.invokevirtual 194, 3) := by decide +kernel
theorem d_S_isServedBefore_5 : decode (xt_code m_S_isServedBefore) 5 = .ok (.istore_n 3, 1) := by decide +kernel
theorem d_S_isServedBefore_6 : decode (xt_code m_S_isServedBefore) 6 = .ok (.aload_n 0, 1) := by decide +kernel
theorem d_S_isServedBefore_7 : decode (xt_code m_S_isServedBefore) 7 = .ok (.iload_n 2, 1) := by decide +kernel
theorem d_S_isServedBefore_8 : decode (xt_code m_S_isServedBefore) 8 = .ok (.invokevirtual 194, 3) := by decide +kernel
theorem d_S_isServedBefore_11 : decode (xt_code m_S_isServedBefore) 11 = .ok (.istore 4, 2) := by decide +kernel
theorem d_S_isServedBefore_13 : decode (xt_code m_S_isServedBefore) 13 = .ok (.iload_n 3, 1) := by decide +kernel
theorem d_S_isServedBefore_14 : decode (xt_code m_S_isServedBefore) 14 = .ok (.iload 4, 2) := by decide +kernel
theorem d_S_isServedBefore_16 : decode (xt_code m_S_isServedBefore) 16 = .ok (.if_icmp .lt 14, 3) := by decide +kernel
theorem d_S_isServedBefore_19 : decode (xt_code m_S_isServedBefore) 19 = .ok (.iload_n 3, 1) := by decide +kernel
theorem d_S_isServedBefore_20 : decode (xt_code m_S_isServedBefore) 20 = .ok (.iload 4, 2) := by decide +kernel
theorem d_S_isServedBefore_22 : decode (xt_code m_S_isServedBefore) 22 = .ok (.if_icmp .ne 12, 3) := by decide +kernel
theorem d_S_isServedBefore_25 : decode (xt_code m_S_isServedBefore) 25 = .ok (.iload_n 1, 1) := by decide +kernel
theorem d_S_isServedBefore_26 : decode (xt_code m_S_isServedBefore) 26 = .ok (.iload_n 2, 1) := by decide +kernel
theorem d_S_isServedBefore_27 : decode (xt_code m_S_isServedBefore) 27 = .ok (.if_icmp .ge 7, 3) := by decide +kernel
theorem d_S_isServedBefore_30 : decode (xt_code m_S_isServedBefore) 30 = .ok (.iconst 1, 1) := by decide +kernel
theorem d_S_isServedBefore_31 : decode (xt_code m_S_isServedBefore) 31 = .ok (.goto 4, 3) := by decide +kernel
theorem d_S_isServedBefore_34 : decode (xt_code m_S_isServedBefore) 34 = .ok (.iconst 0, 1) := by decide +kernel
theorem d_S_isServedBefore_35 : decode (xt_code m_S_isServedBefore) 35 = .ok (.ireturn, 1) := by decide +kernel
theorem d_S_runningOf_0 : decode (xt_code m_S_runningOf) 0 = .ok (.iconst 0, 1) := by decide +kernel
theorem d_S_runningOf_1 : decode (xt_code m_S_runningOf) 1 = .ok (.istore_n 2, 1) := by decide +kernel
theorem d_S_runningOf_2 : decode (xt_code m_S_runningOf) 2 = .ok (.iconst 0, 1) := by decide +kernel
theorem d_S_runningOf_3 : decode (xt_code m_S_runningOf) 3 = .ok (.istore_n 3, 1) := by decide +kernel
theorem d_S_runningOf_4 : decode (xt_code m_S_runningOf) 4 = .ok (.iload_n 3, 1) := by decide +kernel
theorem d_S_runningOf_5 : decode (xt_code m_S_runningOf) 5 = .ok (.aload_n 0, 1) := by decide +kernel
theorem d_S_runningOf_6 : decode (xt_code m_S_runningOf) 6 = .ok (.getfield 31, 3) := by decide +kernel
theorem d_S_runningOf_9 : decode (xt_code m_S_runningOf) 9 = .ok (.if_icmp .ge 40, 3) := by decide +kernel
theorem d_S_runningOf_12 : decode (xt_code m_S_runningOf) 12 = .ok (.aload_n 0, 1) := by decide +kernel
theorem d_S_runningOf_13 : decode (xt_code m_S_runningOf) 13 = .ok (.getfield 17, 3) := by decide +kernel
theorem d_S_runningOf_16 : decode (xt_code m_S_runningOf) 16 = .ok (.iload_n 3, 1) := by decide +kernel
theorem d_S_runningOf_17 : decode (xt_code m_S_runningOf) 17 = .ok (.aaload, 1) := by decide +kernel
theorem d_S_runningOf_18 : decode (xt_code m_S_runningOf) 18 = .ok (.getfield 102, 3) := by decide +kernel
theorem d_S_runningOf_21 : decode (xt_code m_S_runningOf) 21 = .ok (.astore 4, 2) := by decide +kernel
theorem d_S_runningOf_23 : decode (xt_code m_S_runningOf) 23 = .ok (.aload 4, 2) := by decide +kernel
theorem d_S_runningOf_25 : decode (xt_code m_S_runningOf) 25 = .ok (.ifnull 18, 3) := by decide +kernel
theorem d_S_runningOf_28 : decode (xt_code m_S_runningOf) 28 = .ok (.aload 4, 2) := by decide +kernel
theorem d_S_runningOf_30 : decode (xt_code m_S_runningOf) 30 = .ok (.getfield 88, 3) := by decide +kernel
theorem d_S_runningOf_33 : decode (xt_code m_S_runningOf) 33 = .ok (.getfield 92, 3) := by decide +kernel
theorem d_S_runningOf_36 : decode (xt_code m_S_runningOf) 36 = .ok (.iload_n 1, 1) := by decide +kernel
theorem d_S_runningOf_37 : decode (xt_code m_S_runningOf) 37 = .ok (.if_icmp .ne 6, 3) := by decide +kernel
theorem d_S_runningOf_40 : decode (xt_code m_S_runningOf) 40 = .ok (.iinc 2 1, 3) := by decide +kernel
theorem d_S_runningOf_43 : decode (xt_code m_S_runningOf) 43 = .ok (.iinc 3 1, 3) := by decide +kernel
theorem d_S_runningOf_46 : decode (xt_code m_S_runningOf) 46 = .ok (.goto (-42), 3) := by decide +kernel
theorem d_S_runningOf_49 : decode (xt_code m_S_runningOf) 49 = .ok (.iload_n 2, 1) := by decide +kernel
theorem d_S_runningOf_50 : decode (xt_code m_S_runningOf) 50 = .ok (.ireturn, 1) := by decide +kernel
theorem d_Tsk_startOn_0 : decode (xt_code m_Tsk_startOn) 0 = .ok (.aload_n 0, 1) := by decide +kernel
theorem d_Tsk_startOn_1 : decode (xt_code m_Tsk_startOn) 1 = .ok (.iconst 2, 1) := by decide +kernel
theorem d_Tsk_startOn_2 : decode (xt_code m_Tsk_startOn) 2 = .ok (.putfield 9, 3) := by decide +kernel
theorem d_Tsk_startOn_5 : decode (xt_code m_Tsk_startOn) 5 = .ok (.aload_n 0, 1) := by decide +kernel
theorem d_Tsk_startOn_6 : decode (xt_code m_Tsk_startOn) 6 = .ok (.iload_n 2, 1) := by decide +kernel
theorem d_Tsk_startOn_7 : decode (xt_code m_Tsk_startOn) 7 = .ok (.putfield 19, 3) := by decide +kernel
theorem d_Tsk_startOn_10 : decode (xt_code m_Tsk_startOn) 10 = .ok (.aload_n 0, 1) := by decide +kernel
theorem d_Tsk_startOn_11 : decode (xt_code m_Tsk_startOn) 11 = .ok (.dup, 1) := by decide +kernel
theorem d_Tsk_startOn_12 : decode (xt_code m_Tsk_startOn) 12 = .ok (.getfield 28, 3) := by decide +kernel
theorem d_Tsk_startOn_15 : decode (xt_code m_Tsk_startOn) 15 = .ok (.iconst 1, 1) := by decide +kernel
theorem d_Tsk_startOn_16 : decode (xt_code m_Tsk_startOn) 16 = .ok (.iadd, 1) := by decide +kernel
theorem d_Tsk_startOn_17 : decode (xt_code m_Tsk_startOn) 17 = .ok (.putfield 28, 3) := by decide +kernel
theorem d_Tsk_startOn_20 : decode (xt_code m_Tsk_startOn) 20 = .ok (.aload_n 0, 1) := by decide +kernel
theorem d_Tsk_startOn_21 : decode (xt_code m_Tsk_startOn) 21 = .ok (.aload_n 1, 1) := by decide +kernel
theorem d_Tsk_startOn_22 : decode (xt_code m_Tsk_startOn) 22 = .ok (.putfield 15, 3) := by decide +kernel
theorem d_Tsk_startOn_25 : decode (xt_code m_Tsk_startOn) 25 = .ok (.aload_n 1, 1) := by decide +kernel
theorem d_Tsk_startOn_26 : decode (xt_code m_Tsk_startOn) 26 = .ok (.aload_n 0, 1) := by decide +kernel
theorem d_Tsk_startOn_27 : decode (xt_code m_Tsk_startOn) 27 = .ok (.putfield 72, 3) := by decide +kernel
theorem d_Tsk_startOn_30 : decode (xt_code m_Tsk_startOn) 30 = .ok (.aload_n 1, 1) := by decide +kernel
theorem d_Tsk_startOn_31 : decode (xt_code m_Tsk_startOn) 31 = .ok (.iload_n 2, 1) := by decide +kernel
theorem d_Tsk_startOn_32 : decode (xt_code m_Tsk_startOn) 32 = .ok (.putfield 76, 3) := by decide +kernel
theorem d_Tsk_startOn_35 : decode (xt_code m_Tsk_startOn) 35 = .ok (.return_, 1) := by decide +kernel
theorem d_Tsk_place_0 : decode (xt_code m_Tsk_place) 0 = .ok (.bipush 12, 2) := by decide +kernel
theorem d_Tsk_place_2 : decode (xt_code m_Tsk_place) 2 = .ok (.aload_n 0, 1) := by decide +kernel
theorem d_Tsk_place_3 : decode (xt_code m_Tsk_place) 3 = .ok (.getfield 41, 3) := by decide +kernel
theorem d_Tsk_place_6 : decode (xt_code m_Tsk_place) 6 = .ok (.getfield 52, 3) := by decide +kernel
theorem d_Tsk_place_9 : decode (xt_code m_Tsk_place) 9 = .ok (.imul, 1) := by decide +kernel
theorem d_Tsk_place_10 : decode (xt_code m_Tsk_place) 10 = .ok (.aload_n 0, 1) := by decide +kernel
theorem d_Tsk_place_11 : decode (xt_code m_Tsk_place) 11 = .ok (.getfield 45, 3) := by decide +kernel
theorem d_Tsk_place_14 : decode (xt_code m_Tsk_place) 14 = .ok (.iadd, 1) := by decide +kernel
theorem d_Tsk_place_15 : decode (xt_code m_Tsk_place) 15 = .ok (.ireturn, 1) := by decide +kernel
theorem d_S_beat_0 : decode (xt_code m_S_beat) 0 = .ok (.aload_n 0, 1) := by decide +kernel
theorem d_S_beat_1 : decode (xt_code m_S_beat) 1 = .ok (.iload_n 1, 1) := by decide +kernel
theorem d_S_beat_2 : decode (xt_code m_S_beat) 2 = .ok (.invokevirtual 98, 3) := by decide +kernel
theorem d_S_beat_5 : decode (xt_code m_S_beat) 5 = .ok (.astore_n 2, 1) := by decide +kernel
theorem d_S_beat_6 : decode (xt_code m_S_beat) 6 = .ok (.aload_n 2, 1) := by decide +kernel
theorem d_S_beat_7 : decode (xt_code m_S_beat) 7 = .ok (.ifnull 10, 3) := by decide +kernel
theorem d_S_beat_10 : decode (xt_code m_S_beat) 10 = .ok (.aload_n 2, 1) := by decide +kernel
theorem d_S_beat_11 : decode (xt_code m_S_beat) 11 = .ok (.getfield 102, 3) := by decide +kernel
theorem d_S_beat_14 : decode (xt_code m_S_beat) 14 = .ok (.ifnonnull 5, 3) := by decide +kernel
theorem d_S_beat_17 : decode (xt_code m_S_beat) 17 = .ok (.iconst 0, 1) := by decide +kernel
theorem d_S_beat_18 : decode (xt_code m_S_beat) 18 = .ok (.ireturn, 1) := by decide +kernel
theorem d_S_beat_19 : decode (xt_code m_S_beat) 19 = .ok (.aload_n 2, 1) := by decide +kernel
theorem d_S_beat_20 : decode (xt_code m_S_beat) 20 = .ok (.aload_n 0, 1) := by decide +kernel
theorem d_S_beat_21 : decode (xt_code m_S_beat) 21 = .ok (.getfield 37, 3) := by decide +kernel
theorem d_S_beat_24 : decode (xt_code m_S_beat) 24 = .ok (.putfield 118, 3) := by decide +kernel
theorem d_S_beat_27 : decode (xt_code m_S_beat) 27 = .ok (.iconst 1, 1) := by decide +kernel
theorem d_S_beat_28 : decode (xt_code m_S_beat) 28 = .ok (.ireturn, 1) := by decide +kernel
theorem d_S_end_0 : decode (xt_code m_S_end) 0 = .ok (.aload_n 0, 1) := by decide +kernel
theorem d_S_end_1 : decode (xt_code m_S_end) 1 = .ok (.iload_n 1, 1) := by decide +kernel
theorem d_S_end_2 : decode (xt_code m_S_end) 2 = .ok (.invokevirtual 98, 3) := by decide +kernel
theorem d_S_end_5 : decode (xt_code m_S_end) 5 = .ok (.astore 4, 2) := by decide +kernel
theorem d_S_end_7 : decode (xt_code m_S_end) 7 = .ok (.aload 4, 2) := by decide +kernel
theorem d_S_end_9 : decode (xt_code m_S_end) 9 = .ok (.ifnonnull 5, 3) := by decide +kernel
theorem d_S_end_12 : decode (xt_code m_S_end) 12 = .ok (.iconst 0, 1) := by decide +kernel
theorem d_S_end_13 : decode (xt_code m_S_end) 13 = .ok (.ireturn, 1) := by decide +kernel
theorem d_S_end_14 : decode (xt_code m_S_end) 14 = .ok (.aload 4, 2) := by decide +kernel
theorem d_S_end_16 : decode (xt_code m_S_end) 16 = .ok (.getfield 102, 3) := by decide +kernel
theorem d_S_end_19 : decode (xt_code m_S_end) 19 = .ok (.astore 5, 2) := by decide +kernel
theorem d_S_end_21 : decode (xt_code m_S_end) 21 = .ok (.aload 5, 2) := by decide +kernel
theorem d_S_end_23 : decode (xt_code m_S_end) 23 = .ok (.ifnonnull 5, 3) := by decide +kernel
theorem d_S_end_26 : decode (xt_code m_S_end) 26 = .ok (.iconst 0, 1) := by decide +kernel
theorem d_S_end_27 : decode (xt_code m_S_end) 27 = .ok (.ireturn, 1) := by decide +kernel
theorem d_S_end_28 : decode (xt_code m_S_end) 28 = .ok (.iload_n 2, 1) := by decide +kernel
theorem d_S_end_29 : decode (xt_code m_S_end) 29 = .ok (.ifCond .eq 12, 3) := by decide +kernel
theorem d_S_end_32 : decode (xt_code m_S_end) 32 = .ok (.aload 5, 2) := by decide +kernel
theorem d_S_end_34 : decode (xt_code m_S_end) 34 = .ok (.iload_n 3, 1) := by decide +kernel
theorem d_S_end_35 : decode (xt_code m_S_end) 35 = .ok (.invokevirtual 121, 3) := by decide +kernel
theorem d_S_end_38 : decode (xt_code m_S_end) 38 = .ok (.goto 8, 3) := by decide +kernel
theorem d_S_end_41 : decode (xt_code m_S_end) 41 = .ok (.aload 5, 2) := by decide +kernel
theorem d_S_end_43 : decode (xt_code m_S_end) 43 = .ok (.invokevirtual 124, 3) := by decide +kernel
theorem d_S_end_46 : decode (xt_code m_S_end) 46 = .ok (.aload_n 0, 1) := by decide +kernel
theorem d_S_end_47 : decode (xt_code m_S_end) 47 = .ok (.invokevirtual 67, 3) := by decide +kernel
theorem d_S_end_50 : decode (xt_code m_S_end) 50 = .ok (.iconst 1, 1) := by decide +kernel
theorem d_S_end_51 : decode (xt_code m_S_end) 51 = .ok (.ireturn, 1) := by decide +kernel
theorem d_Tsk_finish_0 : decode (xt_code m_Tsk_finish) 0 = .ok (.aload_n 0, 1) := by decide +kernel
theorem d_Tsk_finish_1 : decode (xt_code m_Tsk_finish) 1 = .ok (.invokevirtual 79, 3) := by decide +kernel
theorem d_Tsk_finish_4 : decode (xt_code m_Tsk_finish) 4 = .ok (.aload_n 0, 1) := by decide +kernel
theorem d_Tsk_finish_5 : decode (xt_code m_Tsk_finish) 5 = .ok (.iload_n 1, 1) := by decide +kernel
theorem d_Tsk_finish_6 : decode (xt_code m_Tsk_finish) 6 = .ok (.putfield 25, 3) := by decide +kernel
theorem d_Tsk_finish_9 : decode (xt_code m_Tsk_finish) 9 = .ok (.aload_n 0, 1) := by decide +kernel
theorem d_Tsk_finish_10 : decode (xt_code m_Tsk_finish) 10 = .ok (.iconst 3, 1) := by decide +kernel
theorem d_Tsk_finish_11 : decode (xt_code m_Tsk_finish) 11 = .ok (.putfield 9, 3) := by decide +kernel
theorem d_Tsk_finish_14 : decode (xt_code m_Tsk_finish) 14 = .ok (.return_, 1) := by decide +kernel
theorem d_Tsk_failTry_0 : decode (xt_code m_Tsk_failTry) 0 = .ok (.aload_n 0, 1) := by decide +kernel
theorem d_Tsk_failTry_1 : decode (xt_code m_Tsk_failTry) 1 = .ok (.invokevirtual 79, 3) := by decide +kernel
theorem d_Tsk_failTry_4 : decode (xt_code m_Tsk_failTry) 4 = .ok (.aload_n 0, 1) := by decide +kernel
theorem d_Tsk_failTry_5 : decode (xt_code m_Tsk_failTry) 5 = .ok (.dup, 1) := by decide +kernel
theorem d_Tsk_failTry_6 : decode (xt_code m_Tsk_failTry) 6 = .ok (.getfield 34, 3) := by decide +kernel
theorem d_Tsk_failTry_9 : decode (xt_code m_Tsk_failTry) 9 = .ok (.iconst 1, 1) := by decide +kernel
theorem d_Tsk_failTry_10 : decode (xt_code m_Tsk_failTry) 10 = .ok (.iadd, 1) := by decide +kernel
theorem d_Tsk_failTry_11 : decode (xt_code m_Tsk_failTry) 11 = .ok (.putfield 34, 3) := by decide +kernel
theorem d_Tsk_failTry_14 : decode (xt_code m_Tsk_failTry) 14 = .ok (.aload_n 0, 1) := by decide +kernel
theorem d_Tsk_failTry_15 : decode (xt_code m_Tsk_failTry) 15 = .ok (.aload_n 0, 1) := by decide +kernel
theorem d_Tsk_failTry_16 : decode (xt_code m_Tsk_failTry) 16 = .ok (.getfield 34, 3) := by decide +kernel
theorem d_Tsk_failTry_19 : decode (xt_code m_Tsk_failTry) 19 = .ok (.aload_n 0, 1) := by decide +kernel
theorem d_Tsk_failTry_20 : decode (xt_code m_Tsk_failTry) 20 = .ok (.getfield 48, 3) := by decide +kernel
theorem d_Tsk_failTry_23 : decode (xt_code m_Tsk_failTry) 23 = .ok (.getfield 82, 3) := by decide +kernel
theorem d_Tsk_failTry_26 : decode (xt_code m_Tsk_failTry) 26 = .ok (.if_icmp .gt 7, 3) := by decide +kernel
theorem d_Tsk_failTry_29 : decode (xt_code m_Tsk_failTry) 29 = .ok (.iconst 1, 1) := by decide +kernel
theorem d_Tsk_failTry_30 : decode (xt_code m_Tsk_failTry) 30 = .ok (.goto 4, 3) := by decide +kernel
theorem d_Tsk_failTry_33 : decode (xt_code m_Tsk_failTry) 33 = .ok (.iconst 4, 1) := by decide +kernel
theorem d_Tsk_failTry_34 : decode (xt_code m_Tsk_failTry) 34 = .ok (.putfield 9, 3) := by decide +kernel
theorem d_Tsk_failTry_37 : decode (xt_code m_Tsk_failTry) 37 = .ok (.return_, 1) := by decide +kernel
theorem d_S_tick_0 : decode (xt_code m_S_tick) 0 = .ok (.iload_n 1, 1) := by decide +kernel
theorem d_S_tick_1 : decode (xt_code m_S_tick) 1 = .ok (.ifCond .lt 10, 3) := by decide +kernel
theorem d_S_tick_4 : decode (xt_code m_S_tick) 4 = .ok (.iload_n 1, 1) := by decide +kernel
theorem d_S_tick_5 : decode (xt_code m_S_tick) 5 = .ok (.sipush 1000, 3) := by decide +kernel
theorem d_S_tick_8 : decode (xt_code m_S_tick) 8 = .ok (.if_icmp .le 5, 3) := by decide +kernel
theorem d_S_tick_11 : decode (xt_code m_S_tick) 11 = .ok (.iconst (-1), 1) := by decide +kernel
theorem d_S_tick_12 : decode (xt_code m_S_tick) 12 = .ok (.ireturn, 1) := by decide +kernel
theorem d_S_tick_13 : decode (xt_code m_S_tick) 13 = .ok (.aload_n 0, 1) := by decide +kernel
theorem d_S_tick_14 : decode (xt_code m_S_tick) 14 = .ok (.getfield 37, 3) := by decide +kernel
theorem d_S_tick_17 : decode (xt_code m_S_tick) 17 = .ok (.iload_n 1, 1) := by decide +kernel
theorem d_S_tick_18 : decode (xt_code m_S_tick) 18 = .ok (.iadd, 1) := by decide +kernel
theorem d_S_tick_19 : decode (xt_code m_S_tick) 19 = .ok (.istore_n 2, 1) := by decide +kernel
theorem d_S_tick_20 : decode (xt_code m_S_tick) 20 = .ok (.iconst 0, 1) := by decide +kernel
theorem d_S_tick_21 : decode (xt_code m_S_tick) 21 = .ok (.istore_n 3, 1) := by decide +kernel
theorem d_S_tick_22 : decode (xt_code m_S_tick) 22 = .ok (.iload_n 3, 1) := by decide +kernel
theorem d_S_tick_23 : decode (xt_code m_S_tick) 23 = .ok (.iload_n 1, 1) := by decide +kernel
theorem d_S_tick_24 : decode (xt_code m_S_tick) 24 = .ok (.if_icmp .ge 30, 3) := by decide +kernel
theorem d_S_tick_27 : decode (xt_code m_S_tick) 27 = .ok (.aload_n 0, 1) := by decide +kernel
theorem d_S_tick_28 : decode (xt_code m_S_tick) 28 = .ok (.invokevirtual 127, 3) := by decide +kernel
theorem d_S_tick_31 : decode (xt_code m_S_tick) 31 = .ok (.ifCond .eq 23, 3) := by decide +kernel
theorem d_S_tick_34 : decode (xt_code m_S_tick) 34 = .ok (.aload_n 0, 1) := by decide +kernel
theorem d_S_tick_35 : decode (xt_code m_S_tick) 35 = .ok (.dup, 1) := by decide +kernel
theorem d_S_tick_36 : decode (xt_code m_S_tick) 36 = .ok (.getfield 37, 3) := by decide +kernel
theorem d_S_tick_39 : decode (xt_code m_S_tick) 39 = .ok (.iconst 1, 1) := by decide +kernel
theorem d_S_tick_40 : decode (xt_code m_S_tick) 40 = .ok (.iadd, 1) := by decide +kernel
theorem d_S_tick_41 : decode (xt_code m_S_tick) 41 = .ok (.putfield 37, 3) := by decide +kernel
theorem d_S_tick_44 : decode (xt_code m_S_tick) 44 = .ok (.aload_n 0, 1) := by decide +kernel
theorem d_S_tick_45 : decode (xt_code m_S_tick) 45 = .ok (.invokevirtual 130, 3) := by decide +kernel
theorem d_S_tick_48 : decode (xt_code m_S_tick) 48 = .ok (.iinc 3 1, 3) := by decide +kernel
theorem d_S_tick_51 : decode (xt_code m_S_tick) 51 = .ok (.goto (-29), 3) := by decide +kernel
theorem d_S_tick_54 : decode (xt_code m_S_tick) 54 = .ok (.aload_n 0, 1) := by decide +kernel
theorem d_S_tick_55 : decode (xt_code m_S_tick) 55 = .ok (.iload_n 2, 1) := by decide +kernel
theorem d_S_tick_56 : decode (xt_code m_S_tick) 56 = .ok (.putfield 37, 3) := by decide +kernel
theorem d_S_tick_59 : decode (xt_code m_S_tick) 59 = .ok (.aload_n 0, 1) := by decide +kernel
theorem d_S_tick_60 : decode (xt_code m_S_tick) 60 = .ok (.invokevirtual 67, 3) := by decide +kernel
theorem d_S_tick_63 : decode (xt_code m_S_tick) 63 = .ok (.aload_n 0, 1) := by decide +kernel
theorem d_S_tick_64 : decode (xt_code m_S_tick) 64 = .ok (.getfield 37, 3) := by decide +kernel
theorem d_S_tick_67 : decode (xt_code m_S_tick) 67 = .ok (.ireturn, 1) := by decide +kernel
theorem d_S_isAnyRunnerBusy_0 : decode (xt_code m_S_isAnyRunnerBusy) 0 = .ok (.iconst 0, 1) := by decide +kernel
theorem d_S_isAnyRunnerBusy_1 : decode (xt_code m_S_isAnyRunnerBusy) 1 = .ok (.istore_n 1, 1) := by decide +kernel
theorem d_S_isAnyRunnerBusy_2 : decode (xt_code m_S_isAnyRunnerBusy) 2 = .ok (.iload_n 1, 1) := by decide +kernel
theorem d_S_isAnyRunnerBusy_3 : decode (xt_code m_S_isAnyRunnerBusy) 3 = .ok (.aload_n 0, 1) := by decide +kernel
