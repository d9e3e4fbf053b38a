/-! decode rows, by program -/
theorem d_S_isAnyRunnerBusy_4 : decode (xt_code m_S_isAnyRunnerBusy) 4 = .ok (.getfield 31, 3) := by decide +kernel
theorem d_S_isAnyRunnerBusy_7 : decode (xt_code m_S_isAnyRunnerBusy) 7 = .ok (.if_icmp .ge 23, 3) := by decide +kernel
theorem d_S_isAnyRunnerBusy_10 : decode (xt_code m_S_isAnyRunnerBusy) 10 = .ok (.aload_n 0, 1) := by decide +kernel
theorem d_S_isAnyRunnerBusy_11 : decode (xt_code m_S_isAnyRunnerBusy) 11 = .ok (.getfield 17, 3) := by decide +kernel
theorem d_S_isAnyRunnerBusy_14 : decode (xt_code m_S_isAnyRunnerBusy) 14 = .ok (.iload_n 1, 1) := by decide +kernel
theorem d_S_isAnyRunnerBusy_15 : decode (xt_code m_S_isAnyRunnerBusy) 15 = .ok (.aaload, 1) := by decide +kernel
theorem d_S_isAnyRunnerBusy_16 : decode (xt_code m_S_isAnyRunnerBusy) 16 = .ok (.getfield 102, 3) := by decide +kernel
theorem d_S_isAnyRunnerBusy_19 : decode (xt_code m_S_isAnyRunnerBusy) 19 = .ok (.ifnull 5, 3) := by decide +kernel
theorem d_S_isAnyRunnerBusy_22 : decode (xt_code m_S_isAnyRunnerBusy) 22 = .ok (.iconst 1, 1) := by decide +kernel
theorem d_S_isAnyRunnerBusy_23 : decode (xt_code m_S_isAnyRunnerBusy) 23 = .ok (.ireturn, 1) := by decide +kernel
theorem d_S_isAnyRunnerBusy_24 : decode (xt_code m_S_isAnyRunnerBusy) 24 = .ok (.iinc 1 1, 3) := by decide +kernel
theorem d_S_isAnyRunnerBusy_27 : decode (xt_code m_S_isAnyRunnerBusy) 27 = .ok (.goto (-25), 3) := by decide +kernel
theorem d_S_isAnyRunnerBusy_30 : decode (xt_code m_S_isAnyRunnerBusy) 30 = .ok (.iconst 0, 1) := by decide +kernel
theorem d_S_isAnyRunnerBusy_31 : decode (xt_code m_S_isAnyRunnerBusy) 31 = .ok (.ireturn, 1) := by decide +kernel
theorem d_S_checkRunners_0 : decode (xt_code m_S_checkRunners) 0 = .ok (.iconst 0, 1) := by decide +kernel
theorem d_S_checkRunners_1 : decode (xt_code m_S_checkRunners) 1 = .ok (.istore_n 1, 1) := by decide +kernel
theorem d_S_checkRunners_2 : decode (xt_code m_S_checkRunners) 2 = .ok (.iload_n 1, 1) := by decide +kernel
theorem d_S_checkRunners_3 : decode (xt_code m_S_checkRunners) 3 = .ok (.aload_n 0, 1) := by decide +kernel
theorem d_S_checkRunners_4 : decode (xt_code m_S_checkRunners) 4 = .ok (.getfield 31, 3) := by decide +kernel
theorem d_S_checkRunners_7 : decode (xt_code m_S_checkRunners) 7 = .ok (.if_icmp .ge 66, 3) := by decide +kernel
theorem d_S_checkRunners_10 : decode (xt_code m_S_checkRunners) 10 = .ok (.aload_n 0, 1) := by decide +kernel
theorem d_S_checkRunners_11 : decode (xt_code m_S_checkRunners) 11 = .ok (.getfield 17, 3) := by decide +kernel
theorem d_S_checkRunners_14 : decode (xt_code m_S_checkRunners) 14 = .ok (.iload_n 1, 1) := by decide +kernel
theorem d_S_checkRunners_15 : decode (xt_code m_S_checkRunners) 15 = .ok (.aaload, 1) := by decide +kernel
theorem d_S_checkRunners_16 : decode (xt_code m_S_checkRunners) 16 = .ok (.getfield 102, 3) := by decide +kernel
theorem d_S_checkRunners_19 : decode (xt_code m_S_checkRunners) 19 = .ok (.astore_n 2, 1) := by decide +kernel
theorem d_S_checkRunners_20 : decode (xt_code m_S_checkRunners) 20 = .ok (.aload_n 2, 1) := by decide +kernel
theorem d_S_checkRunners_21 : decode (xt_code m_S_checkRunners) 21 = .ok (.ifnull 46, 3) := by decide +kernel
theorem d_S_checkRunners_24 : decode (xt_code m_S_checkRunners) 24 = .ok (.aload_n 0, 1) := by decide +kernel
theorem d_S_checkRunners_25 : decode (xt_code m_S_checkRunners) 25 = .ok (.getfield 37, 3) := by decide +kernel
theorem d_S_checkRunners_28 : decode (xt_code m_S_checkRunners) 28 = .ok (.aload_n 0, 1) := by decide +kernel
theorem d_S_checkRunners_29 : decode (xt_code m_S_checkRunners) 29 = .ok (.getfield 17, 3) := by decide +kernel
theorem d_S_checkRunners_32 : decode (xt_code m_S_checkRunners) 32 = .ok (.iload_n 1, 1) := by decide +kernel
theorem d_S_checkRunners_33 : decode (xt_code m_S_checkRunners) 33 = .ok (.aaload, 1) := by decide +kernel
theorem d_S_checkRunners_34 : decode (xt_code m_S_checkRunners) 34 = .ok (.getfield 118, 3) := by decide +kernel
theorem d_S_checkRunners_37 : decode (xt_code m_S_checkRunners) 37 = .ok (.isub, 1) := by decide +kernel
theorem d_S_checkRunners_38 : decode (xt_code m_S_checkRunners) 38 = .ok (.aload_n 0, 1) := by decide +kernel
theorem d_S_checkRunners_39 : decode (xt_code m_S_checkRunners) 39 = .ok (.getfield 40, 3) := by decide +kernel
theorem d_S_checkRunners_42 : decode (xt_code m_S_checkRunners) 42 = .ok (.if_icmp .le 10, 3) := by decide +kernel
theorem d_S_checkRunners_45 : decode (xt_code m_S_checkRunners) 45 = .ok (.aload_n 2, 1) := by decide +kernel
theorem d_S_checkRunners_46 : decode (xt_code m_S_checkRunners) 46 = .ok (.invokevirtual 198, 3) := by decide +kernel
theorem d_S_checkRunners_49 : decode (xt_code m_S_checkRunners) 49 = .ok (.goto 18, 3) := by decide +kernel
theorem d_S_checkRunners_52 : decode (xt_code m_S_checkRunners) 52 = .ok (.aload_n 2, 1) := by decide +kernel
theorem d_S_checkRunners_53 : decode (xt_code m_S_checkRunners) 53 = .ok (.aload_n 0, 1) := by decide +kernel
theorem d_S_checkRunners_54 : decode (xt_code m_S_checkRunners) 54 = .ok (.getfield 37, 3) := by decide +kernel
theorem d_S_checkRunners_57 : decode (xt_code m_S_checkRunners) 57 = .ok (.invokevirtual 201, 3) := by decide +kernel
theorem d_S_checkRunners_60 : decode (xt_code m_S_checkRunners) 60 = .ok (.ifCond .eq 7, 3) := by decide +kernel
theorem d_S_checkRunners_63 : decode (xt_code m_S_checkRunners) 63 = .ok (.aload_n 2, 1) := by decide +kernel
theorem d_S_checkRunners_64 : decode (xt_code m_S_checkRunners) 64 = .ok (.invokevirtual 124, 3) := by decide +kernel
theorem d_S_checkRunners_67 : decode (xt_code m_S_checkRunners) 67 = .ok (.iinc 1 1, 3) := by decide +kernel
theorem d_S_checkRunners_70 : decode (xt_code m_S_checkRunners) 70 = .ok (.goto (-68), 3) := by decide +kernel
theorem d_S_checkRunners_73 : decode (xt_code m_S_checkRunners) 73 = .ok (.return_, 1) := by decide +kernel
theorem d_Tsk_loseRunner_0 : decode (xt_code m_Tsk_loseRunner) 0 = .ok (.aload_n 0, 1) := by decide +kernel
theorem d_Tsk_loseRunner_1 : decode (xt_code m_Tsk_loseRunner) 1 = .ok (.invokevirtual 79, 3) := by decide +kernel
theorem d_Tsk_loseRunner_4 : decode (xt_code m_Tsk_loseRunner) 4 = .ok (.aload_n 0, 1) := by decide +kernel
theorem d_Tsk_loseRunner_5 : decode (xt_code m_Tsk_loseRunner) 5 = .ok (.dup, 1) := by decide +kernel
theorem d_Tsk_loseRunner_6 : decode (xt_code m_Tsk_loseRunner) 6 = .ok (.getfield 31, 3) := by decide +kernel
theorem d_Tsk_loseRunner_9 : decode (xt_code m_Tsk_loseRunner) 9 = .ok (.iconst 1, 1) := by decide +kernel
theorem d_Tsk_loseRunner_10 : decode (xt_code m_Tsk_loseRunner) 10 = .ok (.iadd, 1) := by decide +kernel
theorem d_Tsk_loseRunner_11 : decode (xt_code m_Tsk_loseRunner) 11 = .ok (.putfield 31, 3) := by decide +kernel
theorem d_Tsk_loseRunner_14 : decode (xt_code m_Tsk_loseRunner) 14 = .ok (.aload_n 0, 1) := by decide +kernel
theorem d_Tsk_loseRunner_15 : decode (xt_code m_Tsk_loseRunner) 15 = .ok (.aload_n 0, 1) := by decide +kernel
theorem d_Tsk_loseRunner_16 : decode (xt_code m_Tsk_loseRunner) 16 = .ok (.getfield 37, 3) := by decide +kernel
theorem d_Tsk_loseRunner_19 : decode (xt_code m_Tsk_loseRunner) 19 = .ok (.ifCond .eq 7, 3) := by decide +kernel
theorem d_Tsk_loseRunner_22 : decode (xt_code m_Tsk_loseRunner) 22 = .ok (.iconst 4, 1) := by decide +kernel
theorem d_Tsk_loseRunner_23 : decode (xt_code m_Tsk_loseRunner) 23 = .ok (.goto 4, 3) := by decide +kernel
theorem d_Tsk_loseRunner_26 : decode (xt_code m_Tsk_loseRunner) 26 = .ok (.iconst 1, 1) := by decide +kernel
theorem d_Tsk_loseRunner_27 : decode (xt_code m_Tsk_loseRunner) 27 = .ok (.putfield 9, 3) := by decide +kernel
theorem d_Tsk_loseRunner_30 : decode (xt_code m_Tsk_loseRunner) 30 = .ok (.aload_n 0, 1) := by decide +kernel
theorem d_Tsk_loseRunner_31 : decode (xt_code m_Tsk_loseRunner) 31 = .ok (.iconst 1, 1) := by decide +kernel
theorem d_Tsk_loseRunner_32 : decode (xt_code m_Tsk_loseRunner) 32 = .ok (.putfield 37, 3) := by decide +kernel
theorem d_Tsk_loseRunner_35 : decode (xt_code m_Tsk_loseRunner) 35 = .ok (.return_, 1) := by decide +kernel
theorem d_Tsk_isPastLimit_0 : decode (xt_code m_Tsk_isPastLimit) 0 = .ok (.aload_n 0, 1) := by decide +kernel
theorem d_Tsk_isPastLimit_1 : decode (xt_code m_Tsk_isPastLimit) 1 = .ok (.getfield 48, 3) := by decide +kernel
theorem d_Tsk_isPastLimit_4 : decode (xt_code m_Tsk_isPastLimit) 4 = .ok (.getfield 66, 3) := by decide +kernel
theorem d_Tsk_isPastLimit_7 : decode (xt_code m_Tsk_isPastLimit) 7 = .ok (.ifCond .le 23, 3) := by decide +kernel
theorem d_Tsk_isPastLimit_10 : decode (xt_code m_Tsk_isPastLimit) 10 = .ok (.iload_n 1, 1) := by decide +kernel
theorem d_Tsk_isPastLimit_11 : decode (xt_code m_Tsk_isPastLimit) 11 = .ok (.aload_n 0, 1) := by decide +kernel
theorem d_Tsk_isPastLimit_12 : decode (xt_code m_Tsk_isPastLimit) 12 = .ok (.getfield 19, 3) := by decide +kernel
theorem d_Tsk_isPastLimit_15 : decode (xt_code m_Tsk_isPastLimit) 15 = .ok (.isub, 1) := by decide +kernel
theorem d_Tsk_isPastLimit_16 : decode (xt_code m_Tsk_isPastLimit) 16 = .ok (.aload_n 0, 1) := by decide +kernel
theorem d_Tsk_isPastLimit_17 : decode (xt_code m_Tsk_isPastLimit) 17 = .ok (.getfield 48, 3) := by decide +kernel
theorem d_Tsk_isPastLimit_20 : decode (xt_code m_Tsk_isPastLimit) 20 = .ok (.getfield 66, 3) := by decide +kernel
theorem d_Tsk_isPastLimit_23 : decode (xt_code m_Tsk_isPastLimit) 23 = .ok (.if_icmp .lt 7, 3) := by decide +kernel
theorem d_Tsk_isPastLimit_26 : decode (xt_code m_Tsk_isPastLimit) 26 = .ok (.iconst 1, 1) := by decide +kernel
theorem d_Tsk_isPastLimit_27 : decode (xt_code m_Tsk_isPastLimit) 27 = .ok (.goto 4, 3) := by decide +kernel
theorem d_Tsk_isPastLimit_30 : decode (xt_code m_Tsk_isPastLimit) 30 = .ok (.iconst 0, 1) := by decide +kernel
theorem d_Tsk_isPastLimit_31 : decode (xt_code m_Tsk_isPastLimit) 31 = .ok (.ireturn, 1) := by decide +kernel
theorem d_S_cancel_0 : decode (xt_code m_S_cancel) 0 = .ok (.aload_n 0, 1) := by decide +kernel
theorem d_S_cancel_1 : decode (xt_code m_S_cancel) 1 = .ok (.iload_n 1, 1) := by decide +kernel
theorem d_S_cancel_2 : decode (xt_code m_S_cancel) 2 = .ok (.invokevirtual 133, 3) := by decide +kernel
theorem d_S_cancel_5 : decode (xt_code m_S_cancel) 5 = .ok (.astore_n 2, 1) := by decide +kernel
theorem d_S_cancel_6 : decode (xt_code m_S_cancel) 6 = .ok (.aload_n 2, 1) := by decide +kernel
theorem d_S_cancel_7 : decode (xt_code m_S_cancel) 7 = .ok (.ifnull 17, 3) := by decide +kernel
theorem d_S_cancel_10 : decode (xt_code m_S_cancel) 10 = .ok (.aload_n 2, 1) := by decide +kernel
theorem d_S_cancel_11 : decode (xt_code m_S_cancel) 11 = .ok (.getfield 137, 3) := by decide +kernel
theorem d_S_cancel_14 : decode (xt_code m_S_cancel) 14 = .ok (.ifCond .ne 10, 3) := by decide +kernel
theorem d_S_cancel_17 : decode (xt_code m_S_cancel) 17 = .ok (.aload_n 2, 1) := by decide +kernel
theorem d_S_cancel_18 : decode (xt_code m_S_cancel) 18 = .ok (.invokevirtual 140, 3) := by decide +kernel
theorem d_S_cancel_21 : decode (xt_code m_S_cancel) 21 = .ok (.ifCond .eq 5, 3) := by decide +kernel
theorem d_S_cancel_24 : decode (xt_code m_S_cancel) 24 = .ok (.iconst 0, 1) := by decide +kernel
theorem d_S_cancel_25 : decode (xt_code m_S_cancel) 25 = .ok (.ireturn, 1) := by decide +kernel
theorem d_S_cancel_26 : decode (xt_code m_S_cancel) 26 = .ok (.aload_n 2, 1) := by decide +kernel
theorem d_S_cancel_27 : decode (xt_code m_S_cancel) 27 = .ok (.invokevirtual 143, 3) := by decide +kernel
theorem d_S_cancel_30 : decode (xt_code m_S_cancel) 30 = .ok (.aload_n 0, 1) := by decide +kernel
theorem d_S_cancel_31 : decode (xt_code m_S_cancel) 31 = .ok (.invokevirtual 67, 3) := by decide +kernel
theorem d_S_cancel_34 : decode (xt_code m_S_cancel) 34 = .ok (.iconst 1, 1) := by decide +kernel
theorem d_S_cancel_35 : decode (xt_code m_S_cancel) 35 = .ok (.ireturn, 1) := by decide +kernel
theorem d_S_again_0 : decode (xt_code m_S_again) 0 = .ok (.aload_n 0, 1) := by decide +kernel
theorem d_S_again_1 : decode (xt_code m_S_again) 1 = .ok (.iload_n 1, 1) := by decide +kernel
theorem d_S_again_2 : decode (xt_code m_S_again) 2 = .ok (.invokevirtual 133, 3) := by decide +kernel
theorem d_S_again_5 : decode (xt_code m_S_again) 5 = .ok (.astore_n 2, 1) := by decide +kernel
theorem d_S_again_6 : decode (xt_code m_S_again) 6 = .ok (.aload_n 2, 1) := by decide +kernel
theorem d_S_again_7 : decode (xt_code m_S_again) 7 = .ok (.ifnull 17, 3) := by decide +kernel
theorem d_S_again_10 : decode (xt_code m_S_again) 10 = .ok (.aload_n 2, 1) := by decide +kernel
theorem d_S_again_11 : decode (xt_code m_S_again) 11 = .ok (.getfield 137, 3) := by decide +kernel
theorem d_S_again_14 : decode (xt_code m_S_again) 14 = .ok (.ifCond .ne 10, 3) := by decide +kernel
theorem d_S_again_17 : decode (xt_code m_S_again) 17 = .ok (.aload_n 2, 1) := by decide +kernel
theorem d_S_again_18 : decode (xt_code m_S_again) 18 = .ok (.invokevirtual 140, 3) := by decide +kernel
theorem d_S_again_21 : decode (xt_code m_S_again) 21 = .ok (.ifCond .ne 5, 3) := by decide +kernel
theorem d_S_again_24 : decode (xt_code m_S_again) 24 = .ok (.iconst (-1), 1) := by decide +kernel
theorem d_S_again_25 : decode (xt_code m_S_again) 25 = .ok (.ireturn, 1) := by decide +kernel
theorem d_S_again_26 : decode (xt_code m_S_again) 26 = .ok (.aload_n 2, 1) := by decide +kernel
theorem d_S_again_27 : decode (xt_code m_S_again) 27 = .ok (.invokevirtual 146, 3) := by decide +kernel
theorem d_S_again_30 : decode (xt_code m_S_again) 30 = .ok (.istore_n 3, 1) := by decide +kernel
theorem d_S_again_31 : decode (xt_code m_S_again) 31 = .ok (.aload_n 0, 1) := by decide +kernel
theorem d_S_again_32 : decode (xt_code m_S_again) 32 = .ok (.invokevirtual 67, 3) := by decide +kernel
theorem d_S_again_35 : decode (xt_code m_S_again) 35 = .ok (.iload_n 3, 1) := by decide +kernel
theorem d_S_again_36 : decode (xt_code m_S_again) 36 = .ok (.ireturn, 1) := by decide +kernel
theorem d_Run_redoFailed_0 : decode (xt_code m_Run_redoFailed) 0 = .ok (.iconst 0, 1) := by decide +kernel
theorem d_Run_redoFailed_1 : decode (xt_code m_Run_redoFailed) 1 = .ok (.istore_n 1, 1) := by decide +kernel
theorem d_Run_redoFailed_2 : decode (xt_code m_Run_redoFailed) 2 = .ok (.iconst 0, 1) := by decide +kernel
theorem d_Run_redoFailed_3 : decode (xt_code m_Run_redoFailed) 3 = .ok (.istore_n 2, 1) := by decide +kernel
theorem d_Run_redoFailed_4 : decode (xt_code m_Run_redoFailed) 4 = .ok (.iload_n 2, 1) := by decide +kernel
theorem d_Run_redoFailed_5 : decode (xt_code m_Run_redoFailed) 5 = .ok (.aload_n 0, 1) := by decide +kernel
theorem d_Run_redoFailed_6 : decode (xt_code m_Run_redoFailed) 6 = .ok (.getfield 27, 3) := by decide +kernel
theorem d_Run_redoFailed_9 : decode (xt_code m_Run_redoFailed) 9 = .ok (.arraylength, 1) := by decide +kernel
theorem d_Run_redoFailed_10 : decode (xt_code m_Run_redoFailed) 10 = .ok (.if_icmp .ge 47, 3) := by decide +kernel
theorem d_Run_redoFailed_13 : decode (xt_code m_Run_redoFailed) 13 = .ok (.aload_n 0, 1) := by decide +kernel
theorem d_Run_redoFailed_14 : decode (xt_code m_Run_redoFailed) 14 = .ok (.getfield 27, 3) := by decide +kernel
theorem d_Run_redoFailed_17 : decode (xt_code m_Run_redoFailed) 17 = .ok (.iload_n 2, 1) := by decide +kernel
theorem d_Run_redoFailed_18 : decode (xt_code m_Run_redoFailed) 18 = .ok (.aaload, 1) := by decide +kernel
theorem d_Run_redoFailed_19 : decode (xt_code m_Run_redoFailed) 19 = .ok (.getfield 35, 3) := by decide +kernel
theorem d_Run_redoFailed_22 : decode (xt_code m_Run_redoFailed) 22 = .ok (.iconst 4, 1) := by decide +kernel
theorem d_Run_redoFailed_23 : decode (xt_code m_Run_redoFailed) 23 = .ok (.if_icmp .eq 16, 3) := by decide +kernel
theorem d_Run_redoFailed_26 : decode (xt_code m_Run_redoFailed) 26 = .ok (.aload_n 0, 1) := by decide +kernel
theorem d_Run_redoFailed_27 : decode (xt_code m_Run_redoFailed) 27 = .ok (.getfield 27, 3) := by decide +kernel
theorem d_Run_redoFailed_30 : decode (xt_code m_Run_redoFailed) 30 = .ok (.iload_n 2, 1) := by decide +kernel
theorem d_Run_redoFailed_31 : decode (xt_code m_Run_redoFailed) 31 = .ok (.aaload, 1) := by decide +kernel
theorem d_Run_redoFailed_32 : decode (xt_code m_Run_redoFailed) 32 = .ok (.getfield 35, 3) := by decide +kernel
theorem d_Run_redoFailed_35 : decode (xt_code m_Run_redoFailed) 35 = .ok (.iconst 5, 1) := by decide +kernel
theorem d_Run_redoFailed_36 : decode (xt_code m_Run_redoFailed) 36 = .ok (.if_icmp .ne 15, 3) := by decide +kernel
theorem d_Run_redoFailed_39 : decode (xt_code m_Run_redoFailed) 39 = .ok (.aload_n 0, 1) := by decide +kernel
theorem d_Run_redoFailed_40 : decode (xt_code m_Run_redoFailed) 40 = .ok (.getfield 27, 3) := by decide +kernel
theorem d_Run_redoFailed_43 : decode (xt_code m_Run_redoFailed) 43 = .ok (.iload_n 2, 1) := by decide +kernel
theorem d_Run_redoFailed_44 : decode (xt_code m_Run_redoFailed) 44 = .ok (.aaload, 1) := by decide +kernel
theorem d_Run_redoFailed_45 : decode (xt_code m_Run_redoFailed) 45 = .ok (.invokevirtual 56, 3) := by decide +kernel
theorem d_Run_redoFailed_48 : decode (xt_code m_Run_redoFailed) 48 = .ok (.iinc 1 1, 3) := by decide +kernel
theorem d_Run_redoFailed_51 : decode (xt_code m_Run_redoFailed) 51 = .ok (.iinc 2 1, 3) := by decide +kernel
theorem d_Run_redoFailed_54 : decode (xt_code m_Run_redoFailed) 54 = .ok (.goto (-50), 3) := by decide +kernel
theorem d_Run_redoFailed_57 : decode (xt_code m_Run_redoFailed) 57 = .ok (.iload_n 1, 1) := by decide +kernel
theorem d_Run_redoFailed_58 : decode (xt_code m_Run_redoFailed) 58 = .ok (.ireturn, 1) := by decide +kernel
theorem d_Tsk_waitAgain_0 : decode (xt_code m_Tsk_waitAgain) 0 = .ok (.aload_n 0, 1) := by decide +kernel
theorem d_Tsk_waitAgain_1 : decode (xt_code m_Tsk_waitAgain) 1 = .ok (.iconst 0, 1) := by decide +kernel
theorem d_Tsk_waitAgain_2 : decode (xt_code m_Tsk_waitAgain) 2 = .ok (.putfield 9, 3) := by decide +kernel
theorem d_Tsk_waitAgain_5 : decode (xt_code m_Tsk_waitAgain) 5 = .ok (.aload_n 0, 1) := by decide +kernel
theorem d_Tsk_waitAgain_6 : decode (xt_code m_Tsk_waitAgain) 6 = .ok (.iconst 0, 1) := by decide +kernel
theorem d_Tsk_waitAgain_7 : decode (xt_code m_Tsk_waitAgain) 7 = .ok (.putfield 34, 3) := by decide +kernel
theorem d_Tsk_waitAgain_10 : decode (xt_code m_Tsk_waitAgain) 10 = .ok (.aload_n 0, 1) := by decide +kernel
theorem d_Tsk_waitAgain_11 : decode (xt_code m_Tsk_waitAgain) 11 = .ok (.iconst 0, 1) := by decide +kernel
theorem d_Tsk_waitAgain_12 : decode (xt_code m_Tsk_waitAgain) 12 = .ok (.putfield 37, 3) := by decide +kernel
theorem d_Tsk_waitAgain_15 : decode (xt_code m_Tsk_waitAgain) 15 = .ok (.return_, 1) := by decide +kernel
theorem d_S_state_0 : decode (xt_code m_S_state) 0 = .ok (.aload_n 0, 1) := by decide +kernel
theorem d_S_state_1 : decode (xt_code m_S_state) 1 = .ok (.iload_n 1, 1) := by decide +kernel
theorem d_S_state_2 : decode (xt_code m_S_state) 2 = .ok (.iload_n 2, 1) := by decide +kernel
theorem d_S_state_3 : decode (xt_code m_S_state) 3 = .ok (.invokevirtual 70, 3) := by decide +kernel
theorem d_S_state_6 : decode (xt_code m_S_state) 6 = .ok (.astore_n 3, 1) := by decide +kernel
theorem d_S_state_7 : decode (xt_code m_S_state) 7 = .ok (.aload_n 3, 1) := by decide +kernel
theorem d_S_state_8 : decode (xt_code m_S_state) 8 = .ok (.ifnonnull 7, 3) := by decide +kernel
theorem d_S_state_11 : decode (xt_code m_S_state) 11 = .ok (.iconst (-1), 1) := by decide +kernel
theorem d_S_state_12 : decode (xt_code m_S_state) 12 = .ok (.goto 7, 3) := by decide +kernel
theorem d_S_state_15 : decode (xt_code m_S_state) 15 = .ok (.aload_n 3, 1) := by decide +kernel
theorem d_S_state_16 : decode (xt_code m_S_state) 16 = .ok (.getfield 149, 3) := by decide +kernel
theorem d_S_state_19 : decode (xt_code m_S_state) 19 = .ok (.ireturn, 1) := by decide +kernel
theorem d_S_about_0 : decode (xt_code m_S_about) 0 = .ok (.aload_n 0, 1) := by decide +kernel
theorem d_S_about_1 : decode (xt_code m_S_about) 1 = .ok (.iload_n 1, 1) := by decide +kernel
theorem d_S_about_2 : decode (xt_code m_S_about) 2 = .ok (.iload_n 2, 1) := by decide +kernel
theorem d_S_about_3 : decode (xt_code m_S_about) 3 = .ok (.invokevirtual 70, 3) := by decide +kernel
theorem d_S_about_6 : decode (xt_code m_S_about) 6 = .ok (.astore 4, 2) := by decide +kernel
theorem d_S_about_8 : decode (xt_code m_S_about) 8 = .ok (.aload 4, 2) := by decide +kernel
theorem d_S_about_10 : decode (xt_code m_S_about) 10 = .ok (.ifnonnull 5, 3) := by decide +kernel
theorem d_S_about_13 : decode (xt_code m_S_about) 13 = .ok (.iconst (-1), 1) := by decide +kernel
theorem d_S_about_14 : decode (xt_code m_S_about) 14 = .ok (.ireturn, 1) := by decide +kernel
theorem d_S_about_15 : decode (xt_code m_S_about) 15 = .ok (.iload_n 3, 1) := by decide +kernel
theorem d_S_about_16 : decode (xt_code m_S_about) 16 = .ok (.tableswitch 74 0 4 #[36, 42, 48, 54, 60], 36) := by decide +kernel
theorem d_S_about_52 : decode (xt_code m_S_about) 52 = .ok (.aload 4, 2) := by decide +kernel
theorem d_S_about_54 : decode (xt_code m_S_about) 54 = .ok (.invokevirtual 152, 3) := by decide +kernel
theorem d_S_about_57 : decode (xt_code m_S_about) 57 = .ok (.ireturn, 1) := by decide +kernel
theorem d_S_about_58 : decode (xt_code m_S_about) 58 = .ok (.aload 4, 2) := by decide +kernel
theorem d_S_about_60 : decode (xt_code m_S_about) 60 = .ok (.getfield 155, 3) := by decide +kernel
theorem d_S_about_63 : decode (xt_code m_S_about) 63 = .ok (.ireturn, 1) := by decide +kernel
theorem d_S_about_64 : decode (xt_code m_S_about) 64 = .ok (.aload 4, 2) := by decide +kernel
theorem d_S_about_66 : decode (xt_code m_S_about) 66 = .ok (.getfield 158, 3) := by decide +kernel
theorem d_S_about_69 : decode (xt_code m_S_about) 69 = .ok (.ireturn, 1) := by decide +kernel
theorem d_S_about_70 : decode (xt_code m_S_about) 70 = .ok (.aload 4, 2) := by decide +kernel
theorem d_S_about_72 : decode (xt_code m_S_about) 72 = .ok (.getfield 161, 3) := by decide +kernel
theorem d_S_about_75 : decode (xt_code m_S_about) 75 = .ok (.ireturn, 1) := by decide +kernel
theorem d_S_about_76 : decode (xt_code m_S_about) 76 = .ok (.aload 4, 2) := by decide +kernel
theorem d_S_about_78 : decode (xt_code m_S_about) 78 = .ok (.getfield 88, 3) := by decide +kernel
theorem d_S_about_81 : decode (xt_code m_S_about) 81 = .ok (.aload 4, 2) := by decide +kernel
theorem d_S_about_83 : decode (xt_code m_S_about) 83 = .ok (.getfield 74, 3) := by decide +kernel
theorem d_S_about_86 : decode (xt_code m_S_about) 86 = .ok (.invokevirtual 164, 3) := by decide +kernel
theorem d_S_about_89 : decode (xt_code m_S_about) 89 = .ok (.ireturn, 1) := by decide +kernel
theorem d_S_about_90 : decode (xt_code m_S_about) 90 = .ok (.iconst 0, 1) := by decide +kernel
theorem d_S_about_91 : decode (xt_code m_S_about) 91 = .ok (.ireturn, 1) := by decide +kernel
theorem d_Tsk_runnerNumber_0 : decode (xt_code m_Tsk_runnerNumber) 0 = .ok (.aload_n 0, 1) := by decide +kernel
theorem d_Tsk_runnerNumber_1 : decode (xt_code m_Tsk_runnerNumber) 1 = .ok (.getfield 15, 3) := by decide +kernel
theorem d_Tsk_runnerNumber_4 : decode (xt_code m_Tsk_runnerNumber) 4 = .ok (.ifnonnull 7, 3) := by decide +kernel
theorem d_Tsk_runnerNumber_7 : decode (xt_code m_Tsk_runnerNumber) 7 = .ok (.iconst (-1), 1) := by decide +kernel
theorem d_Tsk_runnerNumber_8 : decode (xt_code m_Tsk_runnerNumber) 8 = .ok (.goto 10, 3) := by decide +kernel
theorem d_Tsk_runnerNumber_11 : decode (xt_code m_Tsk_runnerNumber) 11 = .ok (.aload_n 0, 1) := by decide +kernel
theorem d_Tsk_runnerNumber_12 : decode (xt_code m_Tsk_runnerNumber) 12 = .ok (.getfield 15, 3) := by decide +kernel
theorem d_Tsk_runnerNumber_15 : decode (xt_code m_Tsk_runnerNumber) 15 = .ok (.getfield 69, 3) := by decide +kernel
theorem d_Tsk_runnerNumber_18 : decode (xt_code m_Tsk_runnerNumber) 18 = .ok (.ireturn, 1) := by decide +kernel
theorem d_Run_artefactsFor_0 : decode (xt_code m_Run_artefactsFor) 0 = .ok (.iconst 0, 1) := by decide +kernel
theorem d_Run_artefactsFor_1 : decode (xt_code m_Run_artefactsFor) 1 = .ok (.istore_n 2, 1) := by decide +kernel
theorem d_Run_artefactsFor_2 : decode (xt_code m_Run_artefactsFor) 2 = .ok (.iconst 0, 1) := by decide +kernel
theorem d_Run_artefactsFor_3 : decode (xt_code m_Run_artefactsFor) 3 = .ok (.istore_n 3, 1) := by decide +kernel
theorem d_Run_artefactsFor_4 : decode (xt_code m_Run_artefactsFor) 4 = .ok (.iload_n 3, 1) := by decide +kernel
theorem d_Run_artefactsFor_5 : decode (xt_code m_Run_artefactsFor) 5 = .ok (.aload_n 0, 1) := by decide +kernel
theorem d_Run_artefactsFor_6 : decode (xt_code m_Run_artefactsFor) 6 = .ok (.getfield 27, 3) := by decide +kernel
theorem d_Run_artefactsFor_9 : decode (xt_code m_Run_artefactsFor) 9 = .ok (.arraylength, 1) := by decide +kernel
theorem d_Run_artefactsFor_10 : decode (xt_code m_Run_artefactsFor) 10 = .ok (.if_icmp .ge 29, 3) := by decide +kernel
theorem d_Run_artefactsFor_13 : decode (xt_code m_Run_artefactsFor) 13 = .ok (.aload_n 1, 1) := by decide +kernel
theorem d_Run_artefactsFor_14 : decode (xt_code m_Run_artefactsFor) 14 = .ok (.iload_n 3, 1) := by decide +kernel
theorem d_Run_artefactsFor_15 : decode (xt_code m_Run_artefactsFor) 15 = .ok (.invokevirtual 63, 3) := by decide +kernel
theorem d_Run_artefactsFor_18 : decode (xt_code m_Run_artefactsFor) 18 = .ok (.ifCond .eq 15, 3) := by decide +kernel
theorem d_Run_artefactsFor_21 : decode (xt_code m_Run_artefactsFor) 21 = .ok (.iload_n 2, 1) := by decide +kernel
theorem d_Run_artefactsFor_22 : decode (xt_code m_Run_artefactsFor) 22 = .ok (.aload_n 0, 1) := by decide +kernel
theorem d_Run_artefactsFor_23 : decode (xt_code m_Run_artefactsFor) 23 = .ok (.getfield 27, 3) := by decide +kernel
theorem d_Run_artefactsFor_26 : decode (xt_code m_Run_artefactsFor) 26 = .ok (.iload_n 3, 1) := by decide +kernel
theorem d_Run_artefactsFor_27 : decode (xt_code m_Run_artefactsFor) 27 = .ok (.aaload, 1) := by decide +kernel
theorem d_Run_artefactsFor_28 : decode (xt_code m_Run_artefactsFor) 28 = .ok (.getfield 76, 3) := by decide +kernel
theorem d_Run_artefactsFor_31 : decode (xt_code m_Run_artefactsFor) 31 = .ok (.ixor, 1) := by decide +kernel
theorem d_Run_artefactsFor_32 : decode (xt_code m_Run_artefactsFor) 32 = .ok (.istore_n 2, 1) := by decide +kernel
theorem d_Run_artefactsFor_33 : decode (xt_code m_Run_artefactsFor) 33 = .ok (.iinc 3 1, 3) := by decide +kernel
theorem d_Run_artefactsFor_36 : decode (xt_code m_Run_artefactsFor) 36 = .ok (.goto (-32), 3) := by decide +kernel
theorem d_Run_artefactsFor_39 : decode (xt_code m_Run_artefactsFor) 39 = .ok (.iload_n 2, 1) := by decide +kernel
theorem d_Run_artefactsFor_40 : decode (xt_code m_Run_artefactsFor) 40 = .ok (.ireturn, 1) := by decide +kernel
theorem d_S_verdict_0 : decode (xt_code m_S_verdict) 0 = .ok (.aload_n 0, 1) := by decide +kernel
theorem d_S_verdict_1 : decode (xt_code m_S_verdict) 1 = .ok (.iload_n 1, 1) := by decide +kernel
theorem d_S_verdict_2 : decode (xt_code m_S_verdict) 2 = .ok (.invokevirtual 133, 3) := by decide +kernel
theorem d_S_verdict_5 : decode (xt_code m_S_verdict) 5 = .ok (.astore_n 2, 1) := by decide +kernel
theorem d_S_verdict_6 : decode (xt_code m_S_verdict) 6 = .ok (.aload_n 2, 1) := by decide +kernel
theorem d_S_verdict_7 : decode (xt_code m_S_verdict) 7 = .ok (.ifnonnull 7, 3) := by decide +kernel
theorem d_S_verdict_10 : decode (xt_code m_S_verdict) 10 = .ok (.iconst (-1), 1) := by decide +kernel
theorem d_S_verdict_11 : decode (xt_code m_S_verdict) 11 = .ok (.goto 7, 3) := by decide +kernel
theorem d_S_verdict_14 : decode (xt_code m_S_verdict) 14 = .ok (.aload_n 2, 1) := by decide +kernel
theorem d_S_verdict_15 : decode (xt_code m_S_verdict) 15 = .ok (.invokevirtual 168, 3) := by decide +kernel
theorem d_S_verdict_18 : decode (xt_code m_S_verdict) 18 = .ok (.ireturn, 1) := by decide +kernel
theorem d_Run_judge_0 : decode (xt_code m_Run_judge) 0 = .ok (.aload_n 0, 1) := by decide +kernel
theorem d_Run_judge_1 : decode (xt_code m_Run_judge) 1 = .ok (.invokevirtual 38, 3) := by decide +kernel
theorem d_Run_judge_4 : decode (xt_code m_Run_judge) 4 = .ok (.ifCond .ne 5, 3) := by decide +kernel
theorem d_Run_judge_7 : decode (xt_code m_Run_judge) 7 = .ok (.iconst 0, 1) := by decide +kernel
theorem d_Run_judge_8 : decode (xt_code m_Run_judge) 8 = .ok (.ireturn, 1) := by decide +kernel
theorem d_Run_judge_9 : decode (xt_code m_Run_judge) 9 = .ok (.aload_n 0, 1) := by decide +kernel
theorem d_Run_judge_10 : decode (xt_code m_Run_judge) 10 = .ok (.getfield 9, 3) := by decide +kernel
theorem d_Run_judge_13 : decode (xt_code m_Run_judge) 13 = .ok (.ifCond .eq 5, 3) := by decide +kernel
theorem d_Run_judge_16 : decode (xt_code m_Run_judge) 16 = .ok (.iconst 3, 1) := by decide +kernel
theorem d_Run_judge_17 : decode (xt_code m_Run_judge) 17 = .ok (.ireturn, 1) := by decide +kernel
theorem d_Run_judge_18 : decode (xt_code m_Run_judge) 18 = .ok (.aload_n 0, 1) := by decide +kernel
theorem d_Run_judge_19 : decode (xt_code m_Run_judge) 19 = .ok (.invokevirtual 41, 3) := by decide +kernel
theorem d_Run_judge_22 : decode (xt_code m_Run_judge) 22 = .ok (.ifCond .eq 7, 3) := by decide +kernel
theorem d_Run_judge_25 : decode (xt_code m_Run_judge) 25 = .ok (.iconst 2, 1) := by decide +kernel
theorem d_Run_judge_26 : decode (xt_code m_Run_judge) 26 = .ok (.goto 4, 3) := by decide +kernel
theorem d_Run_judge_29 : decode (xt_code m_Run_judge) 29 = .ok (.iconst 1, 1) := by decide +kernel
theorem d_Run_judge_30 : decode (xt_code m_Run_judge) 30 = .ok (.ireturn, 1) := by decide +kernel
theorem d_Run_isAnyFailed_0 : decode (xt_code m_Run_isAnyFailed) 0 = .ok (.iconst 0, 1) := by decide +kernel
theorem d_Run_isAnyFailed_1 : decode (xt_code m_Run_isAnyFailed) 1 = .ok (.istore_n 1, 1) := by decide +kernel
theorem d_Run_isAnyFailed_2 : decode (xt_code m_Run_isAnyFailed) 2 = .ok (.iload_n 1, 1) := by decide +kernel
theorem d_Run_isAnyFailed_3 : decode (xt_code m_Run_isAnyFailed) 3 = .ok (.aload_n 0, 1) := by decide +kernel
theorem d_Run_isAnyFailed_4 : decode (xt_code m_Run_isAnyFailed) 4 = .ok (.getfield 27, 3) := by decide +kernel
theorem d_Run_isAnyFailed_7 : decode (xt_code m_Run_isAnyFailed) 7 = .ok (.arraylength, 1) := by decide +kernel
theorem d_Run_isAnyFailed_8 : decode (xt_code m_Run_isAnyFailed) 8 = .ok (.if_icmp .ge 24, 3) := by decide +kernel
theorem d_Run_isAnyFailed_11 : decode (xt_code m_Run_isAnyFailed) 11 = .ok (.aload_n 0, 1) := by decide +kernel
theorem d_Run_isAnyFailed_12 : decode (xt_code m_Run_isAnyFailed) 12 = .ok (.getfield 27, 3) := by decide +kernel
theorem d_Run_isAnyFailed_15 : decode (xt_code m_Run_isAnyFailed) 15 = .ok (.iload_n 1, 1) := by decide +kernel
theorem d_Run_isAnyFailed_16 : decode (xt_code m_Run_isAnyFailed) 16 = .ok (.aaload, 1) := by decide +kernel
theorem d_Run_isAnyFailed_17 : decode (xt_code m_Run_isAnyFailed) 17 = .ok (.getfield 35, 3) := by decide +kernel
theorem d_Run_isAnyFailed_20 : decode (xt_code m_Run_isAnyFailed) 20 = .ok (.iconst 4, 1) := by decide +kernel
theorem d_Run_isAnyFailed_21 : decode (xt_code m_Run_isAnyFailed) 21 = .ok (.if_icmp .ne 5, 3) := by decide +kernel
theorem d_Run_isAnyFailed_24 : decode (xt_code m_Run_isAnyFailed) 24 = .ok (.iconst 1, 1) := by decide +kernel
theorem d_Run_isAnyFailed_25 : decode (xt_code m_Run_isAnyFailed) 25 = .ok (.ireturn, 1) := by decide +kernel
theorem d_Run_isAnyFailed_26 : decode (xt_code m_Run_isAnyFailed) 26 = .ok (.iinc 1 1, 3) := by decide +kernel
theorem d_Run_isAnyFailed_29 : decode (xt_code m_Run_isAnyFailed) 29 = .ok (.goto (-27), 3) := by decide +kernel
theorem d_Run_isAnyFailed_32 : decode (xt_code m_Run_isAnyFailed) 32 = .ok (.iconst 0, 1) := by decide +kernel
theorem d_Run_isAnyFailed_33 : decode (xt_code m_Run_isAnyFailed) 33 = .ok (.ireturn, 1) := by decide +kernel
theorem d_S_has_0 : decode (xt_code m_S_has) 0 = .ok (.aload_n 0, 1) := by decide +kernel
theorem d_S_has_1 : decode (xt_code m_S_has) 1 = .ok (.iload_n 1, 1) := by decide +kernel
theorem d_S_has_2 : decode (xt_code m_S_has) 2 = .ok (.invokevirtual 98, 3) := by decide +kernel
theorem d_S_has_5 : decode (xt_code m_S_has) 5 = .ok (.astore_n 2, 1) := by decide +kernel
theorem d_S_has_6 : decode (xt_code m_S_has) 6 = .ok (.aload_n 2, 1) := by decide +kernel
theorem d_S_has_7 : decode (xt_code m_S_has) 7 = .ok (.ifnonnull 5, 3) := by decide +kernel
theorem d_S_has_10 : decode (xt_code m_S_has) 10 = .ok (.iconst (-1), 1) := by decide +kernel
theorem d_S_has_11 : decode (xt_code m_S_has) 11 = .ok (.ireturn, 1) := by decide +kernel
theorem d_S_has_12 : decode (xt_code m_S_has) 12 = .ok (.aload_n 2, 1) := by decide +kernel
theorem d_S_has_13 : decode (xt_code m_S_has) 13 = .ok (.getfield 102, 3) := by decide +kernel
theorem d_S_has_16 : decode (xt_code m_S_has) 16 = .ok (.astore_n 3, 1) := by decide +kernel
theorem d_S_has_17 : decode (xt_code m_S_has) 17 = .ok (.aload_n 3, 1) := by decide +kernel
theorem d_S_has_18 : decode (xt_code m_S_has) 18 = .ok (.ifnonnull 7, 3) := by decide +kernel
theorem d_S_has_21 : decode (xt_code m_S_has) 21 = .ok (.iconst (-1), 1) := by decide +kernel
theorem d_S_has_22 : decode (xt_code m_S_has) 22 = .ok (.goto 7, 3) := by decide +kernel
theorem d_S_has_25 : decode (xt_code m_S_has) 25 = .ok (.aload_n 3, 1) := by decide +kernel
theorem d_S_has_26 : decode (xt_code m_S_has) 26 = .ok (.invokevirtual 114, 3) := by decide +kernel
theorem d_S_has_29 : decode (xt_code m_S_has) 29 = .ok (.ireturn, 1) := by decide +kernel
theorem d_M_init_0 : decode (xt_code m_M_init) 0 = .ok (.aload_n 0, 1) := by decide +kernel
theorem d_M_init_1 : decode (xt_code m_M_init) 1 = .ok (.invokespecial 1, 3) := by decide +kernel
theorem d_M_init_4 : decode (xt_code m_M_init) 4 = .ok (.aload_n 0, 1) := by decide +kernel
theorem d_M_init_5 : decode (xt_code m_M_init) 5 = .ok (.bipush 10, 2) := by decide +kernel
theorem d_M_init_7 : decode (xt_code m_M_init) 7 = .ok (.putfield 7, 3) := by decide +kernel
theorem d_M_init_10 : decode (xt_code m_M_init) 10 = .ok (.aload_n 0, 1) := by decide +kernel
theorem d_M_init_11 : decode (xt_code m_M_init) 11 = .ok (.bipush 12, 2) := by decide +kernel
theorem d_M_init_13 : decode (xt_code m_M_init) 13 = .ok (.newarray .int, 2) := by decide +kernel
theorem d_M_init_15 : decode (xt_code m_M_init) 15 = .ok (.putfield 13, 3) := by decide +kernel
theorem d_M_init_18 : decode (xt_code m_M_init) 18 = .ok (.aload_n 0, 1) := by decide +kernel
theorem d_M_init_19 : decode (xt_code m_M_init) 19 = .ok (.bipush 12, 2) := by decide +kernel
theorem d_M_init_21 : decode (xt_code m_M_init) 21 = .ok (.newarray .int, 2) := by decide +kernel
theorem d_M_init_23 : decode (xt_code m_M_init) 23 = .ok (.putfield 17, 3) := by decide +kernel
theorem d_M_init_26 : decode (xt_code m_M_init) 26 = .ok (.aload_n 0, 1) := by decide +kernel
theorem d_M_init_27 : decode (xt_code m_M_init) 27 = .ok (.bipush 12, 2) := by decide +kernel
