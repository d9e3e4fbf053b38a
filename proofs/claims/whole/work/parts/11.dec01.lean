/-! decode rows, by program -/
theorem d_S_init_0 : decode (xt_code m_S_init) 0 = .ok (.aload_n 0, 1) := by decide +kernel
theorem d_S_init_1 : decode (xt_code m_S_init) 1 = .ok (.invokespecial 1, 3) := by decide +kernel
theorem d_S_init_4 : decode (xt_code m_S_init) 4 = .ok (.aload_n 0, 1) := by decide +kernel
theorem d_S_init_5 : decode (xt_code m_S_init) 5 = .ok (.bipush 12, 2) := by decide +kernel
theorem d_S_init_7 : decode (xt_code m_S_init) 7 = .ok (.anewarray 9, 3) := by decide +kernel
theorem d_S_init_10 : decode (xt_code m_S_init) 10 = .ok (.putfield 11, 3) := by decide +kernel
theorem d_S_init_13 : decode (xt_code m_S_init) 13 = .ok (.aload_n 0, 1) := by decide +kernel
theorem d_S_init_14 : decode (xt_code m_S_init) 14 = .ok (.bipush 6, 2) := by decide +kernel
theorem d_S_init_16 : decode (xt_code m_S_init) 16 = .ok (.anewarray 15, 3) := by decide +kernel
theorem d_S_init_19 : decode (xt_code m_S_init) 19 = .ok (.putfield 17, 3) := by decide +kernel
theorem d_S_init_22 : decode (xt_code m_S_init) 22 = .ok (.aload_n 0, 1) := by decide +kernel
theorem d_S_init_23 : decode (xt_code m_S_init) 23 = .ok (.bipush 10, 2) := by decide +kernel
theorem d_S_init_25 : decode (xt_code m_S_init) 25 = .ok (.anewarray 21, 3) := by decide +kernel
theorem d_S_init_28 : decode (xt_code m_S_init) 28 = .ok (.putfield 23, 3) := by decide +kernel
theorem d_S_init_31 : decode (xt_code m_S_init) 31 = .ok (.aload_n 0, 1) := by decide +kernel
theorem d_S_init_32 : decode (xt_code m_S_init) 32 = .ok (.iconst 0, 1) := by decide +kernel
theorem d_S_init_33 : decode (xt_code m_S_init) 33 = .ok (.putfield 27, 3) := by decide +kernel
theorem d_S_init_36 : decode (xt_code m_S_init) 36 = .ok (.aload_n 0, 1) := by decide +kernel
theorem d_S_init_37 : decode (xt_code m_S_init) 37 = .ok (.iconst 0, 1) := by decide +kernel
theorem d_S_init_38 : decode (xt_code m_S_init) 38 = .ok (.putfield 31, 3) := by decide +kernel
theorem d_S_init_41 : decode (xt_code m_S_init) 41 = .ok (.aload_n 0, 1) := by decide +kernel
theorem d_S_init_42 : decode (xt_code m_S_init) 42 = .ok (.iconst 0, 1) := by decide +kernel
theorem d_S_init_43 : decode (xt_code m_S_init) 43 = .ok (.putfield 34, 3) := by decide +kernel
theorem d_S_init_46 : decode (xt_code m_S_init) 46 = .ok (.aload_n 0, 1) := by decide +kernel
theorem d_S_init_47 : decode (xt_code m_S_init) 47 = .ok (.iconst 0, 1) := by decide +kernel
theorem d_S_init_48 : decode (xt_code m_S_init) 48 = .ok (.putfield 37, 3) := by decide +kernel
theorem d_S_init_51 : decode (xt_code m_S_init) 51 = .ok (.aload_n 0, 1) := by decide +kernel
theorem d_S_init_52 : decode (xt_code m_S_init) 52 = .ok (.bipush 10, 2) := by decide +kernel
theorem d_S_init_54 : decode (xt_code m_S_init) 54 = .ok (.putfield 40, 3) := by decide +kernel
theorem d_S_init_57 : decode (xt_code m_S_init) 57 = .ok (.return_, 1) := by decide +kernel
theorem d_S_job_0 : decode (xt_code m_S_job) 0 = .ok (.aload_n 0, 1) := by decide +kernel
theorem d_S_job_1 : decode (xt_code m_S_job) 1 = .ok (.getfield 27, 3) := by decide +kernel
theorem d_S_job_4 : decode (xt_code m_S_job) 4 = .ok (.bipush 12, 2) := by decide +kernel
theorem d_S_job_6 : decode (xt_code m_S_job) 6 = .ok (.if_icmp .ge 10, 3) := by decide +kernel
theorem d_S_job_9 : decode (xt_code m_S_job) 9 = .ok (.aload_n 0, 1) := by decide +kernel
theorem d_S_job_10 : decode (xt_code m_S_job) 10 = .ok (.getfield 34, 3) := by decide +kernel
theorem d_S_job_13 : decode (xt_code m_S_job) 13 = .ok (.ifCond .le 5, 3) := by decide +kernel
theorem d_S_job_16 : decode (xt_code m_S_job) 16 = .ok (.iconst (-1), 1) := by decide +kernel
theorem d_S_job_17 : decode (xt_code m_S_job) 17 = .ok (.ireturn, 1) := by decide +kernel
theorem d_S_job_18 : decode (xt_code m_S_job) 18 = .ok (.iload_n 2, 1) := by decide +kernel
theorem d_S_job_19 : decode (xt_code m_S_job) 19 = .ok (.ifCond .lt 12, 3) := by decide +kernel
theorem d_S_job_22 : decode (xt_code m_S_job) 22 = .ok (.iload_n 3, 1) := by decide +kernel
theorem d_S_job_23 : decode (xt_code m_S_job) 23 = .ok (.ifCond .lt 8, 3) := by decide +kernel
theorem d_S_job_26 : decode (xt_code m_S_job) 26 = .ok (.iload_n 3, 1) := by decide +kernel
theorem d_S_job_27 : decode (xt_code m_S_job) 27 = .ok (.iconst 3, 1) := by decide +kernel
theorem d_S_job_28 : decode (xt_code m_S_job) 28 = .ok (.if_icmp .le 5, 3) := by decide +kernel
theorem d_S_job_31 : decode (xt_code m_S_job) 31 = .ok (.iconst (-1), 1) := by decide +kernel
theorem d_S_job_32 : decode (xt_code m_S_job) 32 = .ok (.ireturn, 1) := by decide +kernel
theorem d_S_job_33 : decode (xt_code m_S_job) 33 = .ok (.aload_n 0, 1) := by decide +kernel
theorem d_S_job_34 : decode (xt_code m_S_job) 34 = .ok (.getfield 27, 3) := by decide +kernel
theorem d_S_job_37 : decode (xt_code m_S_job) 37 = .ok (.istore 6, 2) := by decide +kernel
theorem d_S_job_39 : decode (xt_code m_S_job) 39 = .ok (.aload_n 0, 1) := by decide +kernel
theorem d_S_job_40 : decode (xt_code m_S_job) 40 = .ok (.getfield 11, 3) := by decide +kernel
theorem d_S_job_43 : decode (xt_code m_S_job) 43 = .ok (.iload 6, 2) := by decide +kernel
theorem d_S_job_45 : decode (xt_code m_S_job) 45 = .ok (.new 9, 3) := by decide +kernel
theorem d_S_job_48 : decode (xt_code m_S_job) 48 = .ok (.dup, 1) := by decide +kernel
theorem d_S_job_49 : decode (xt_code m_S_job) 49 = .ok (.iload_n 1, 1) := by decide +kernel
theorem d_S_job_50 : decode (xt_code m_S_job) 50 = .ok (.sipush 255, 3) := by decide +kernel
theorem d_S_job_53 : decode (xt_code m_S_job) 53 = .ok (.iand, 1) := by decide +kernel
theorem d_S_job_54 : decode (xt_code m_S_job) 54 = .ok (.iload_n 2, 1) := by decide +kernel
theorem d_S_job_55 : decode (xt_code m_S_job) 55 = .ok (.iload_n 3, 1) := by decide +kernel
theorem d_S_job_56 : decode (xt_code m_S_job) 56 = .ok (.iload 4, 2) := by decide +kernel
theorem d_S_job_58 : decode (xt_code m_S_job) 58 = .ok (.iload 5, 2) := by decide +kernel
theorem d_S_job_60 : decode (xt_code m_S_job) 60 = .ok (.invokespecial 43, 3) := by decide +kernel
theorem d_S_job_63 : decode (xt_code m_S_job) 63 = .ok (.aastore, 1) := by decide +kernel
theorem d_S_job_64 : decode (xt_code m_S_job) 64 = .ok (.aload_n 0, 1) := by decide +kernel
theorem d_S_job_65 : decode (xt_code m_S_job) 65 = .ok (.dup, 1) := by decide +kernel
theorem d_S_job_66 : decode (xt_code m_S_job) 66 = .ok (.getfield 27, 3) := by decide +kernel
theorem d_S_job_69 : decode (xt_code m_S_job) 69 = .ok (.iconst 1, 1) := by decide +kernel
theorem d_S_job_70 : decode (xt_code m_S_job) 70 = .ok (.iadd, 1) := by decide +kernel
theorem d_S_job_71 : decode (xt_code m_S_job) 71 = .ok (.putfield 27, 3) := by decide +kernel
theorem d_S_job_74 : decode (xt_code m_S_job) 74 = .ok (.iload 6, 2) := by decide +kernel
theorem d_S_job_76 : decode (xt_code m_S_job) 76 = .ok (.ireturn, 1) := by decide +kernel
theorem d_Job_init_0 : decode (xt_code m_Job_init) 0 = .ok (.aload_n 0, 1) := by decide +kernel
theorem d_Job_init_1 : decode (xt_code m_Job_init) 1 = .ok (.invokespecial 1, 3) := by decide +kernel
theorem d_Job_init_4 : decode (xt_code m_Job_init) 4 = .ok (.aload_n 0, 1) := by decide +kernel
theorem d_Job_init_5 : decode (xt_code m_Job_init) 5 = .ok (.iconst 0, 1) := by decide +kernel
theorem d_Job_init_6 : decode (xt_code m_Job_init) 6 = .ok (.putfield 7, 3) := by decide +kernel
theorem d_Job_init_9 : decode (xt_code m_Job_init) 9 = .ok (.aload_n 0, 1) := by decide +kernel
theorem d_Job_init_10 : decode (xt_code m_Job_init) 10 = .ok (.iload_n 1, 1) := by decide +kernel
theorem d_Job_init_11 : decode (xt_code m_Job_init) 11 = .ok (.putfield 13, 3) := by decide +kernel
theorem d_Job_init_14 : decode (xt_code m_Job_init) 14 = .ok (.aload_n 0, 1) := by decide +kernel
theorem d_Job_init_15 : decode (xt_code m_Job_init) 15 = .ok (.iload_n 2, 1) := by decide +kernel
theorem d_Job_init_16 : decode (xt_code m_Job_init) 16 = .ok (.putfield 16, 3) := by decide +kernel
theorem d_Job_init_19 : decode (xt_code m_Job_init) 19 = .ok (.aload_n 0, 1) := by decide +kernel
theorem d_Job_init_20 : decode (xt_code m_Job_init) 20 = .ok (.iload_n 3, 1) := by decide +kernel
theorem d_Job_init_21 : decode (xt_code m_Job_init) 21 = .ok (.putfield 19, 3) := by decide +kernel
theorem d_Job_init_24 : decode (xt_code m_Job_init) 24 = .ok (.aload_n 0, 1) := by decide +kernel
theorem d_Job_init_25 : decode (xt_code m_Job_init) 25 = .ok (.iload 4, 2) := by decide +kernel
theorem d_Job_init_27 : decode (xt_code m_Job_init) 27 = .ok (.putfield 22, 3) := by decide +kernel
theorem d_Job_init_30 : decode (xt_code m_Job_init) 30 = .ok (.aload_n 0, 1) := by decide +kernel
theorem d_Job_init_31 : decode (xt_code m_Job_init) 31 = .ok (.iload 5, 2) := by decide +kernel
theorem d_Job_init_33 : decode (xt_code m_Job_init) 33 = .ok (.putfield 26, 3) := by decide +kernel
theorem d_Job_init_36 : decode (xt_code m_Job_init) 36 = .ok (.return_, 1) := by decide +kernel
theorem d_S_needs_0 : decode (xt_code m_S_needs) 0 = .ok (.aload_n 0, 1) := by decide +kernel
theorem d_S_needs_1 : decode (xt_code m_S_needs) 1 = .ok (.getfield 34, 3) := by decide +kernel
theorem d_S_needs_4 : decode (xt_code m_S_needs) 4 = .ok (.ifCond .gt 20, 3) := by decide +kernel
theorem d_S_needs_7 : decode (xt_code m_S_needs) 7 = .ok (.iload_n 2, 1) := by decide +kernel
theorem d_S_needs_8 : decode (xt_code m_S_needs) 8 = .ok (.ifCond .lt 16, 3) := by decide +kernel
theorem d_S_needs_11 : decode (xt_code m_S_needs) 11 = .ok (.iload_n 2, 1) := by decide +kernel
theorem d_S_needs_12 : decode (xt_code m_S_needs) 12 = .ok (.iload_n 1, 1) := by decide +kernel
theorem d_S_needs_13 : decode (xt_code m_S_needs) 13 = .ok (.if_icmp .ge 11, 3) := by decide +kernel
theorem d_S_needs_16 : decode (xt_code m_S_needs) 16 = .ok (.iload_n 1, 1) := by decide +kernel
theorem d_S_needs_17 : decode (xt_code m_S_needs) 17 = .ok (.aload_n 0, 1) := by decide +kernel
theorem d_S_needs_18 : decode (xt_code m_S_needs) 18 = .ok (.getfield 27, 3) := by decide +kernel
theorem d_S_needs_21 : decode (xt_code m_S_needs) 21 = .ok (.if_icmp .lt 5, 3) := by decide +kernel
theorem d_S_needs_24 : decode (xt_code m_S_needs) 24 = .ok (.iconst 0, 1) := by decide +kernel
theorem d_S_needs_25 : decode (xt_code m_S_needs) 25 = .ok (.ireturn, 1) := by decide +kernel
theorem d_S_needs_26 : decode (xt_code m_S_needs) 26 = .ok (.aload_n 0, 1) := by decide +kernel
theorem d_S_needs_27 : decode (xt_code m_S_needs) 27 = .ok (.getfield 11, 3) := by decide +kernel
theorem d_S_needs_30 : decode (xt_code m_S_needs) 30 = .ok (.iload_n 1, 1) := by decide +kernel
theorem d_S_needs_31 : decode (xt_code m_S_needs) 31 = .ok (.aaload, 1) := by decide +kernel
theorem d_S_needs_32 : decode (xt_code m_S_needs) 32 = .ok (.astore_n 3, 1) := by decide +kernel
theorem d_S_needs_33 : decode (xt_code m_S_needs) 33 = .ok (.aload_n 3, 1) := by decide +kernel
theorem d_S_needs_34 : decode (xt_code m_S_needs) 34 = .ok (.iload_n 2, 1) := by decide +kernel
theorem d_S_needs_35 : decode (xt_code m_S_needs) 35 = .ok (.invokevirtual 46, 3) := by decide +kernel
theorem d_S_needs_38 : decode (xt_code m_S_needs) 38 = .ok (.ifCond .eq 5, 3) := by decide +kernel
theorem d_S_needs_41 : decode (xt_code m_S_needs) 41 = .ok (.iconst 0, 1) := by decide +kernel
theorem d_S_needs_42 : decode (xt_code m_S_needs) 42 = .ok (.ireturn, 1) := by decide +kernel
theorem d_S_needs_43 : decode (xt_code m_S_needs) 43 = .ok (.aload_n 3, 1) := by decide +kernel
theorem d_S_needs_44 : decode (xt_code m_S_needs) 44 = .ok (.dup, 1) := by decide +kernel
theorem d_S_needs_45 : decode (xt_code m_S_needs) 45 = .ok (.getfield 50, 3) := by decide +kernel
theorem d_S_needs_48 : decode (xt_code m_S_needs) 48 = .ok (.iconst 1, 1) := by decide +kernel
theorem d_S_needs_49 : decode (xt_code m_S_needs) 49 = .ok (.iload_n 2, 1) := by decide +kernel
theorem d_S_needs_50 : decode (xt_code m_S_needs) 50 = .ok (.ishl, 1) := by decide +kernel
theorem d_S_needs_51 : decode (xt_code m_S_needs) 51 = .ok (.ior, 1) := by decide +kernel
theorem d_S_needs_52 : decode (xt_code m_S_needs) 52 = .ok (.putfield 50, 3) := by decide +kernel
theorem d_S_needs_55 : decode (xt_code m_S_needs) 55 = .ok (.iconst 1, 1) := by decide +kernel
theorem d_S_needs_56 : decode (xt_code m_S_needs) 56 = .ok (.ireturn, 1) := by decide +kernel
theorem d_Job_isNeeding_0 : decode (xt_code m_Job_isNeeding) 0 = .ok (.aload_n 0, 1) := by decide +kernel
theorem d_Job_isNeeding_1 : decode (xt_code m_Job_isNeeding) 1 = .ok (.getfield 7, 3) := by decide +kernel
theorem d_Job_isNeeding_4 : decode (xt_code m_Job_isNeeding) 4 = .ok (.iload_n 1, 1) := by decide +kernel
theorem d_Job_isNeeding_5 : decode (xt_code m_Job_isNeeding) 5 = .ok (.ishr, 1) := by decide +kernel
theorem d_Job_isNeeding_6 : decode (xt_code m_Job_isNeeding) 6 = .ok (.iconst 1, 1) := by decide +kernel
theorem d_Job_isNeeding_7 : decode (xt_code m_Job_isNeeding) 7 = .ok (.iand, 1) := by decide +kernel
theorem d_Job_isNeeding_8 : decode (xt_code m_Job_isNeeding) 8 = .ok (.ifCond .eq 7, 3) := by decide +kernel
theorem d_Job_isNeeding_11 : decode (xt_code m_Job_isNeeding) 11 = .ok (.iconst 1, 1) := by decide +kernel
theorem d_Job_isNeeding_12 : decode (xt_code m_Job_isNeeding) 12 = .ok (.goto 4, 3) := by decide +kernel
theorem d_Job_isNeeding_15 : decode (xt_code m_Job_isNeeding) 15 = .ok (.iconst 0, 1) := by decide +kernel
theorem d_Job_isNeeding_16 : decode (xt_code m_Job_isNeeding) 16 = .ok (.ireturn, 1) := by decide +kernel
theorem d_S_runner_0 : decode (xt_code m_S_runner) 0 = .ok (.aload_n 0, 1) := by decide +kernel
theorem d_S_runner_1 : decode (xt_code m_S_runner) 1 = .ok (.getfield 31, 3) := by decide +kernel
theorem d_S_runner_4 : decode (xt_code m_S_runner) 4 = .ok (.bipush 6, 2) := by decide +kernel
theorem d_S_runner_6 : decode (xt_code m_S_runner) 6 = .ok (.if_icmp .lt 5, 3) := by decide +kernel
theorem d_S_runner_9 : decode (xt_code m_S_runner) 9 = .ok (.iconst (-1), 1) := by decide +kernel
theorem d_S_runner_10 : decode (xt_code m_S_runner) 10 = .ok (.ireturn, 1) := by decide +kernel
theorem d_S_runner_11 : decode (xt_code m_S_runner) 11 = .ok (.aload_n 0, 1) := by decide +kernel
theorem d_S_runner_12 : decode (xt_code m_S_runner) 12 = .ok (.getfield 31, 3) := by decide +kernel
theorem d_S_runner_15 : decode (xt_code m_S_runner) 15 = .ok (.istore_n 2, 1) := by decide +kernel
theorem d_S_runner_16 : decode (xt_code m_S_runner) 16 = .ok (.aload_n 0, 1) := by decide +kernel
theorem d_S_runner_17 : decode (xt_code m_S_runner) 17 = .ok (.getfield 17, 3) := by decide +kernel
theorem d_S_runner_20 : decode (xt_code m_S_runner) 20 = .ok (.iload_n 2, 1) := by decide +kernel
theorem d_S_runner_21 : decode (xt_code m_S_runner) 21 = .ok (.new 15, 3) := by decide +kernel
theorem d_S_runner_24 : decode (xt_code m_S_runner) 24 = .ok (.dup, 1) := by decide +kernel
theorem d_S_runner_25 : decode (xt_code m_S_runner) 25 = .ok (.iload_n 2, 1) := by decide +kernel
theorem d_S_runner_26 : decode (xt_code m_S_runner) 26 = .ok (.iload_n 1, 1) := by decide +kernel
theorem d_S_runner_27 : decode (xt_code m_S_runner) 27 = .ok (.sipush 255, 3) := by decide +kernel
theorem d_S_runner_30 : decode (xt_code m_S_runner) 30 = .ok (.iand, 1) := by decide +kernel
theorem d_S_runner_31 : decode (xt_code m_S_runner) 31 = .ok (.aload_n 0, 1) := by decide +kernel
theorem d_S_runner_32 : decode (xt_code m_S_runner) 32 = .ok (.getfield 37, 3) := by decide +kernel
theorem d_S_runner_35 : decode (xt_code m_S_runner) 35 = .ok (.invokespecial 53, 3) := by decide +kernel
theorem d_S_runner_38 : decode (xt_code m_S_runner) 38 = .ok (.aastore, 1) := by decide +kernel
theorem d_S_runner_39 : decode (xt_code m_S_runner) 39 = .ok (.aload_n 0, 1) := by decide +kernel
theorem d_S_runner_40 : decode (xt_code m_S_runner) 40 = .ok (.dup, 1) := by decide +kernel
theorem d_S_runner_41 : decode (xt_code m_S_runner) 41 = .ok (.getfield 31, 3) := by decide +kernel
theorem d_S_runner_44 : decode (xt_code m_S_runner) 44 = .ok (.iconst 1, 1) := by decide +kernel
theorem d_S_runner_45 : decode (xt_code m_S_runner) 45 = .ok (.iadd, 1) := by decide +kernel
theorem d_S_runner_46 : decode (xt_code m_S_runner) 46 = .ok (.putfield 31, 3) := by decide +kernel
theorem d_S_runner_49 : decode (xt_code m_S_runner) 49 = .ok (.iload_n 2, 1) := by decide +kernel
theorem d_S_runner_50 : decode (xt_code m_S_runner) 50 = .ok (.ireturn, 1) := by decide +kernel
theorem d_Rnr_init_0 : decode (xt_code m_Rnr_init) 0 = .ok (.aload_n 0, 1) := by decide +kernel
theorem d_Rnr_init_1 : decode (xt_code m_Rnr_init) 1 = .ok (.invokespecial 1, 3) := by decide +kernel
theorem d_Rnr_init_4 : decode (xt_code m_Rnr_init) 4 = .ok (.aload_n 0, 1) := by decide +kernel
theorem d_Rnr_init_5 : decode (xt_code m_Rnr_init) 5 = .ok (.aconst_null, 1) := by decide +kernel
theorem d_Rnr_init_6 : decode (xt_code m_Rnr_init) 6 = .ok (.putfield 7, 3) := by decide +kernel
theorem d_Rnr_init_9 : decode (xt_code m_Rnr_init) 9 = .ok (.aload_n 0, 1) := by decide +kernel
theorem d_Rnr_init_10 : decode (xt_code m_Rnr_init) 10 = .ok (.iload_n 1, 1) := by decide +kernel
theorem d_Rnr_init_11 : decode (xt_code m_Rnr_init) 11 = .ok (.putfield 13, 3) := by decide +kernel
theorem d_Rnr_init_14 : decode (xt_code m_Rnr_init) 14 = .ok (.aload_n 0, 1) := by decide +kernel
theorem d_Rnr_init_15 : decode (xt_code m_Rnr_init) 15 = .ok (.iload_n 2, 1) := by decide +kernel
theorem d_Rnr_init_16 : decode (xt_code m_Rnr_init) 16 = .ok (.putfield 17, 3) := by decide +kernel
theorem d_Rnr_init_19 : decode (xt_code m_Rnr_init) 19 = .ok (.aload_n 0, 1) := by decide +kernel
theorem d_Rnr_init_20 : decode (xt_code m_Rnr_init) 20 = .ok (.iload_n 3, 1) := by decide +kernel
theorem d_Rnr_init_21 : decode (xt_code m_Rnr_init) 21 = .ok (.putfield 20, 3) := by decide +kernel
theorem d_Rnr_init_24 : decode (xt_code m_Rnr_init) 24 = .ok (.return_, 1) := by decide +kernel
theorem d_S_lost_0 : decode (xt_code m_S_lost) 0 = .ok (.iload_n 1, 1) := by decide +kernel
theorem d_S_lost_1 : decode (xt_code m_S_lost) 1 = .ok (.iconst 1, 1) := by decide +kernel
theorem d_S_lost_2 : decode (xt_code m_S_lost) 2 = .ok (.if_icmp .lt 9, 3) := by decide +kernel
theorem d_S_lost_5 : decode (xt_code m_S_lost) 5 = .ok (.iload_n 1, 1) := by decide +kernel
theorem d_S_lost_6 : decode (xt_code m_S_lost) 6 = .ok (.bipush 100, 2) := by decide +kernel
theorem d_S_lost_8 : decode (xt_code m_S_lost) 8 = .ok (.if_icmp .le 5, 3) := by decide +kernel
theorem d_S_lost_11 : decode (xt_code m_S_lost) 11 = .ok (.iconst 0, 1) := by decide +kernel
theorem d_S_lost_12 : decode (xt_code m_S_lost) 12 = .ok (.ireturn, 1) := by decide +kernel
theorem d_S_lost_13 : decode (xt_code m_S_lost) 13 = .ok (.aload_n 0, 1) := by decide +kernel
theorem d_S_lost_14 : decode (xt_code m_S_lost) 14 = .ok (.iload_n 1, 1) := by decide +kernel
theorem d_S_lost_15 : decode (xt_code m_S_lost) 15 = .ok (.putfield 40, 3) := by decide +kernel
theorem d_S_lost_18 : decode (xt_code m_S_lost) 18 = .ok (.iconst 1, 1) := by decide +kernel
theorem d_S_lost_19 : decode (xt_code m_S_lost) 19 = .ok (.ireturn, 1) := by decide +kernel
theorem d_S_trigger_0 : decode (xt_code m_S_trigger) 0 = .ok (.aload_n 0, 1) := by decide +kernel
theorem d_S_trigger_1 : decode (xt_code m_S_trigger) 1 = .ok (.getfield 34, 3) := by decide +kernel
theorem d_S_trigger_4 : decode (xt_code m_S_trigger) 4 = .ok (.bipush 10, 2) := by decide +kernel
theorem d_S_trigger_6 : decode (xt_code m_S_trigger) 6 = .ok (.if_icmp .ge 10, 3) := by decide +kernel
theorem d_S_trigger_9 : decode (xt_code m_S_trigger) 9 = .ok (.iload_n 1, 1) := by decide +kernel
theorem d_S_trigger_10 : decode (xt_code m_S_trigger) 10 = .ok (.invokestatic 56, 3) := by decide +kernel
theorem d_S_trigger_13 : decode (xt_code m_S_trigger) 13 = .ok (.ifCond .ne 5, 3) := by decide +kernel
theorem d_S_trigger_16 : decode (xt_code m_S_trigger) 16 = .ok (.iconst (-1), 1) := by decide +kernel
theorem d_S_trigger_17 : decode (xt_code m_S_trigger) 17 = .ok (.ireturn, 1) := by decide +kernel
theorem d_S_trigger_18 : decode (xt_code m_S_trigger) 18 = .ok (.iload_n 2, 1) := by decide +kernel
theorem d_S_trigger_19 : decode (xt_code m_S_trigger) 19 = .ok (.iconst (-1), 1) := by decide +kernel
theorem d_S_trigger_20 : decode (xt_code m_S_trigger) 20 = .ok (.if_icmp .eq 14, 3) := by decide +kernel
theorem d_S_trigger_23 : decode (xt_code m_S_trigger) 23 = .ok (.iload_n 2, 1) := by decide +kernel
theorem d_S_trigger_24 : decode (xt_code m_S_trigger) 24 = .ok (.ifCond .lt 8, 3) := by decide +kernel
theorem d_S_trigger_27 : decode (xt_code m_S_trigger) 27 = .ok (.iload_n 2, 1) := by decide +kernel
theorem d_S_trigger_28 : decode (xt_code m_S_trigger) 28 = .ok (.iconst 4, 1) := by decide +kernel
theorem d_S_trigger_29 : decode (xt_code m_S_trigger) 29 = .ok (.if_icmp .lt 5, 3) := by decide +kernel
theorem d_S_trigger_32 : decode (xt_code m_S_trigger) 32 = .ok (.iconst (-1), 1) := by decide +kernel
theorem d_S_trigger_33 : decode (xt_code m_S_trigger) 33 = .ok (.ireturn, 1) := by decide +kernel
theorem d_S_trigger_34 : decode (xt_code m_S_trigger) 34 = .ok (.iload_n 2, 1) := by decide +kernel
theorem d_S_trigger_35 : decode (xt_code m_S_trigger) 35 = .ok (.iconst (-1), 1) := by decide +kernel
theorem d_S_trigger_36 : decode (xt_code m_S_trigger) 36 = .ok (.if_icmp .eq 8, 3) := by decide +kernel
theorem d_S_trigger_39 : decode (xt_code m_S_trigger) 39 = .ok (.aload_n 0, 1) := by decide +kernel
theorem d_S_trigger_40 : decode (xt_code m_S_trigger) 40 = .ok (.iload_n 2, 1) := by decide +kernel
theorem d_S_trigger_41 : decode (xt_code m_S_trigger) 41 = .ok (.invokevirtual 59, 3) := by decide +kernel
theorem d_S_trigger_44 : decode (xt_code m_S_trigger) 44 = .ok (.aload_n 0, 1) := by decide +kernel
theorem d_S_trigger_45 : decode (xt_code m_S_trigger) 45 = .ok (.getfield 34, 3) := by decide +kernel
theorem d_S_trigger_48 : decode (xt_code m_S_trigger) 48 = .ok (.istore_n 3, 1) := by decide +kernel
theorem d_S_trigger_49 : decode (xt_code m_S_trigger) 49 = .ok (.aload_n 0, 1) := by decide +kernel
theorem d_S_trigger_50 : decode (xt_code m_S_trigger) 50 = .ok (.getfield 23, 3) := by decide +kernel
theorem d_S_trigger_53 : decode (xt_code m_S_trigger) 53 = .ok (.iload_n 3, 1) := by decide +kernel
theorem d_S_trigger_54 : decode (xt_code m_S_trigger) 54 = .ok (.aload_n 0, 1) := by decide +kernel
theorem d_S_trigger_55 : decode (xt_code m_S_trigger) 55 = .ok (.iload_n 3, 1) := by decide +kernel
theorem d_S_trigger_56 : decode (xt_code m_S_trigger) 56 = .ok (.iload_n 1, 1) := by decide +kernel
theorem d_S_trigger_57 : decode (xt_code m_S_trigger) 57 = .ok (.iload_n 2, 1) := by decide +kernel
theorem d_S_trigger_58 : decode (xt_code m_S_trigger) 58 = .ok (.invokevirtual 63, 3) := by decide +kernel
theorem d_S_trigger_61 : decode (xt_code m_S_trigger) 61 = .ok (.aastore, 1) := by decide +kernel
theorem d_S_trigger_62 : decode (xt_code m_S_trigger) 62 = .ok (.aload_n 0, 1) := by decide +kernel
theorem d_S_trigger_63 : decode (xt_code m_S_trigger) 63 = .ok (.dup, 1) := by decide +kernel
theorem d_S_trigger_64 : decode (xt_code m_S_trigger) 64 = .ok (.getfield 34, 3) := by decide +kernel
theorem d_S_trigger_67 : decode (xt_code m_S_trigger) 67 = .ok (.iconst 1, 1) := by decide +kernel
theorem d_S_trigger_68 : decode (xt_code m_S_trigger) 68 = .ok (.iadd, 1) := by decide +kernel
theorem d_S_trigger_69 : decode (xt_code m_S_trigger) 69 = .ok (.putfield 34, 3) := by decide +kernel
theorem d_S_trigger_72 : decode (xt_code m_S_trigger) 72 = .ok (.aload_n 0, 1) := by decide +kernel
theorem d_S_trigger_73 : decode (xt_code m_S_trigger) 73 = .ok (.invokevirtual 67, 3) := by decide +kernel
theorem d_S_trigger_76 : decode (xt_code m_S_trigger) 76 = .ok (.iload_n 3, 1) := by decide +kernel
theorem d_S_trigger_77 : decode (xt_code m_S_trigger) 77 = .ok (.ireturn, 1) := by decide +kernel
theorem d_S_isPerson_0 : decode (xt_code m_S_isPerson) 0 = .ok (.iload_n 0, 1) := by decide +kernel
theorem d_S_isPerson_1 : decode (xt_code m_S_isPerson) 1 = .ok (.ifCond .lt 13, 3) := by decide +kernel
theorem d_S_isPerson_4 : decode (xt_code m_S_isPerson) 4 = .ok (.iload_n 0, 1) := by decide +kernel
theorem d_S_isPerson_5 : decode (xt_code m_S_isPerson) 5 = .ok (.bipush 8, 2) := by decide +kernel
theorem d_S_isPerson_7 : decode (xt_code m_S_isPerson) 7 = .ok (.if_icmp .ge 7, 3) := by decide +kernel
theorem d_S_isPerson_10 : decode (xt_code m_S_isPerson) 10 = .ok (.iconst 1, 1) := by decide +kernel
theorem d_S_isPerson_11 : decode (xt_code m_S_isPerson) 11 = .ok (.goto 4, 3) := by decide +kernel
theorem d_S_isPerson_14 : decode (xt_code m_S_isPerson) 14 = .ok (.iconst 0, 1) := by decide +kernel
theorem d_S_isPerson_15 : decode (xt_code m_S_isPerson) 15 = .ok (.ireturn, 1) := by decide +kernel
theorem d_S_cancelGroup_0 : decode (xt_code m_S_cancelGroup) 0 = .ok (.iconst 0, 1) := by decide +kernel
theorem d_S_cancelGroup_1 : decode (xt_code m_S_cancelGroup) 1 = .ok (.istore_n 2, 1) := by decide +kernel
theorem d_S_cancelGroup_2 : decode (xt_code m_S_cancelGroup) 2 = .ok (.iload_n 2, 1) := by decide +kernel
theorem d_S_cancelGroup_3 : decode (xt_code m_S_cancelGroup) 3 = .ok (.aload_n 0, 1) := by decide +kernel
theorem d_S_cancelGroup_4 : decode (xt_code m_S_cancelGroup) 4 = .ok (.getfield 34, 3) := by decide +kernel
theorem d_S_cancelGroup_7 : decode (xt_code m_S_cancelGroup) 7 = .ok (.if_icmp .ge 43, 3) := by decide +kernel
theorem d_S_cancelGroup_10 : decode (xt_code m_S_cancelGroup) 10 = .ok (.aload_n 0, 1) := by decide +kernel
theorem d_S_cancelGroup_11 : decode (xt_code m_S_cancelGroup) 11 = .ok (.getfield 23, 3) := by decide +kernel
theorem d_S_cancelGroup_14 : decode (xt_code m_S_cancelGroup) 14 = .ok (.iload_n 2, 1) := by decide +kernel
theorem d_S_cancelGroup_15 : decode (xt_code m_S_cancelGroup) 15 = .ok (.aaload, 1) := by decide +kernel
theorem d_S_cancelGroup_16 : decode (xt_code m_S_cancelGroup) 16 = .ok (.getfield 181, 3) := by decide +kernel
theorem d_S_cancelGroup_19 : decode (xt_code m_S_cancelGroup) 19 = .ok (.iload_n 1, 1) := by decide +kernel
theorem d_S_cancelGroup_20 : decode (xt_code m_S_cancelGroup) 20 = .ok (.if_icmp .ne 24, 3) := by decide +kernel
theorem d_S_cancelGroup_23 : decode (xt_code m_S_cancelGroup) 23 = .ok (.aload_n 0, 1) := by decide +kernel
theorem d_S_cancelGroup_24 : decode (xt_code m_S_cancelGroup) 24 = .ok (.getfield 23, 3) := by decide +kernel
theorem d_S_cancelGroup_27 : decode (xt_code m_S_cancelGroup) 27 = .ok (.iload_n 2, 1) := by decide +kernel
theorem d_S_cancelGroup_28 : decode (xt_code m_S_cancelGroup) 28 = .ok (.aaload, 1) := by decide +kernel
theorem d_S_cancelGroup_29 : decode (xt_code m_S_cancelGroup) 29 = .ok (.invokevirtual 140, 3) := by decide +kernel
theorem d_S_cancelGroup_32 : decode (xt_code m_S_cancelGroup) 32 = .ok (.ifCond .ne 12, 3) := by decide +kernel
theorem d_S_cancelGroup_35 : decode (xt_code m_S_cancelGroup) 35 = .ok (.aload_n 0, 1) := by decide +kernel
theorem d_S_cancelGroup_36 : decode (xt_code m_S_cancelGroup) 36 = .ok (.getfield 23, 3) := by decide +kernel
theorem d_S_cancelGroup_39 : decode (xt_code m_S_cancelGroup) 39 = .ok (.iload_n 2, 1) := by decide +kernel
theorem d_S_cancelGroup_40 : decode (xt_code m_S_cancelGroup) 40 = .ok (.aaload, 1) := by decide +kernel
theorem d_S_cancelGroup_41 : decode (xt_code m_S_cancelGroup) 41 = .ok (.invokevirtual 143, 3) := by decide +kernel
theorem d_S_cancelGroup_44 : decode (xt_code m_S_cancelGroup) 44 = .ok (.iinc 2 1, 3) := by decide +kernel
theorem d_S_cancelGroup_47 : decode (xt_code m_S_cancelGroup) 47 = .ok (.goto (-45), 3) := by decide +kernel
theorem d_S_cancelGroup_50 : decode (xt_code m_S_cancelGroup) 50 = .ok (.return_, 1) := by decide +kernel
theorem d_Run_isOver_0 : decode (xt_code m_Run_isOver) 0 = .ok (.iconst 0, 1) := by decide +kernel
theorem d_Run_isOver_1 : decode (xt_code m_Run_isOver) 1 = .ok (.istore_n 1, 1) := by decide +kernel
theorem d_Run_isOver_2 : decode (xt_code m_Run_isOver) 2 = .ok (.iload_n 1, 1) := by decide +kernel
theorem d_Run_isOver_3 : decode (xt_code m_Run_isOver) 3 = .ok (.aload_n 0, 1) := by decide +kernel
theorem d_Run_isOver_4 : decode (xt_code m_Run_isOver) 4 = .ok (.getfield 27, 3) := by decide +kernel
theorem d_Run_isOver_7 : decode (xt_code m_Run_isOver) 7 = .ok (.arraylength, 1) := by decide +kernel
theorem d_Run_isOver_8 : decode (xt_code m_Run_isOver) 8 = .ok (.if_icmp .ge 23, 3) := by decide +kernel
theorem d_Run_isOver_11 : decode (xt_code m_Run_isOver) 11 = .ok (.aload_n 0, 1) := by decide +kernel
theorem d_Run_isOver_12 : decode (xt_code m_Run_isOver) 12 = .ok (.getfield 27, 3) := by decide +kernel
theorem d_Run_isOver_15 : decode (xt_code m_Run_isOver) 15 = .ok (.iload_n 1, 1) := by decide +kernel
theorem d_Run_isOver_16 : decode (xt_code m_Run_isOver) 16 = .ok (.aaload, 1) := by decide +kernel
theorem d_Run_isOver_17 : decode (xt_code m_Run_isOver) 17 = .ok (.invokevirtual 31, 3) := by decide +kernel
theorem d_Run_isOver_20 : decode (xt_code m_Run_isOver) 20 = .ok (.ifCond .ne 5, 3) := by decide +kernel
theorem d_Run_isOver_23 : decode (xt_code m_Run_isOver) 23 = .ok (.iconst 0, 1) := by decide +kernel
theorem d_Run_isOver_24 : decode (xt_code m_Run_isOver) 24 = .ok (.ireturn, 1) := by decide +kernel
theorem d_Run_isOver_25 : decode (xt_code m_Run_isOver) 25 = .ok (.iinc 1 1, 3) := by decide +kernel
theorem d_Run_isOver_28 : decode (xt_code m_Run_isOver) 28 = .ok (.goto (-26), 3) := by decide +kernel
theorem d_Run_isOver_31 : decode (xt_code m_Run_isOver) 31 = .ok (.iconst 1, 1) := by decide +kernel
theorem d_Run_isOver_32 : decode (xt_code m_Run_isOver) 32 = .ok (.ireturn, 1) := by decide +kernel
theorem d_Tsk_isEnded_0 : decode (xt_code m_Tsk_isEnded) 0 = .ok (.aload_n 0, 1) := by decide +kernel
theorem d_Tsk_isEnded_1 : decode (xt_code m_Tsk_isEnded) 1 = .ok (.getfield 9, 3) := by decide +kernel
theorem d_Tsk_isEnded_4 : decode (xt_code m_Tsk_isEnded) 4 = .ok (.iconst 3, 1) := by decide +kernel
theorem d_Tsk_isEnded_5 : decode (xt_code m_Tsk_isEnded) 5 = .ok (.if_icmp .lt 7, 3) := by decide +kernel
theorem d_Tsk_isEnded_8 : decode (xt_code m_Tsk_isEnded) 8 = .ok (.iconst 1, 1) := by decide +kernel
theorem d_Tsk_isEnded_9 : decode (xt_code m_Tsk_isEnded) 9 = .ok (.goto 4, 3) := by decide +kernel
theorem d_Tsk_isEnded_12 : decode (xt_code m_Tsk_isEnded) 12 = .ok (.iconst 0, 1) := by decide +kernel
theorem d_Tsk_isEnded_13 : decode (xt_code m_Tsk_isEnded) 13 = .ok (.ireturn, 1) := by decide +kernel
theorem d_Run_cancelAll_0 : decode (xt_code m_Run_cancelAll) 0 = .ok (.aload_n 0, 1) := by decide +kernel
theorem d_Run_cancelAll_1 : decode (xt_code m_Run_cancelAll) 1 = .ok (.iconst 1, 1) := by decide +kernel
theorem d_Run_cancelAll_2 : decode (xt_code m_Run_cancelAll) 2 = .ok (.putfield 9, 3) := by decide +kernel
theorem d_Run_cancelAll_5 : decode (xt_code m_Run_cancelAll) 5 = .ok (.iconst 0, 1) := by decide +kernel
theorem d_Run_cancelAll_6 : decode (xt_code m_Run_cancelAll) 6 = .ok (.istore_n 1, 1) := by decide +kernel
theorem d_Run_cancelAll_7 : decode (xt_code m_Run_cancelAll) 7 = .ok (.iload_n 1, 1) := by decide +kernel
theorem d_Run_cancelAll_8 : decode (xt_code m_Run_cancelAll) 8 = .ok (.aload_n 0, 1) := by decide +kernel
theorem d_Run_cancelAll_9 : decode (xt_code m_Run_cancelAll) 9 = .ok (.getfield 27, 3) := by decide +kernel
theorem d_Run_cancelAll_12 : decode (xt_code m_Run_cancelAll) 12 = .ok (.arraylength, 1) := by decide +kernel
theorem d_Run_cancelAll_13 : decode (xt_code m_Run_cancelAll) 13 = .ok (.if_icmp .ge 56, 3) := by decide +kernel
theorem d_Run_cancelAll_16 : decode (xt_code m_Run_cancelAll) 16 = .ok (.aload_n 0, 1) := by decide +kernel
theorem d_Run_cancelAll_17 : decode (xt_code m_Run_cancelAll) 17 = .ok (.getfield 27, 3) := by decide +kernel
theorem d_Run_cancelAll_20 : decode (xt_code m_Run_cancelAll) 20 = .ok (.iload_n 1, 1) := by decide +kernel
theorem d_Run_cancelAll_21 : decode (xt_code m_Run_cancelAll) 21 = .ok (.aaload, 1) := by decide +kernel
theorem d_Run_cancelAll_22 : decode (xt_code m_Run_cancelAll) 22 = .ok (.getfield 44, 3) := by decide +kernel
theorem d_Run_cancelAll_25 : decode (xt_code m_Run_cancelAll) 25 = .ok (.getfield 48, 3) := by decide +kernel
theorem d_Run_cancelAll_28 : decode (xt_code m_Run_cancelAll) 28 = .ok (.ifCond .ne 35, 3) := by decide +kernel
theorem d_Run_cancelAll_31 : decode (xt_code m_Run_cancelAll) 31 = .ok (.aload_n 0, 1) := by decide +kernel
theorem d_Run_cancelAll_32 : decode (xt_code m_Run_cancelAll) 32 = .ok (.getfield 27, 3) := by decide +kernel
theorem d_Run_cancelAll_35 : decode (xt_code m_Run_cancelAll) 35 = .ok (.iload_n 1, 1) := by decide +kernel
theorem d_Run_cancelAll_36 : decode (xt_code m_Run_cancelAll) 36 = .ok (.aaload, 1) := by decide +kernel
theorem d_Run_cancelAll_37 : decode (xt_code m_Run_cancelAll) 37 = .ok (.invokevirtual 31, 3) := by decide +kernel
