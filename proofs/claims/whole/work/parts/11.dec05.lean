/-! decode rows, by program -/
theorem d_M_init_29 : decode (xt_code m_M_init) 29 = .ok (.newarray .int, 2) := by decide +kernel
theorem d_M_init_31 : decode (xt_code m_M_init) 31 = .ok (.putfield 20, 3) := by decide +kernel
theorem d_M_init_34 : decode (xt_code m_M_init) 34 = .ok (.aload_n 0, 1) := by decide +kernel
theorem d_M_init_35 : decode (xt_code m_M_init) 35 = .ok (.bipush 12, 2) := by decide +kernel
theorem d_M_init_37 : decode (xt_code m_M_init) 37 = .ok (.newarray .int, 2) := by decide +kernel
theorem d_M_init_39 : decode (xt_code m_M_init) 39 = .ok (.putfield 23, 3) := by decide +kernel
theorem d_M_init_42 : decode (xt_code m_M_init) 42 = .ok (.aload_n 0, 1) := by decide +kernel
theorem d_M_init_43 : decode (xt_code m_M_init) 43 = .ok (.bipush 12, 2) := by decide +kernel
theorem d_M_init_45 : decode (xt_code m_M_init) 45 = .ok (.newarray .boolean, 2) := by decide +kernel
theorem d_M_init_47 : decode (xt_code m_M_init) 47 = .ok (.putfield 26, 3) := by decide +kernel
theorem d_M_init_50 : decode (xt_code m_M_init) 50 = .ok (.aload_n 0, 1) := by decide +kernel
theorem d_M_init_51 : decode (xt_code m_M_init) 51 = .ok (.bipush 12, 2) := by decide +kernel
theorem d_M_init_53 : decode (xt_code m_M_init) 53 = .ok (.newarray .boolean, 2) := by decide +kernel
theorem d_M_init_55 : decode (xt_code m_M_init) 55 = .ok (.putfield 30, 3) := by decide +kernel
theorem d_M_init_58 : decode (xt_code m_M_init) 58 = .ok (.aload_n 0, 1) := by decide +kernel
theorem d_M_init_59 : decode (xt_code m_M_init) 59 = .ok (.bipush 10, 2) := by decide +kernel
theorem d_M_init_61 : decode (xt_code m_M_init) 61 = .ok (.newarray .int, 2) := by decide +kernel
theorem d_M_init_63 : decode (xt_code m_M_init) 63 = .ok (.putfield 33, 3) := by decide +kernel
theorem d_M_init_66 : decode (xt_code m_M_init) 66 = .ok (.aload_n 0, 1) := by decide +kernel
theorem d_M_init_67 : decode (xt_code m_M_init) 67 = .ok (.bipush 10, 2) := by decide +kernel
theorem d_M_init_69 : decode (xt_code m_M_init) 69 = .ok (.newarray .int, 2) := by decide +kernel
theorem d_M_init_71 : decode (xt_code m_M_init) 71 = .ok (.putfield 36, 3) := by decide +kernel
theorem d_M_init_74 : decode (xt_code m_M_init) 74 = .ok (.aload_n 0, 1) := by decide +kernel
theorem d_M_init_75 : decode (xt_code m_M_init) 75 = .ok (.bipush 10, 2) := by decide +kernel
theorem d_M_init_77 : decode (xt_code m_M_init) 77 = .ok (.newarray .boolean, 2) := by decide +kernel
theorem d_M_init_79 : decode (xt_code m_M_init) 79 = .ok (.putfield 39, 3) := by decide +kernel
theorem d_M_init_82 : decode (xt_code m_M_init) 82 = .ok (.aload_n 0, 1) := by decide +kernel
theorem d_M_init_83 : decode (xt_code m_M_init) 83 = .ok (.bipush 120, 2) := by decide +kernel
theorem d_M_init_85 : decode (xt_code m_M_init) 85 = .ok (.newarray .int, 2) := by decide +kernel
theorem d_M_init_87 : decode (xt_code m_M_init) 87 = .ok (.putfield 42, 3) := by decide +kernel
theorem d_M_init_90 : decode (xt_code m_M_init) 90 = .ok (.aload_n 0, 1) := by decide +kernel
theorem d_M_init_91 : decode (xt_code m_M_init) 91 = .ok (.bipush 120, 2) := by decide +kernel
theorem d_M_init_93 : decode (xt_code m_M_init) 93 = .ok (.newarray .int, 2) := by decide +kernel
theorem d_M_init_95 : decode (xt_code m_M_init) 95 = .ok (.putfield 45, 3) := by decide +kernel
theorem d_M_init_98 : decode (xt_code m_M_init) 98 = .ok (.aload_n 0, 1) := by decide +kernel
theorem d_M_init_99 : decode (xt_code m_M_init) 99 = .ok (.bipush 120, 2) := by decide +kernel
theorem d_M_init_101 : decode (xt_code m_M_init) 101 = .ok (.newarray .int, 2) := by decide +kernel
theorem d_M_init_103 : decode (xt_code m_M_init) 103 = .ok (.putfield 48, 3) := by decide +kernel
theorem d_M_init_106 : decode (xt_code m_M_init) 106 = .ok (.aload_n 0, 1) := by decide +kernel
theorem d_M_init_107 : decode (xt_code m_M_init) 107 = .ok (.bipush 120, 2) := by decide +kernel
theorem d_M_init_109 : decode (xt_code m_M_init) 109 = .ok (.newarray .int, 2) := by decide +kernel
theorem d_M_init_111 : decode (xt_code m_M_init) 111 = .ok (.putfield 51, 3) := by decide +kernel
theorem d_M_init_114 : decode (xt_code m_M_init) 114 = .ok (.aload_n 0, 1) := by decide +kernel
theorem d_M_init_115 : decode (xt_code m_M_init) 115 = .ok (.bipush 120, 2) := by decide +kernel
theorem d_M_init_117 : decode (xt_code m_M_init) 117 = .ok (.newarray .int, 2) := by decide +kernel
theorem d_M_init_119 : decode (xt_code m_M_init) 119 = .ok (.putfield 54, 3) := by decide +kernel
theorem d_M_init_122 : decode (xt_code m_M_init) 122 = .ok (.aload_n 0, 1) := by decide +kernel
theorem d_M_init_123 : decode (xt_code m_M_init) 123 = .ok (.bipush 120, 2) := by decide +kernel
theorem d_M_init_125 : decode (xt_code m_M_init) 125 = .ok (.newarray .int, 2) := by decide +kernel
theorem d_M_init_127 : decode (xt_code m_M_init) 127 = .ok (.putfield 57, 3) := by decide +kernel
theorem d_M_init_130 : decode (xt_code m_M_init) 130 = .ok (.aload_n 0, 1) := by decide +kernel
theorem d_M_init_131 : decode (xt_code m_M_init) 131 = .ok (.bipush 120, 2) := by decide +kernel
theorem d_M_init_133 : decode (xt_code m_M_init) 133 = .ok (.newarray .int, 2) := by decide +kernel
theorem d_M_init_135 : decode (xt_code m_M_init) 135 = .ok (.putfield 60, 3) := by decide +kernel
theorem d_M_init_138 : decode (xt_code m_M_init) 138 = .ok (.aload_n 0, 1) := by decide +kernel
theorem d_M_init_139 : decode (xt_code m_M_init) 139 = .ok (.bipush 120, 2) := by decide +kernel
theorem d_M_init_141 : decode (xt_code m_M_init) 141 = .ok (.newarray .int, 2) := by decide +kernel
theorem d_M_init_143 : decode (xt_code m_M_init) 143 = .ok (.putfield 63, 3) := by decide +kernel
theorem d_M_init_146 : decode (xt_code m_M_init) 146 = .ok (.aload_n 0, 1) := by decide +kernel
theorem d_M_init_147 : decode (xt_code m_M_init) 147 = .ok (.bipush 6, 2) := by decide +kernel
theorem d_M_init_149 : decode (xt_code m_M_init) 149 = .ok (.newarray .int, 2) := by decide +kernel
theorem d_M_init_151 : decode (xt_code m_M_init) 151 = .ok (.putfield 66, 3) := by decide +kernel
theorem d_M_init_154 : decode (xt_code m_M_init) 154 = .ok (.aload_n 0, 1) := by decide +kernel
theorem d_M_init_155 : decode (xt_code m_M_init) 155 = .ok (.bipush 6, 2) := by decide +kernel
theorem d_M_init_157 : decode (xt_code m_M_init) 157 = .ok (.newarray .int, 2) := by decide +kernel
theorem d_M_init_159 : decode (xt_code m_M_init) 159 = .ok (.putfield 69, 3) := by decide +kernel
theorem d_M_init_162 : decode (xt_code m_M_init) 162 = .ok (.aload_n 0, 1) := by decide +kernel
theorem d_M_init_163 : decode (xt_code m_M_init) 163 = .ok (.bipush 6, 2) := by decide +kernel
theorem d_M_init_165 : decode (xt_code m_M_init) 165 = .ok (.newarray .int, 2) := by decide +kernel
theorem d_M_init_167 : decode (xt_code m_M_init) 167 = .ok (.putfield 72, 3) := by decide +kernel
theorem d_M_init_170 : decode (xt_code m_M_init) 170 = .ok (.return_, 1) := by decide +kernel
theorem d_M_job_0 : decode (xt_code m_M_job) 0 = .ok (.aload_n 0, 1) := by decide +kernel
theorem d_M_job_1 : decode (xt_code m_M_job) 1 = .ok (.iconst 0, 1) := by decide +kernel
theorem d_M_job_2 : decode (xt_code m_M_job) 2 = .ok (.putfield 75, 3) := by decide +kernel
theorem d_M_job_5 : decode (xt_code m_M_job) 5 = .ok (.aload_n 0, 1) := by decide +kernel
theorem d_M_job_6 : decode (xt_code m_M_job) 6 = .ok (.getfield 78, 3) := by decide +kernel
theorem d_M_job_9 : decode (xt_code m_M_job) 9 = .ok (.bipush 12, 2) := by decide +kernel
theorem d_M_job_11 : decode (xt_code m_M_job) 11 = .ok (.if_icmp .eq 23, 3) := by decide +kernel
theorem d_M_job_14 : decode (xt_code m_M_job) 14 = .ok (.aload_n 0, 1) := by decide +kernel
theorem d_M_job_15 : decode (xt_code m_M_job) 15 = .ok (.getfield 81, 3) := by decide +kernel
theorem d_M_job_18 : decode (xt_code m_M_job) 18 = .ok (.ifCond .gt 16, 3) := by decide +kernel
theorem d_M_job_21 : decode (xt_code m_M_job) 21 = .ok (.iload_n 2, 1) := by decide +kernel
theorem d_M_job_22 : decode (xt_code m_M_job) 22 = .ok (.ifCond .lt 12, 3) := by decide +kernel
theorem d_M_job_25 : decode (xt_code m_M_job) 25 = .ok (.iload_n 3, 1) := by decide +kernel
theorem d_M_job_26 : decode (xt_code m_M_job) 26 = .ok (.ifCond .lt 8, 3) := by decide +kernel
theorem d_M_job_29 : decode (xt_code m_M_job) 29 = .ok (.iload_n 3, 1) := by decide +kernel
theorem d_M_job_30 : decode (xt_code m_M_job) 30 = .ok (.iconst 3, 1) := by decide +kernel
theorem d_M_job_31 : decode (xt_code m_M_job) 31 = .ok (.if_icmp .le 5, 3) := by decide +kernel
theorem d_M_job_34 : decode (xt_code m_M_job) 34 = .ok (.iconst (-1), 1) := by decide +kernel
theorem d_M_job_35 : decode (xt_code m_M_job) 35 = .ok (.ireturn, 1) := by decide +kernel
theorem d_M_job_36 : decode (xt_code m_M_job) 36 = .ok (.aload_n 0, 1) := by decide +kernel
theorem d_M_job_37 : decode (xt_code m_M_job) 37 = .ok (.getfield 13, 3) := by decide +kernel
theorem d_M_job_40 : decode (xt_code m_M_job) 40 = .ok (.aload_n 0, 1) := by decide +kernel
theorem d_M_job_41 : decode (xt_code m_M_job) 41 = .ok (.getfield 78, 3) := by decide +kernel
theorem d_M_job_44 : decode (xt_code m_M_job) 44 = .ok (.iload_n 1, 1) := by decide +kernel
theorem d_M_job_45 : decode (xt_code m_M_job) 45 = .ok (.sipush 255, 3) := by decide +kernel
theorem d_M_job_48 : decode (xt_code m_M_job) 48 = .ok (.iand, 1) := by decide +kernel
theorem d_M_job_49 : decode (xt_code m_M_job) 49 = .ok (.iastore, 1) := by decide +kernel
theorem d_M_job_50 : decode (xt_code m_M_job) 50 = .ok (.aload_n 0, 1) := by decide +kernel
theorem d_M_job_51 : decode (xt_code m_M_job) 51 = .ok (.getfield 17, 3) := by decide +kernel
theorem d_M_job_54 : decode (xt_code m_M_job) 54 = .ok (.aload_n 0, 1) := by decide +kernel
theorem d_M_job_55 : decode (xt_code m_M_job) 55 = .ok (.getfield 78, 3) := by decide +kernel
theorem d_M_job_58 : decode (xt_code m_M_job) 58 = .ok (.iload_n 2, 1) := by decide +kernel
theorem d_M_job_59 : decode (xt_code m_M_job) 59 = .ok (.iastore, 1) := by decide +kernel
theorem d_M_job_60 : decode (xt_code m_M_job) 60 = .ok (.aload_n 0, 1) := by decide +kernel
theorem d_M_job_61 : decode (xt_code m_M_job) 61 = .ok (.getfield 20, 3) := by decide +kernel
theorem d_M_job_64 : decode (xt_code m_M_job) 64 = .ok (.aload_n 0, 1) := by decide +kernel
theorem d_M_job_65 : decode (xt_code m_M_job) 65 = .ok (.getfield 78, 3) := by decide +kernel
theorem d_M_job_68 : decode (xt_code m_M_job) 68 = .ok (.iload_n 3, 1) := by decide +kernel
theorem d_M_job_69 : decode (xt_code m_M_job) 69 = .ok (.iastore, 1) := by decide +kernel
theorem d_M_job_70 : decode (xt_code m_M_job) 70 = .ok (.aload_n 0, 1) := by decide +kernel
theorem d_M_job_71 : decode (xt_code m_M_job) 71 = .ok (.getfield 26, 3) := by decide +kernel
theorem d_M_job_74 : decode (xt_code m_M_job) 74 = .ok (.aload_n 0, 1) := by decide +kernel
theorem d_M_job_75 : decode (xt_code m_M_job) 75 = .ok (.getfield 78, 3) := by decide +kernel
theorem d_M_job_78 : decode (xt_code m_M_job) 78 = .ok (.iload 4, 2) := by decide +kernel
theorem d_M_job_80 : decode (xt_code m_M_job) 80 = .ok (.bastore, 1) := by decide +kernel
theorem d_M_job_81 : decode (xt_code m_M_job) 81 = .ok (.aload_n 0, 1) := by decide +kernel
theorem d_M_job_82 : decode (xt_code m_M_job) 82 = .ok (.getfield 30, 3) := by decide +kernel
theorem d_M_job_85 : decode (xt_code m_M_job) 85 = .ok (.aload_n 0, 1) := by decide +kernel
theorem d_M_job_86 : decode (xt_code m_M_job) 86 = .ok (.getfield 78, 3) := by decide +kernel
theorem d_M_job_89 : decode (xt_code m_M_job) 89 = .ok (.iload 5, 2) := by decide +kernel
theorem d_M_job_91 : decode (xt_code m_M_job) 91 = .ok (.bastore, 1) := by decide +kernel
theorem d_M_job_92 : decode (xt_code m_M_job) 92 = .ok (.aload_n 0, 1) := by decide +kernel
theorem d_M_job_93 : decode (xt_code m_M_job) 93 = .ok (.dup, 1) := by decide +kernel
theorem d_M_job_94 : decode (xt_code m_M_job) 94 = .ok (.getfield 78, 3) := by decide +kernel
theorem d_M_job_97 : decode (xt_code m_M_job) 97 = .ok (.iconst 1, 1) := by decide +kernel
theorem d_M_job_98 : decode (xt_code m_M_job) 98 = .ok (.iadd, 1) := by decide +kernel
theorem d_M_job_99 : decode (xt_code m_M_job) 99 = .ok (.putfield 78, 3) := by decide +kernel
theorem d_M_job_102 : decode (xt_code m_M_job) 102 = .ok (.aload_n 0, 1) := by decide +kernel
theorem d_M_job_103 : decode (xt_code m_M_job) 103 = .ok (.getfield 78, 3) := by decide +kernel
theorem d_M_job_106 : decode (xt_code m_M_job) 106 = .ok (.iconst 1, 1) := by decide +kernel
theorem d_M_job_107 : decode (xt_code m_M_job) 107 = .ok (.isub, 1) := by decide +kernel
theorem d_M_job_108 : decode (xt_code m_M_job) 108 = .ok (.ireturn, 1) := by decide +kernel
theorem d_M_needs_0 : decode (xt_code m_M_needs) 0 = .ok (.aload_n 0, 1) := by decide +kernel
theorem d_M_needs_1 : decode (xt_code m_M_needs) 1 = .ok (.iconst 0, 1) := by decide +kernel
theorem d_M_needs_2 : decode (xt_code m_M_needs) 2 = .ok (.putfield 75, 3) := by decide +kernel
theorem d_M_needs_5 : decode (xt_code m_M_needs) 5 = .ok (.aload_n 0, 1) := by decide +kernel
theorem d_M_needs_6 : decode (xt_code m_M_needs) 6 = .ok (.iload_n 1, 1) := by decide +kernel
theorem d_M_needs_7 : decode (xt_code m_M_needs) 7 = .ok (.invokevirtual 87, 3) := by decide +kernel
theorem d_M_needs_10 : decode (xt_code m_M_needs) 10 = .ok (.ifCond .eq 33, 3) := by decide +kernel
theorem d_M_needs_13 : decode (xt_code m_M_needs) 13 = .ok (.iload_n 2, 1) := by decide +kernel
theorem d_M_needs_14 : decode (xt_code m_M_needs) 14 = .ok (.ifCond .lt 29, 3) := by decide +kernel
theorem d_M_needs_17 : decode (xt_code m_M_needs) 17 = .ok (.iload_n 2, 1) := by decide +kernel
theorem d_M_needs_18 : decode (xt_code m_M_needs) 18 = .ok (.iload_n 1, 1) := by decide +kernel
theorem d_M_needs_19 : decode (xt_code m_M_needs) 19 = .ok (.if_icmp .ge 24, 3) := by decide +kernel
theorem d_M_needs_22 : decode (xt_code m_M_needs) 22 = .ok (.aload_n 0, 1) := by decide +kernel
theorem d_M_needs_23 : decode (xt_code m_M_needs) 23 = .ok (.getfield 23, 3) := by decide +kernel
theorem d_M_needs_26 : decode (xt_code m_M_needs) 26 = .ok (.iload_n 1, 1) := by decide +kernel
theorem d_M_needs_27 : decode (xt_code m_M_needs) 27 = .ok (.iaload, 1) := by decide +kernel
theorem d_M_needs_28 : decode (xt_code m_M_needs) 28 = .ok (.iload_n 2, 1) := by decide +kernel
theorem d_M_needs_29 : decode (xt_code m_M_needs) 29 = .ok (.ishr, 1) := by decide +kernel
theorem d_M_needs_30 : decode (xt_code m_M_needs) 30 = .ok (.iconst 1, 1) := by decide +kernel
theorem d_M_needs_31 : decode (xt_code m_M_needs) 31 = .ok (.iand, 1) := by decide +kernel
theorem d_M_needs_32 : decode (xt_code m_M_needs) 32 = .ok (.iconst 1, 1) := by decide +kernel
theorem d_M_needs_33 : decode (xt_code m_M_needs) 33 = .ok (.if_icmp .eq 10, 3) := by decide +kernel
theorem d_M_needs_36 : decode (xt_code m_M_needs) 36 = .ok (.aload_n 0, 1) := by decide +kernel
theorem d_M_needs_37 : decode (xt_code m_M_needs) 37 = .ok (.getfield 81, 3) := by decide +kernel
theorem d_M_needs_40 : decode (xt_code m_M_needs) 40 = .ok (.ifCond .le 5, 3) := by decide +kernel
theorem d_M_needs_43 : decode (xt_code m_M_needs) 43 = .ok (.iconst 0, 1) := by decide +kernel
theorem d_M_needs_44 : decode (xt_code m_M_needs) 44 = .ok (.ireturn, 1) := by decide +kernel
theorem d_M_needs_45 : decode (xt_code m_M_needs) 45 = .ok (.aload_n 0, 1) := by decide +kernel
theorem d_M_needs_46 : decode (xt_code m_M_needs) 46 = .ok (.getfield 23, 3) := by decide +kernel
theorem d_M_needs_49 : decode (xt_code m_M_needs) 49 = .ok (.iload_n 1, 1) := by decide +kernel
theorem d_M_needs_50 : decode (xt_code m_M_needs) 50 = .ok (.dup2, 1) := by decide +kernel
theorem d_M_needs_51 : decode (xt_code m_M_needs) 51 = .ok (.iaload, 1) := by decide +kernel
theorem d_M_needs_52 : decode (xt_code m_M_needs) 52 = .ok (.iconst 1, 1) := by decide +kernel
theorem d_M_needs_53 : decode (xt_code m_M_needs) 53 = .ok (.iload_n 2, 1) := by decide +kernel
theorem d_M_needs_54 : decode (xt_code m_M_needs) 54 = .ok (.ishl, 1) := by decide +kernel
theorem d_M_needs_55 : decode (xt_code m_M_needs) 55 = .ok (.ior, 1) := by decide +kernel
theorem d_M_needs_56 : decode (xt_code m_M_needs) 56 = .ok (.iastore, 1) := by decide +kernel
theorem d_M_needs_57 : decode (xt_code m_M_needs) 57 = .ok (.iconst 1, 1) := by decide +kernel
theorem d_M_needs_58 : decode (xt_code m_M_needs) 58 = .ok (.ireturn, 1) := by decide +kernel
theorem d_M_isJob_0 : decode (xt_code m_M_isJob) 0 = .ok (.iload_n 1, 1) := by decide +kernel
theorem d_M_isJob_1 : decode (xt_code m_M_isJob) 1 = .ok (.ifCond .lt 15, 3) := by decide +kernel
theorem d_M_isJob_4 : decode (xt_code m_M_isJob) 4 = .ok (.iload_n 1, 1) := by decide +kernel
theorem d_M_isJob_5 : decode (xt_code m_M_isJob) 5 = .ok (.aload_n 0, 1) := by decide +kernel
theorem d_M_isJob_6 : decode (xt_code m_M_isJob) 6 = .ok (.getfield 78, 3) := by decide +kernel
theorem d_M_isJob_9 : decode (xt_code m_M_isJob) 9 = .ok (.if_icmp .ge 7, 3) := by decide +kernel
theorem d_M_isJob_12 : decode (xt_code m_M_isJob) 12 = .ok (.iconst 1, 1) := by decide +kernel
theorem d_M_isJob_13 : decode (xt_code m_M_isJob) 13 = .ok (.goto 4, 3) := by decide +kernel
theorem d_M_isJob_16 : decode (xt_code m_M_isJob) 16 = .ok (.iconst 0, 1) := by decide +kernel
theorem d_M_isJob_17 : decode (xt_code m_M_isJob) 17 = .ok (.ireturn, 1) := by decide +kernel
theorem d_M_runner_0 : decode (xt_code m_M_runner) 0 = .ok (.aload_n 0, 1) := by decide +kernel
theorem d_M_runner_1 : decode (xt_code m_M_runner) 1 = .ok (.iconst 0, 1) := by decide +kernel
theorem d_M_runner_2 : decode (xt_code m_M_runner) 2 = .ok (.putfield 75, 3) := by decide +kernel
theorem d_M_runner_5 : decode (xt_code m_M_runner) 5 = .ok (.aload_n 0, 1) := by decide +kernel
theorem d_M_runner_6 : decode (xt_code m_M_runner) 6 = .ok (.getfield 84, 3) := by decide +kernel
theorem d_M_runner_9 : decode (xt_code m_M_runner) 9 = .ok (.bipush 6, 2) := by decide +kernel
theorem d_M_runner_11 : decode (xt_code m_M_runner) 11 = .ok (.if_icmp .ne 5, 3) := by decide +kernel
theorem d_M_runner_14 : decode (xt_code m_M_runner) 14 = .ok (.iconst (-1), 1) := by decide +kernel
theorem d_M_runner_15 : decode (xt_code m_M_runner) 15 = .ok (.ireturn, 1) := by decide +kernel
theorem d_M_runner_16 : decode (xt_code m_M_runner) 16 = .ok (.aload_n 0, 1) := by decide +kernel
theorem d_M_runner_17 : decode (xt_code m_M_runner) 17 = .ok (.getfield 66, 3) := by decide +kernel
theorem d_M_runner_20 : decode (xt_code m_M_runner) 20 = .ok (.aload_n 0, 1) := by decide +kernel
theorem d_M_runner_21 : decode (xt_code m_M_runner) 21 = .ok (.getfield 84, 3) := by decide +kernel
theorem d_M_runner_24 : decode (xt_code m_M_runner) 24 = .ok (.iload_n 1, 1) := by decide +kernel
theorem d_M_runner_25 : decode (xt_code m_M_runner) 25 = .ok (.sipush 255, 3) := by decide +kernel
theorem d_M_runner_28 : decode (xt_code m_M_runner) 28 = .ok (.iand, 1) := by decide +kernel
theorem d_M_runner_29 : decode (xt_code m_M_runner) 29 = .ok (.iastore, 1) := by decide +kernel
theorem d_M_runner_30 : decode (xt_code m_M_runner) 30 = .ok (.aload_n 0, 1) := by decide +kernel
theorem d_M_runner_31 : decode (xt_code m_M_runner) 31 = .ok (.getfield 69, 3) := by decide +kernel
theorem d_M_runner_34 : decode (xt_code m_M_runner) 34 = .ok (.aload_n 0, 1) := by decide +kernel
theorem d_M_runner_35 : decode (xt_code m_M_runner) 35 = .ok (.getfield 84, 3) := by decide +kernel
theorem d_M_runner_38 : decode (xt_code m_M_runner) 38 = .ok (.aload_n 0, 1) := by decide +kernel
theorem d_M_runner_39 : decode (xt_code m_M_runner) 39 = .ok (.getfield 91, 3) := by decide +kernel
theorem d_M_runner_42 : decode (xt_code m_M_runner) 42 = .ok (.iastore, 1) := by decide +kernel
theorem d_M_runner_43 : decode (xt_code m_M_runner) 43 = .ok (.aload_n 0, 1) := by decide +kernel
theorem d_M_runner_44 : decode (xt_code m_M_runner) 44 = .ok (.getfield 72, 3) := by decide +kernel
theorem d_M_runner_47 : decode (xt_code m_M_runner) 47 = .ok (.aload_n 0, 1) := by decide +kernel
theorem d_M_runner_48 : decode (xt_code m_M_runner) 48 = .ok (.getfield 84, 3) := by decide +kernel
theorem d_M_runner_51 : decode (xt_code m_M_runner) 51 = .ok (.iconst (-1), 1) := by decide +kernel
theorem d_M_runner_52 : decode (xt_code m_M_runner) 52 = .ok (.iastore, 1) := by decide +kernel
theorem d_M_runner_53 : decode (xt_code m_M_runner) 53 = .ok (.aload_n 0, 1) := by decide +kernel
theorem d_M_runner_54 : decode (xt_code m_M_runner) 54 = .ok (.dup, 1) := by decide +kernel
theorem d_M_runner_55 : decode (xt_code m_M_runner) 55 = .ok (.getfield 84, 3) := by decide +kernel
theorem d_M_runner_58 : decode (xt_code m_M_runner) 58 = .ok (.iconst 1, 1) := by decide +kernel
theorem d_M_runner_59 : decode (xt_code m_M_runner) 59 = .ok (.iadd, 1) := by decide +kernel
theorem d_M_runner_60 : decode (xt_code m_M_runner) 60 = .ok (.putfield 84, 3) := by decide +kernel
theorem d_M_runner_63 : decode (xt_code m_M_runner) 63 = .ok (.aload_n 0, 1) := by decide +kernel
theorem d_M_runner_64 : decode (xt_code m_M_runner) 64 = .ok (.getfield 84, 3) := by decide +kernel
theorem d_M_runner_67 : decode (xt_code m_M_runner) 67 = .ok (.iconst 1, 1) := by decide +kernel
theorem d_M_runner_68 : decode (xt_code m_M_runner) 68 = .ok (.isub, 1) := by decide +kernel
theorem d_M_runner_69 : decode (xt_code m_M_runner) 69 = .ok (.ireturn, 1) := by decide +kernel
theorem d_M_lost_0 : decode (xt_code m_M_lost) 0 = .ok (.aload_n 0, 1) := by decide +kernel
theorem d_M_lost_1 : decode (xt_code m_M_lost) 1 = .ok (.iconst 0, 1) := by decide +kernel
theorem d_M_lost_2 : decode (xt_code m_M_lost) 2 = .ok (.putfield 75, 3) := by decide +kernel
theorem d_M_lost_5 : decode (xt_code m_M_lost) 5 = .ok (.iload_n 1, 1) := by decide +kernel
theorem d_M_lost_6 : decode (xt_code m_M_lost) 6 = .ok (.iconst 1, 1) := by decide +kernel
theorem d_M_lost_7 : decode (xt_code m_M_lost) 7 = .ok (.if_icmp .lt 9, 3) := by decide +kernel
theorem d_M_lost_10 : decode (xt_code m_M_lost) 10 = .ok (.iload_n 1, 1) := by decide +kernel
theorem d_M_lost_11 : decode (xt_code m_M_lost) 11 = .ok (.bipush 100, 2) := by decide +kernel
theorem d_M_lost_13 : decode (xt_code m_M_lost) 13 = .ok (.if_icmp .le 5, 3) := by decide +kernel
theorem d_M_lost_16 : decode (xt_code m_M_lost) 16 = .ok (.iconst 0, 1) := by decide +kernel
theorem d_M_lost_17 : decode (xt_code m_M_lost) 17 = .ok (.ireturn, 1) := by decide +kernel
theorem d_M_lost_18 : decode (xt_code m_M_lost) 18 = .ok (.aload_n 0, 1) := by decide +kernel
theorem d_M_lost_19 : decode (xt_code m_M_lost) 19 = .ok (.iload_n 1, 1) := by decide +kernel
theorem d_M_lost_20 : decode (xt_code m_M_lost) 20 = .ok (.putfield 7, 3) := by decide +kernel
theorem d_M_lost_23 : decode (xt_code m_M_lost) 23 = .ok (.iconst 1, 1) := by decide +kernel
theorem d_M_lost_24 : decode (xt_code m_M_lost) 24 = .ok (.ireturn, 1) := by decide +kernel
theorem d_M_trigger_0 : decode (xt_code m_M_trigger) 0 = .ok (.aload_n 0, 1) := by decide +kernel
theorem d_M_trigger_1 : decode (xt_code m_M_trigger) 1 = .ok (.iconst 0, 1) := by decide +kernel
theorem d_M_trigger_2 : decode (xt_code m_M_trigger) 2 = .ok (.putfield 75, 3) := by decide +kernel
theorem d_M_trigger_5 : decode (xt_code m_M_trigger) 5 = .ok (.aload_n 0, 1) := by decide +kernel
theorem d_M_trigger_6 : decode (xt_code m_M_trigger) 6 = .ok (.getfield 81, 3) := by decide +kernel
theorem d_M_trigger_9 : decode (xt_code m_M_trigger) 9 = .ok (.bipush 10, 2) := by decide +kernel
theorem d_M_trigger_11 : decode (xt_code m_M_trigger) 11 = .ok (.if_icmp .eq 23, 3) := by decide +kernel
theorem d_M_trigger_14 : decode (xt_code m_M_trigger) 14 = .ok (.iload_n 1, 1) := by decide +kernel
theorem d_M_trigger_15 : decode (xt_code m_M_trigger) 15 = .ok (.ifCond .lt 19, 3) := by decide +kernel
theorem d_M_trigger_18 : decode (xt_code m_M_trigger) 18 = .ok (.iload_n 1, 1) := by decide +kernel
theorem d_M_trigger_19 : decode (xt_code m_M_trigger) 19 = .ok (.bipush 8, 2) := by decide +kernel
theorem d_M_trigger_21 : decode (xt_code m_M_trigger) 21 = .ok (.if_icmp .ge 13, 3) := by decide +kernel
theorem d_M_trigger_24 : decode (xt_code m_M_trigger) 24 = .ok (.iload_n 2, 1) := by decide +kernel
theorem d_M_trigger_25 : decode (xt_code m_M_trigger) 25 = .ok (.iconst (-1), 1) := by decide +kernel
theorem d_M_trigger_26 : decode (xt_code m_M_trigger) 26 = .ok (.if_icmp .lt 8, 3) := by decide +kernel
theorem d_M_trigger_29 : decode (xt_code m_M_trigger) 29 = .ok (.iload_n 2, 1) := by decide +kernel
theorem d_M_trigger_30 : decode (xt_code m_M_trigger) 30 = .ok (.iconst 4, 1) := by decide +kernel
theorem d_M_trigger_31 : decode (xt_code m_M_trigger) 31 = .ok (.if_icmp .lt 5, 3) := by decide +kernel
theorem d_M_trigger_34 : decode (xt_code m_M_trigger) 34 = .ok (.iconst (-1), 1) := by decide +kernel
theorem d_M_trigger_35 : decode (xt_code m_M_trigger) 35 = .ok (.ireturn, 1) := by decide +kernel
theorem d_M_trigger_36 : decode (xt_code m_M_trigger) 36 = .ok (.iconst 0, 1) := by decide +kernel
theorem d_M_trigger_37 : decode (xt_code m_M_trigger) 37 = .ok (.istore_n 3, 1) := by decide +kernel
theorem d_M_trigger_38 : decode (xt_code m_M_trigger) 38 = .ok (.iload_n 3, 1) := by decide +kernel
theorem d_M_trigger_39 : decode (xt_code m_M_trigger) 39 = .ok (.aload_n 0, 1) := by decide +kernel
theorem d_M_trigger_40 : decode (xt_code m_M_trigger) 40 = .ok (.getfield 81, 3) := by decide +kernel
theorem d_M_trigger_43 : decode (xt_code m_M_trigger) 43 = .ok (.if_icmp .ge 37, 3) := by decide +kernel
theorem d_M_trigger_46 : decode (xt_code m_M_trigger) 46 = .ok (.iload_n 2, 1) := by decide +kernel
theorem d_M_trigger_47 : decode (xt_code m_M_trigger) 47 = .ok (.iconst (-1), 1) := by decide +kernel
theorem d_M_trigger_48 : decode (xt_code m_M_trigger) 48 = .ok (.if_icmp .eq 26, 3) := by decide +kernel
theorem d_M_trigger_51 : decode (xt_code m_M_trigger) 51 = .ok (.aload_n 0, 1) := by decide +kernel
theorem d_M_trigger_52 : decode (xt_code m_M_trigger) 52 = .ok (.getfield 36, 3) := by decide +kernel
theorem d_M_trigger_55 : decode (xt_code m_M_trigger) 55 = .ok (.iload_n 3, 1) := by decide +kernel
theorem d_M_trigger_56 : decode (xt_code m_M_trigger) 56 = .ok (.iaload, 1) := by decide +kernel
theorem d_M_trigger_57 : decode (xt_code m_M_trigger) 57 = .ok (.iload_n 2, 1) := by decide +kernel
theorem d_M_trigger_58 : decode (xt_code m_M_trigger) 58 = .ok (.if_icmp .ne 16, 3) := by decide +kernel
theorem d_M_trigger_61 : decode (xt_code m_M_trigger) 61 = .ok (.aload_n 0, 1) := by decide +kernel
theorem d_M_trigger_62 : decode (xt_code m_M_trigger) 62 = .ok (.iload_n 3, 1) := by decide +kernel
theorem d_M_trigger_63 : decode (xt_code m_M_trigger) 63 = .ok (.invokevirtual 108, 3) := by decide +kernel
theorem d_M_trigger_66 : decode (xt_code m_M_trigger) 66 = .ok (.ifCond .ne 8, 3) := by decide +kernel
theorem d_M_trigger_69 : decode (xt_code m_M_trigger) 69 = .ok (.aload_n 0, 1) := by decide +kernel
theorem d_M_trigger_70 : decode (xt_code m_M_trigger) 70 = .ok (.iload_n 3, 1) := by decide +kernel
theorem d_M_trigger_71 : decode (xt_code m_M_trigger) 71 = .ok (.invokevirtual 111, 3) := by decide +kernel
theorem d_M_trigger_74 : decode (xt_code m_M_trigger) 74 = .ok (.iinc 3 1, 3) := by decide +kernel
theorem d_M_trigger_77 : decode (xt_code m_M_trigger) 77 = .ok (.goto (-39), 3) := by decide +kernel
theorem d_M_trigger_80 : decode (xt_code m_M_trigger) 80 = .ok (.aload_n 0, 1) := by decide +kernel
theorem d_M_trigger_81 : decode (xt_code m_M_trigger) 81 = .ok (.getfield 33, 3) := by decide +kernel
theorem d_M_trigger_84 : decode (xt_code m_M_trigger) 84 = .ok (.aload_n 0, 1) := by decide +kernel
theorem d_M_trigger_85 : decode (xt_code m_M_trigger) 85 = .ok (.getfield 81, 3) := by decide +kernel
theorem d_M_trigger_88 : decode (xt_code m_M_trigger) 88 = .ok (.iload_n 1, 1) := by decide +kernel
theorem d_M_trigger_89 : decode (xt_code m_M_trigger) 89 = .ok (.iastore, 1) := by decide +kernel
theorem d_M_trigger_90 : decode (xt_code m_M_trigger) 90 = .ok (.aload_n 0, 1) := by decide +kernel
theorem d_M_trigger_91 : decode (xt_code m_M_trigger) 91 = .ok (.getfield 36, 3) := by decide +kernel
theorem d_M_trigger_94 : decode (xt_code m_M_trigger) 94 = .ok (.aload_n 0, 1) := by decide +kernel
theorem d_M_trigger_95 : decode (xt_code m_M_trigger) 95 = .ok (.getfield 81, 3) := by decide +kernel
theorem d_M_trigger_98 : decode (xt_code m_M_trigger) 98 = .ok (.iload_n 2, 1) := by decide +kernel
theorem d_M_trigger_99 : decode (xt_code m_M_trigger) 99 = .ok (.iastore, 1) := by decide +kernel
theorem d_M_trigger_100 : decode (xt_code m_M_trigger) 100 = .ok (.aload_n 0, 1) := by decide +kernel
theorem d_M_trigger_101 : decode (xt_code m_M_trigger) 101 = .ok (.dup, 1) := by decide +kernel
theorem d_M_trigger_102 : decode (xt_code m_M_trigger) 102 = .ok (.getfield 81, 3) := by decide +kernel
theorem d_M_trigger_105 : decode (xt_code m_M_trigger) 105 = .ok (.iconst 1, 1) := by decide +kernel
theorem d_M_trigger_106 : decode (xt_code m_M_trigger) 106 = .ok (.iadd, 1) := by decide +kernel
theorem d_M_trigger_107 : decode (xt_code m_M_trigger) 107 = .ok (.putfield 81, 3) := by decide +kernel
theorem d_M_trigger_110 : decode (xt_code m_M_trigger) 110 = .ok (.aload_n 0, 1) := by decide +kernel
theorem d_M_trigger_111 : decode (xt_code m_M_trigger) 111 = .ok (.invokevirtual 114, 3) := by decide +kernel
theorem d_M_trigger_114 : decode (xt_code m_M_trigger) 114 = .ok (.aload_n 0, 1) := by decide +kernel
theorem d_M_trigger_115 : decode (xt_code m_M_trigger) 115 = .ok (.getfield 81, 3) := by decide +kernel
theorem d_M_trigger_118 : decode (xt_code m_M_trigger) 118 = .ok (.iconst 1, 1) := by decide +kernel
theorem d_M_trigger_119 : decode (xt_code m_M_trigger) 119 = .ok (.isub, 1) := by decide +kernel
theorem d_M_trigger_120 : decode (xt_code m_M_trigger) 120 = .ok (.ireturn, 1) := by decide +kernel
theorem d_M_isOver_0 : decode (xt_code m_M_isOver) 0 = .ok (.iconst 1, 1) := by decide +kernel
theorem d_M_isOver_1 : decode (xt_code m_M_isOver) 1 = .ok (.istore_n 2, 1) := by decide +kernel
theorem d_M_isOver_2 : decode (xt_code m_M_isOver) 2 = .ok (.iconst 0, 1) := by decide +kernel
theorem d_M_isOver_3 : decode (xt_code m_M_isOver) 3 = .ok (.istore_n 3, 1) := by decide +kernel
theorem d_M_isOver_4 : decode (xt_code m_M_isOver) 4 = .ok (.iload_n 3, 1) := by decide +kernel
theorem d_M_isOver_5 : decode (xt_code m_M_isOver) 5 = .ok (.aload_n 0, 1) := by decide +kernel
theorem d_M_isOver_6 : decode (xt_code m_M_isOver) 6 = .ok (.getfield 78, 3) := by decide +kernel
theorem d_M_isOver_9 : decode (xt_code m_M_isOver) 9 = .ok (.if_icmp .ge 36, 3) := by decide +kernel
theorem d_M_isOver_12 : decode (xt_code m_M_isOver) 12 = .ok (.iload_n 2, 1) := by decide +kernel
theorem d_M_isOver_13 : decode (xt_code m_M_isOver) 13 = .ok (.ifCond .eq 24, 3) := by decide +kernel
theorem d_M_isOver_16 : decode (xt_code m_M_isOver) 16 = .ok (.aload_n 0, 1) := by decide +kernel
theorem d_M_isOver_17 : decode (xt_code m_M_isOver) 17 = .ok (.getfield 42, 3) := by decide +kernel
theorem d_M_isOver_20 : decode (xt_code m_M_isOver) 20 = .ok (.bipush 12, 2) := by decide +kernel
theorem d_M_isOver_22 : decode (xt_code m_M_isOver) 22 = .ok (.iload_n 1, 1) := by decide +kernel
theorem d_M_isOver_23 : decode (xt_code m_M_isOver) 23 = .ok (.imul, 1) := by decide +kernel
theorem d_M_isOver_24 : decode (xt_code m_M_isOver) 24 = .ok (.iload_n 3, 1) := by decide +kernel
theorem d_M_isOver_25 : decode (xt_code m_M_isOver) 25 = .ok (.iadd, 1) := by decide +kernel
theorem d_M_isOver_26 : decode (xt_code m_M_isOver) 26 = .ok (.iaload, 1) := by decide +kernel
theorem d_M_isOver_27 : decode (xt_code m_M_isOver) 27 = .ok (.invokestatic 94, 3) := by decide +kernel
theorem d_M_isOver_30 : decode (xt_code m_M_isOver) 30 = .ok (.ifCond .eq 7, 3) := by decide +kernel
theorem d_M_isOver_33 : decode (xt_code m_M_isOver) 33 = .ok (.iconst 1, 1) := by decide +kernel
theorem d_M_isOver_34 : decode (xt_code m_M_isOver) 34 = .ok (.goto 4, 3) := by decide +kernel
