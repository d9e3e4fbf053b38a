/-! decode rows, by program -/
theorem d_M_pass_56 : decode (xt_code m_M_pass) 56 = .ok (.iadd, 1) := by decide +kernel
theorem d_M_pass_57 : decode (xt_code m_M_pass) 57 = .ok (.iastore, 1) := by decide +kernel
theorem d_M_pass_58 : decode (xt_code m_M_pass) 58 = .ok (.aload_n 0, 1) := by decide +kernel
theorem d_M_pass_59 : decode (xt_code m_M_pass) 59 = .ok (.getfield 42, 3) := by decide +kernel
theorem d_M_pass_62 : decode (xt_code m_M_pass) 62 = .ok (.iload_n 1, 1) := by decide +kernel
theorem d_M_pass_63 : decode (xt_code m_M_pass) 63 = .ok (.aload_n 0, 1) := by decide +kernel
theorem d_M_pass_64 : decode (xt_code m_M_pass) 64 = .ok (.getfield 57, 3) := by decide +kernel
theorem d_M_pass_67 : decode (xt_code m_M_pass) 67 = .ok (.iload_n 1, 1) := by decide +kernel
theorem d_M_pass_68 : decode (xt_code m_M_pass) 68 = .ok (.iaload, 1) := by decide +kernel
theorem d_M_pass_69 : decode (xt_code m_M_pass) 69 = .ok (.iconst 1, 1) := by decide +kernel
theorem d_M_pass_70 : decode (xt_code m_M_pass) 70 = .ok (.if_icmp .le 7, 3) := by decide +kernel
theorem d_M_pass_73 : decode (xt_code m_M_pass) 73 = .ok (.iconst 4, 1) := by decide +kernel
theorem d_M_pass_74 : decode (xt_code m_M_pass) 74 = .ok (.goto 4, 3) := by decide +kernel
theorem d_M_pass_77 : decode (xt_code m_M_pass) 77 = .ok (.iconst 1, 1) := by decide +kernel
theorem d_M_pass_78 : decode (xt_code m_M_pass) 78 = .ok (.iastore, 1) := by decide +kernel
theorem d_M_pass_79 : decode (xt_code m_M_pass) 79 = .ok (.aload_n 0, 1) := by decide +kernel
theorem d_M_pass_80 : decode (xt_code m_M_pass) 80 = .ok (.iload_n 1, 1) := by decide +kernel
theorem d_M_pass_81 : decode (xt_code m_M_pass) 81 = .ok (.invokevirtual 104, 3) := by decide +kernel
theorem d_M_pass_84 : decode (xt_code m_M_pass) 84 = .ok (.goto 37, 3) := by decide +kernel
theorem d_M_pass_87 : decode (xt_code m_M_pass) 87 = .ok (.aload_n 0, 1) := by decide +kernel
theorem d_M_pass_88 : decode (xt_code m_M_pass) 88 = .ok (.getfield 17, 3) := by decide +kernel
theorem d_M_pass_91 : decode (xt_code m_M_pass) 91 = .ok (.iload_n 2, 1) := by decide +kernel
theorem d_M_pass_92 : decode (xt_code m_M_pass) 92 = .ok (.iaload, 1) := by decide +kernel
theorem d_M_pass_93 : decode (xt_code m_M_pass) 93 = .ok (.ifCond .le 28, 3) := by decide +kernel
theorem d_M_pass_96 : decode (xt_code m_M_pass) 96 = .ok (.aload_n 0, 1) := by decide +kernel
theorem d_M_pass_97 : decode (xt_code m_M_pass) 97 = .ok (.getfield 91, 3) := by decide +kernel
theorem d_M_pass_100 : decode (xt_code m_M_pass) 100 = .ok (.aload_n 0, 1) := by decide +kernel
theorem d_M_pass_101 : decode (xt_code m_M_pass) 101 = .ok (.getfield 45, 3) := by decide +kernel
theorem d_M_pass_104 : decode (xt_code m_M_pass) 104 = .ok (.iload_n 1, 1) := by decide +kernel
theorem d_M_pass_105 : decode (xt_code m_M_pass) 105 = .ok (.iaload, 1) := by decide +kernel
theorem d_M_pass_106 : decode (xt_code m_M_pass) 106 = .ok (.isub, 1) := by decide +kernel
theorem d_M_pass_107 : decode (xt_code m_M_pass) 107 = .ok (.aload_n 0, 1) := by decide +kernel
theorem d_M_pass_108 : decode (xt_code m_M_pass) 108 = .ok (.getfield 17, 3) := by decide +kernel
theorem d_M_pass_111 : decode (xt_code m_M_pass) 111 = .ok (.iload_n 2, 1) := by decide +kernel
theorem d_M_pass_112 : decode (xt_code m_M_pass) 112 = .ok (.iaload, 1) := by decide +kernel
theorem d_M_pass_113 : decode (xt_code m_M_pass) 113 = .ok (.if_icmp .lt 8, 3) := by decide +kernel
theorem d_M_pass_116 : decode (xt_code m_M_pass) 116 = .ok (.aload_n 0, 1) := by decide +kernel
theorem d_M_pass_117 : decode (xt_code m_M_pass) 117 = .ok (.iload_n 1, 1) := by decide +kernel
theorem d_M_pass_118 : decode (xt_code m_M_pass) 118 = .ok (.invokevirtual 131, 3) := by decide +kernel
theorem d_M_pass_121 : decode (xt_code m_M_pass) 121 = .ok (.return_, 1) := by decide +kernel
theorem d_M_runnerOf_0 : decode (xt_code m_M_runnerOf) 0 = .ok (.iconst (-1), 1) := by decide +kernel
theorem d_M_runnerOf_1 : decode (xt_code m_M_runnerOf) 1 = .ok (.istore_n 2, 1) := by decide +kernel
theorem d_M_runnerOf_2 : decode (xt_code m_M_runnerOf) 2 = .ok (.iconst 0, 1) := by decide +kernel
theorem d_M_runnerOf_3 : decode (xt_code m_M_runnerOf) 3 = .ok (.istore_n 3, 1) := by decide +kernel
theorem d_M_runnerOf_4 : decode (xt_code m_M_runnerOf) 4 = .ok (.iload_n 3, 1) := by decide +kernel
theorem d_M_runnerOf_5 : decode (xt_code m_M_runnerOf) 5 = .ok (.aload_n 0, 1) := by decide +kernel
theorem d_M_runnerOf_6 : decode (xt_code m_M_runnerOf) 6 = .ok (.getfield 84, 3) := by decide +kernel
theorem d_M_runnerOf_9 : decode (xt_code m_M_runnerOf) 9 = .ok (.if_icmp .ge 25, 3) := by decide +kernel
theorem d_M_runnerOf_12 : decode (xt_code m_M_runnerOf) 12 = .ok (.aload_n 0, 1) := by decide +kernel
theorem d_M_runnerOf_13 : decode (xt_code m_M_runnerOf) 13 = .ok (.getfield 72, 3) := by decide +kernel
theorem d_M_runnerOf_16 : decode (xt_code m_M_runnerOf) 16 = .ok (.iload_n 3, 1) := by decide +kernel
theorem d_M_runnerOf_17 : decode (xt_code m_M_runnerOf) 17 = .ok (.iaload, 1) := by decide +kernel
theorem d_M_runnerOf_18 : decode (xt_code m_M_runnerOf) 18 = .ok (.iload_n 1, 1) := by decide +kernel
theorem d_M_runnerOf_19 : decode (xt_code m_M_runnerOf) 19 = .ok (.if_icmp .ne 7, 3) := by decide +kernel
theorem d_M_runnerOf_22 : decode (xt_code m_M_runnerOf) 22 = .ok (.iload_n 3, 1) := by decide +kernel
theorem d_M_runnerOf_23 : decode (xt_code m_M_runnerOf) 23 = .ok (.goto 4, 3) := by decide +kernel
theorem d_M_runnerOf_26 : decode (xt_code m_M_runnerOf) 26 = .ok (.iload_n 2, 1) := by decide +kernel
theorem d_M_runnerOf_27 : decode (xt_code m_M_runnerOf) 27 = .ok (.istore_n 2, 1) := by decide +kernel
theorem d_M_runnerOf_28 : decode (xt_code m_M_runnerOf) 28 = .ok (.iinc 3 1, 3) := by decide +kernel
theorem d_M_runnerOf_31 : decode (xt_code m_M_runnerOf) 31 = .ok (.goto (-27), 3) := by decide +kernel
theorem d_M_runnerOf_34 : decode (xt_code m_M_runnerOf) 34 = .ok (.iload_n 2, 1) := by decide +kernel
theorem d_M_runnerOf_35 : decode (xt_code m_M_runnerOf) 35 = .ok (.ireturn, 1) := by decide +kernel
theorem d_M_cancel_0 : decode (xt_code m_M_cancel) 0 = .ok (.aload_n 0, 1) := by decide +kernel
theorem d_M_cancel_1 : decode (xt_code m_M_cancel) 1 = .ok (.iconst 0, 1) := by decide +kernel
theorem d_M_cancel_2 : decode (xt_code m_M_cancel) 2 = .ok (.putfield 75, 3) := by decide +kernel
theorem d_M_cancel_5 : decode (xt_code m_M_cancel) 5 = .ok (.aload_n 0, 1) := by decide +kernel
theorem d_M_cancel_6 : decode (xt_code m_M_cancel) 6 = .ok (.iload_n 1, 1) := by decide +kernel
theorem d_M_cancel_7 : decode (xt_code m_M_cancel) 7 = .ok (.invokevirtual 117, 3) := by decide +kernel
theorem d_M_cancel_10 : decode (xt_code m_M_cancel) 10 = .ok (.ifCond .eq 20, 3) := by decide +kernel
theorem d_M_cancel_13 : decode (xt_code m_M_cancel) 13 = .ok (.aload_n 0, 1) := by decide +kernel
theorem d_M_cancel_14 : decode (xt_code m_M_cancel) 14 = .ok (.getfield 39, 3) := by decide +kernel
theorem d_M_cancel_17 : decode (xt_code m_M_cancel) 17 = .ok (.iload_n 1, 1) := by decide +kernel
theorem d_M_cancel_18 : decode (xt_code m_M_cancel) 18 = .ok (.baload, 1) := by decide +kernel
theorem d_M_cancel_19 : decode (xt_code m_M_cancel) 19 = .ok (.ifCond .ne 11, 3) := by decide +kernel
theorem d_M_cancel_22 : decode (xt_code m_M_cancel) 22 = .ok (.aload_n 0, 1) := by decide +kernel
theorem d_M_cancel_23 : decode (xt_code m_M_cancel) 23 = .ok (.iload_n 1, 1) := by decide +kernel
theorem d_M_cancel_24 : decode (xt_code m_M_cancel) 24 = .ok (.invokevirtual 108, 3) := by decide +kernel
theorem d_M_cancel_27 : decode (xt_code m_M_cancel) 27 = .ok (.ifCond .eq 5, 3) := by decide +kernel
theorem d_M_cancel_30 : decode (xt_code m_M_cancel) 30 = .ok (.iconst 0, 1) := by decide +kernel
theorem d_M_cancel_31 : decode (xt_code m_M_cancel) 31 = .ok (.ireturn, 1) := by decide +kernel
theorem d_M_cancel_32 : decode (xt_code m_M_cancel) 32 = .ok (.aload_n 0, 1) := by decide +kernel
theorem d_M_cancel_33 : decode (xt_code m_M_cancel) 33 = .ok (.iload_n 1, 1) := by decide +kernel
theorem d_M_cancel_34 : decode (xt_code m_M_cancel) 34 = .ok (.invokevirtual 111, 3) := by decide +kernel
theorem d_M_cancel_37 : decode (xt_code m_M_cancel) 37 = .ok (.aload_n 0, 1) := by decide +kernel
theorem d_M_cancel_38 : decode (xt_code m_M_cancel) 38 = .ok (.invokevirtual 114, 3) := by decide +kernel
theorem d_M_cancel_41 : decode (xt_code m_M_cancel) 41 = .ok (.iconst 1, 1) := by decide +kernel
theorem d_M_cancel_42 : decode (xt_code m_M_cancel) 42 = .ok (.ireturn, 1) := by decide +kernel
theorem d_M_again_0 : decode (xt_code m_M_again) 0 = .ok (.aload_n 0, 1) := by decide +kernel
theorem d_M_again_1 : decode (xt_code m_M_again) 1 = .ok (.iconst 0, 1) := by decide +kernel
theorem d_M_again_2 : decode (xt_code m_M_again) 2 = .ok (.putfield 75, 3) := by decide +kernel
theorem d_M_again_5 : decode (xt_code m_M_again) 5 = .ok (.aload_n 0, 1) := by decide +kernel
theorem d_M_again_6 : decode (xt_code m_M_again) 6 = .ok (.iload_n 1, 1) := by decide +kernel
theorem d_M_again_7 : decode (xt_code m_M_again) 7 = .ok (.invokevirtual 117, 3) := by decide +kernel
theorem d_M_again_10 : decode (xt_code m_M_again) 10 = .ok (.ifCond .eq 20, 3) := by decide +kernel
theorem d_M_again_13 : decode (xt_code m_M_again) 13 = .ok (.aload_n 0, 1) := by decide +kernel
theorem d_M_again_14 : decode (xt_code m_M_again) 14 = .ok (.getfield 39, 3) := by decide +kernel
theorem d_M_again_17 : decode (xt_code m_M_again) 17 = .ok (.iload_n 1, 1) := by decide +kernel
theorem d_M_again_18 : decode (xt_code m_M_again) 18 = .ok (.baload, 1) := by decide +kernel
theorem d_M_again_19 : decode (xt_code m_M_again) 19 = .ok (.ifCond .ne 11, 3) := by decide +kernel
theorem d_M_again_22 : decode (xt_code m_M_again) 22 = .ok (.aload_n 0, 1) := by decide +kernel
theorem d_M_again_23 : decode (xt_code m_M_again) 23 = .ok (.iload_n 1, 1) := by decide +kernel
theorem d_M_again_24 : decode (xt_code m_M_again) 24 = .ok (.invokevirtual 108, 3) := by decide +kernel
theorem d_M_again_27 : decode (xt_code m_M_again) 27 = .ok (.ifCond .ne 5, 3) := by decide +kernel
theorem d_M_again_30 : decode (xt_code m_M_again) 30 = .ok (.iconst (-1), 1) := by decide +kernel
theorem d_M_again_31 : decode (xt_code m_M_again) 31 = .ok (.ireturn, 1) := by decide +kernel
theorem d_M_again_32 : decode (xt_code m_M_again) 32 = .ok (.iconst 0, 1) := by decide +kernel
theorem d_M_again_33 : decode (xt_code m_M_again) 33 = .ok (.istore_n 2, 1) := by decide +kernel
theorem d_M_again_34 : decode (xt_code m_M_again) 34 = .ok (.iconst 0, 1) := by decide +kernel
theorem d_M_again_35 : decode (xt_code m_M_again) 35 = .ok (.istore_n 3, 1) := by decide +kernel
theorem d_M_again_36 : decode (xt_code m_M_again) 36 = .ok (.iload_n 3, 1) := by decide +kernel
theorem d_M_again_37 : decode (xt_code m_M_again) 37 = .ok (.aload_n 0, 1) := by decide +kernel
theorem d_M_again_38 : decode (xt_code m_M_again) 38 = .ok (.getfield 78, 3) := by decide +kernel
theorem d_M_again_41 : decode (xt_code m_M_again) 41 = .ok (.if_icmp .ge 69, 3) := by decide +kernel
theorem d_M_again_44 : decode (xt_code m_M_again) 44 = .ok (.bipush 12, 2) := by decide +kernel
theorem d_M_again_46 : decode (xt_code m_M_again) 46 = .ok (.iload_n 1, 1) := by decide +kernel
theorem d_M_again_47 : decode (xt_code m_M_again) 47 = .ok (.imul, 1) := by decide +kernel
theorem d_M_again_48 : decode (xt_code m_M_again) 48 = .ok (.iload_n 3, 1) := by decide +kernel
theorem d_M_again_49 : decode (xt_code m_M_again) 49 = .ok (.iadd, 1) := by decide +kernel
theorem d_M_again_50 : decode (xt_code m_M_again) 50 = .ok (.istore 4, 2) := by decide +kernel
theorem d_M_again_52 : decode (xt_code m_M_again) 52 = .ok (.aload_n 0, 1) := by decide +kernel
theorem d_M_again_53 : decode (xt_code m_M_again) 53 = .ok (.getfield 42, 3) := by decide +kernel
theorem d_M_again_56 : decode (xt_code m_M_again) 56 = .ok (.iload 4, 2) := by decide +kernel
theorem d_M_again_58 : decode (xt_code m_M_again) 58 = .ok (.iaload, 1) := by decide +kernel
theorem d_M_again_59 : decode (xt_code m_M_again) 59 = .ok (.iconst 4, 1) := by decide +kernel
theorem d_M_again_60 : decode (xt_code m_M_again) 60 = .ok (.if_icmp .eq 17, 3) := by decide +kernel
theorem d_M_again_63 : decode (xt_code m_M_again) 63 = .ok (.aload_n 0, 1) := by decide +kernel
theorem d_M_again_64 : decode (xt_code m_M_again) 64 = .ok (.getfield 42, 3) := by decide +kernel
theorem d_M_again_67 : decode (xt_code m_M_again) 67 = .ok (.iload 4, 2) := by decide +kernel
theorem d_M_again_69 : decode (xt_code m_M_again) 69 = .ok (.iaload, 1) := by decide +kernel
theorem d_M_again_70 : decode (xt_code m_M_again) 70 = .ok (.iconst 5, 1) := by decide +kernel
theorem d_M_again_71 : decode (xt_code m_M_again) 71 = .ok (.if_icmp .eq 6, 3) := by decide +kernel
theorem d_M_again_74 : decode (xt_code m_M_again) 74 = .ok (.goto 30, 3) := by decide +kernel
theorem d_M_again_77 : decode (xt_code m_M_again) 77 = .ok (.aload_n 0, 1) := by decide +kernel
theorem d_M_again_78 : decode (xt_code m_M_again) 78 = .ok (.getfield 42, 3) := by decide +kernel
theorem d_M_again_81 : decode (xt_code m_M_again) 81 = .ok (.iload 4, 2) := by decide +kernel
theorem d_M_again_83 : decode (xt_code m_M_again) 83 = .ok (.iconst 0, 1) := by decide +kernel
theorem d_M_again_84 : decode (xt_code m_M_again) 84 = .ok (.iastore, 1) := by decide +kernel
theorem d_M_again_85 : decode (xt_code m_M_again) 85 = .ok (.aload_n 0, 1) := by decide +kernel
theorem d_M_again_86 : decode (xt_code m_M_again) 86 = .ok (.getfield 51, 3) := by decide +kernel
theorem d_M_again_89 : decode (xt_code m_M_again) 89 = .ok (.iload 4, 2) := by decide +kernel
theorem d_M_again_91 : decode (xt_code m_M_again) 91 = .ok (.iconst 0, 1) := by decide +kernel
theorem d_M_again_92 : decode (xt_code m_M_again) 92 = .ok (.iastore, 1) := by decide +kernel
theorem d_M_again_93 : decode (xt_code m_M_again) 93 = .ok (.aload_n 0, 1) := by decide +kernel
theorem d_M_again_94 : decode (xt_code m_M_again) 94 = .ok (.getfield 57, 3) := by decide +kernel
theorem d_M_again_97 : decode (xt_code m_M_again) 97 = .ok (.iload 4, 2) := by decide +kernel
theorem d_M_again_99 : decode (xt_code m_M_again) 99 = .ok (.iconst 0, 1) := by decide +kernel
theorem d_M_again_100 : decode (xt_code m_M_again) 100 = .ok (.iastore, 1) := by decide +kernel
theorem d_M_again_101 : decode (xt_code m_M_again) 101 = .ok (.iinc 2 1, 3) := by decide +kernel
theorem d_M_again_104 : decode (xt_code m_M_again) 104 = .ok (.iinc 3 1, 3) := by decide +kernel
theorem d_M_again_107 : decode (xt_code m_M_again) 107 = .ok (.goto (-71), 3) := by decide +kernel
theorem d_M_again_110 : decode (xt_code m_M_again) 110 = .ok (.aload_n 0, 1) := by decide +kernel
theorem d_M_again_111 : decode (xt_code m_M_again) 111 = .ok (.invokevirtual 114, 3) := by decide +kernel
theorem d_M_again_114 : decode (xt_code m_M_again) 114 = .ok (.iload_n 2, 1) := by decide +kernel
theorem d_M_again_115 : decode (xt_code m_M_again) 115 = .ok (.ireturn, 1) := by decide +kernel
theorem d_M_state_0 : decode (xt_code m_M_state) 0 = .ok (.aload_n 0, 1) := by decide +kernel
theorem d_M_state_1 : decode (xt_code m_M_state) 1 = .ok (.iconst 0, 1) := by decide +kernel
theorem d_M_state_2 : decode (xt_code m_M_state) 2 = .ok (.putfield 75, 3) := by decide +kernel
theorem d_M_state_5 : decode (xt_code m_M_state) 5 = .ok (.aload_n 0, 1) := by decide +kernel
theorem d_M_state_6 : decode (xt_code m_M_state) 6 = .ok (.iload_n 1, 1) := by decide +kernel
theorem d_M_state_7 : decode (xt_code m_M_state) 7 = .ok (.iload_n 2, 1) := by decide +kernel
theorem d_M_state_8 : decode (xt_code m_M_state) 8 = .ok (.invokevirtual 120, 3) := by decide +kernel
theorem d_M_state_11 : decode (xt_code m_M_state) 11 = .ok (.ifCond .eq 17, 3) := by decide +kernel
theorem d_M_state_14 : decode (xt_code m_M_state) 14 = .ok (.aload_n 0, 1) := by decide +kernel
theorem d_M_state_15 : decode (xt_code m_M_state) 15 = .ok (.getfield 42, 3) := by decide +kernel
theorem d_M_state_18 : decode (xt_code m_M_state) 18 = .ok (.bipush 12, 2) := by decide +kernel
theorem d_M_state_20 : decode (xt_code m_M_state) 20 = .ok (.iload_n 1, 1) := by decide +kernel
theorem d_M_state_21 : decode (xt_code m_M_state) 21 = .ok (.imul, 1) := by decide +kernel
theorem d_M_state_22 : decode (xt_code m_M_state) 22 = .ok (.iload_n 2, 1) := by decide +kernel
theorem d_M_state_23 : decode (xt_code m_M_state) 23 = .ok (.iadd, 1) := by decide +kernel
theorem d_M_state_24 : decode (xt_code m_M_state) 24 = .ok (.iaload, 1) := by decide +kernel
theorem d_M_state_25 : decode (xt_code m_M_state) 25 = .ok (.goto 4, 3) := by decide +kernel
theorem d_M_state_28 : decode (xt_code m_M_state) 28 = .ok (.iconst (-1), 1) := by decide +kernel
theorem d_M_state_29 : decode (xt_code m_M_state) 29 = .ok (.ireturn, 1) := by decide +kernel
theorem d_M_about_0 : decode (xt_code m_M_about) 0 = .ok (.aload_n 0, 1) := by decide +kernel
theorem d_M_about_1 : decode (xt_code m_M_about) 1 = .ok (.iconst 0, 1) := by decide +kernel
theorem d_M_about_2 : decode (xt_code m_M_about) 2 = .ok (.putfield 75, 3) := by decide +kernel
theorem d_M_about_5 : decode (xt_code m_M_about) 5 = .ok (.aload_n 0, 1) := by decide +kernel
theorem d_M_about_6 : decode (xt_code m_M_about) 6 = .ok (.iload_n 1, 1) := by decide +kernel
theorem d_M_about_7 : decode (xt_code m_M_about) 7 = .ok (.iload_n 2, 1) := by decide +kernel
theorem d_M_about_8 : decode (xt_code m_M_about) 8 = .ok (.invokevirtual 120, 3) := by decide +kernel
theorem d_M_about_11 : decode (xt_code m_M_about) 11 = .ok (.ifCond .ne 5, 3) := by decide +kernel
theorem d_M_about_14 : decode (xt_code m_M_about) 14 = .ok (.iconst (-1), 1) := by decide +kernel
theorem d_M_about_15 : decode (xt_code m_M_about) 15 = .ok (.ireturn, 1) := by decide +kernel
theorem d_M_about_16 : decode (xt_code m_M_about) 16 = .ok (.bipush 12, 2) := by decide +kernel
theorem d_M_about_18 : decode (xt_code m_M_about) 18 = .ok (.iload_n 1, 1) := by decide +kernel
theorem d_M_about_19 : decode (xt_code m_M_about) 19 = .ok (.imul, 1) := by decide +kernel
theorem d_M_about_20 : decode (xt_code m_M_about) 20 = .ok (.iload_n 2, 1) := by decide +kernel
theorem d_M_about_21 : decode (xt_code m_M_about) 21 = .ok (.iadd, 1) := by decide +kernel
theorem d_M_about_22 : decode (xt_code m_M_about) 22 = .ok (.istore 4, 2) := by decide +kernel
theorem d_M_about_24 : decode (xt_code m_M_about) 24 = .ok (.iconst 0, 1) := by decide +kernel
theorem d_M_about_25 : decode (xt_code m_M_about) 25 = .ok (.istore 5, 2) := by decide +kernel
theorem d_M_about_27 : decode (xt_code m_M_about) 27 = .ok (.iconst 0, 1) := by decide +kernel
theorem d_M_about_28 : decode (xt_code m_M_about) 28 = .ok (.istore 6, 2) := by decide +kernel
theorem d_M_about_30 : decode (xt_code m_M_about) 30 = .ok (.iload 6, 2) := by decide +kernel
theorem d_M_about_32 : decode (xt_code m_M_about) 32 = .ok (.iload_n 2, 1) := by decide +kernel
theorem d_M_about_33 : decode (xt_code m_M_about) 33 = .ok (.if_icmp .ge 45, 3) := by decide +kernel
theorem d_M_about_36 : decode (xt_code m_M_about) 36 = .ok (.iload 5, 2) := by decide +kernel
theorem d_M_about_38 : decode (xt_code m_M_about) 38 = .ok (.aload_n 0, 1) := by decide +kernel
theorem d_M_about_39 : decode (xt_code m_M_about) 39 = .ok (.getfield 23, 3) := by decide +kernel
theorem d_M_about_42 : decode (xt_code m_M_about) 42 = .ok (.iload_n 2, 1) := by decide +kernel
theorem d_M_about_43 : decode (xt_code m_M_about) 43 = .ok (.iaload, 1) := by decide +kernel
theorem d_M_about_44 : decode (xt_code m_M_about) 44 = .ok (.iload 6, 2) := by decide +kernel
theorem d_M_about_46 : decode (xt_code m_M_about) 46 = .ok (.ishr, 1) := by decide +kernel
theorem d_M_about_47 : decode (xt_code m_M_about) 47 = .ok (.iconst 1, 1) := by decide +kernel
theorem d_M_about_48 : decode (xt_code m_M_about) 48 = .ok (.iand, 1) := by decide +kernel
theorem d_M_about_49 : decode (xt_code m_M_about) 49 = .ok (.iconst 1, 1) := by decide +kernel
theorem d_M_about_50 : decode (xt_code m_M_about) 50 = .ok (.if_icmp .ne 18, 3) := by decide +kernel
theorem d_M_about_53 : decode (xt_code m_M_about) 53 = .ok (.aload_n 0, 1) := by decide +kernel
theorem d_M_about_54 : decode (xt_code m_M_about) 54 = .ok (.getfield 60, 3) := by decide +kernel
theorem d_M_about_57 : decode (xt_code m_M_about) 57 = .ok (.bipush 12, 2) := by decide +kernel
theorem d_M_about_59 : decode (xt_code m_M_about) 59 = .ok (.iload_n 1, 1) := by decide +kernel
theorem d_M_about_60 : decode (xt_code m_M_about) 60 = .ok (.imul, 1) := by decide +kernel
theorem d_M_about_61 : decode (xt_code m_M_about) 61 = .ok (.iload 6, 2) := by decide +kernel
theorem d_M_about_63 : decode (xt_code m_M_about) 63 = .ok (.iadd, 1) := by decide +kernel
theorem d_M_about_64 : decode (xt_code m_M_about) 64 = .ok (.iaload, 1) := by decide +kernel
theorem d_M_about_65 : decode (xt_code m_M_about) 65 = .ok (.goto 4, 3) := by decide +kernel
theorem d_M_about_68 : decode (xt_code m_M_about) 68 = .ok (.iconst 0, 1) := by decide +kernel
theorem d_M_about_69 : decode (xt_code m_M_about) 69 = .ok (.ixor, 1) := by decide +kernel
theorem d_M_about_70 : decode (xt_code m_M_about) 70 = .ok (.istore 5, 2) := by decide +kernel
theorem d_M_about_72 : decode (xt_code m_M_about) 72 = .ok (.iinc 6 1, 3) := by decide +kernel
theorem d_M_about_75 : decode (xt_code m_M_about) 75 = .ok (.goto (-45), 3) := by decide +kernel
theorem d_M_about_78 : decode (xt_code m_M_about) 78 = .ok (.iload_n 3, 1) := by decide +kernel
theorem d_M_about_79 : decode (xt_code m_M_about) 79 = .ok (.ifCond .ne 12, 3) := by decide +kernel
theorem d_M_about_82 : decode (xt_code m_M_about) 82 = .ok (.aload_n 0, 1) := by decide +kernel
theorem d_M_about_83 : decode (xt_code m_M_about) 83 = .ok (.iload 4, 2) := by decide +kernel
theorem d_M_about_85 : decode (xt_code m_M_about) 85 = .ok (.invokevirtual 134, 3) := by decide +kernel
theorem d_M_about_88 : decode (xt_code m_M_about) 88 = .ok (.goto 59, 3) := by decide +kernel
theorem d_M_about_91 : decode (xt_code m_M_about) 91 = .ok (.iload_n 3, 1) := by decide +kernel
theorem d_M_about_92 : decode (xt_code m_M_about) 92 = .ok (.iconst 1, 1) := by decide +kernel
theorem d_M_about_93 : decode (xt_code m_M_about) 93 = .ok (.if_icmp .ne 13, 3) := by decide +kernel
theorem d_M_about_96 : decode (xt_code m_M_about) 96 = .ok (.aload_n 0, 1) := by decide +kernel
theorem d_M_about_97 : decode (xt_code m_M_about) 97 = .ok (.getfield 48, 3) := by decide +kernel
theorem d_M_about_100 : decode (xt_code m_M_about) 100 = .ok (.iload 4, 2) := by decide +kernel
theorem d_M_about_102 : decode (xt_code m_M_about) 102 = .ok (.iaload, 1) := by decide +kernel
theorem d_M_about_103 : decode (xt_code m_M_about) 103 = .ok (.goto 44, 3) := by decide +kernel
theorem d_M_about_106 : decode (xt_code m_M_about) 106 = .ok (.iload_n 3, 1) := by decide +kernel
theorem d_M_about_107 : decode (xt_code m_M_about) 107 = .ok (.iconst 2, 1) := by decide +kernel
theorem d_M_about_108 : decode (xt_code m_M_about) 108 = .ok (.if_icmp .ne 13, 3) := by decide +kernel
theorem d_M_about_111 : decode (xt_code m_M_about) 111 = .ok (.aload_n 0, 1) := by decide +kernel
theorem d_M_about_112 : decode (xt_code m_M_about) 112 = .ok (.getfield 54, 3) := by decide +kernel
theorem d_M_about_115 : decode (xt_code m_M_about) 115 = .ok (.iload 4, 2) := by decide +kernel
theorem d_M_about_117 : decode (xt_code m_M_about) 117 = .ok (.iaload, 1) := by decide +kernel
theorem d_M_about_118 : decode (xt_code m_M_about) 118 = .ok (.goto 29, 3) := by decide +kernel
theorem d_M_about_121 : decode (xt_code m_M_about) 121 = .ok (.iload_n 3, 1) := by decide +kernel
theorem d_M_about_122 : decode (xt_code m_M_about) 122 = .ok (.iconst 3, 1) := by decide +kernel
theorem d_M_about_123 : decode (xt_code m_M_about) 123 = .ok (.if_icmp .ne 13, 3) := by decide +kernel
theorem d_M_about_126 : decode (xt_code m_M_about) 126 = .ok (.aload_n 0, 1) := by decide +kernel
theorem d_M_about_127 : decode (xt_code m_M_about) 127 = .ok (.getfield 60, 3) := by decide +kernel
theorem d_M_about_130 : decode (xt_code m_M_about) 130 = .ok (.iload 4, 2) := by decide +kernel
theorem d_M_about_132 : decode (xt_code m_M_about) 132 = .ok (.iaload, 1) := by decide +kernel
theorem d_M_about_133 : decode (xt_code m_M_about) 133 = .ok (.goto 14, 3) := by decide +kernel
theorem d_M_about_136 : decode (xt_code m_M_about) 136 = .ok (.iload_n 3, 1) := by decide +kernel
theorem d_M_about_137 : decode (xt_code m_M_about) 137 = .ok (.iconst 4, 1) := by decide +kernel
theorem d_M_about_138 : decode (xt_code m_M_about) 138 = .ok (.if_icmp .ne 8, 3) := by decide +kernel
theorem d_M_about_141 : decode (xt_code m_M_about) 141 = .ok (.iload 5, 2) := by decide +kernel
theorem d_M_about_143 : decode (xt_code m_M_about) 143 = .ok (.goto 4, 3) := by decide +kernel
theorem d_M_about_146 : decode (xt_code m_M_about) 146 = .ok (.iconst 0, 1) := by decide +kernel
theorem d_M_about_147 : decode (xt_code m_M_about) 147 = .ok (.ireturn, 1) := by decide +kernel
theorem d_M_verdict_0 : decode (xt_code m_M_verdict) 0 = .ok (.aload_n 0, 1) := by decide +kernel
theorem d_M_verdict_1 : decode (xt_code m_M_verdict) 1 = .ok (.iconst 0, 1) := by decide +kernel
theorem d_M_verdict_2 : decode (xt_code m_M_verdict) 2 = .ok (.putfield 75, 3) := by decide +kernel
theorem d_M_verdict_5 : decode (xt_code m_M_verdict) 5 = .ok (.aload_n 0, 1) := by decide +kernel
theorem d_M_verdict_6 : decode (xt_code m_M_verdict) 6 = .ok (.iload_n 1, 1) := by decide +kernel
theorem d_M_verdict_7 : decode (xt_code m_M_verdict) 7 = .ok (.invokevirtual 117, 3) := by decide +kernel
theorem d_M_verdict_10 : decode (xt_code m_M_verdict) 10 = .ok (.ifCond .ne 5, 3) := by decide +kernel
theorem d_M_verdict_13 : decode (xt_code m_M_verdict) 13 = .ok (.iconst (-1), 1) := by decide +kernel
theorem d_M_verdict_14 : decode (xt_code m_M_verdict) 14 = .ok (.ireturn, 1) := by decide +kernel
theorem d_M_verdict_15 : decode (xt_code m_M_verdict) 15 = .ok (.aload_n 0, 1) := by decide +kernel
theorem d_M_verdict_16 : decode (xt_code m_M_verdict) 16 = .ok (.iload_n 1, 1) := by decide +kernel
theorem d_M_verdict_17 : decode (xt_code m_M_verdict) 17 = .ok (.invokevirtual 108, 3) := by decide +kernel
theorem d_M_verdict_20 : decode (xt_code m_M_verdict) 20 = .ok (.ifCond .ne 5, 3) := by decide +kernel
theorem d_M_verdict_23 : decode (xt_code m_M_verdict) 23 = .ok (.iconst 0, 1) := by decide +kernel
theorem d_M_verdict_24 : decode (xt_code m_M_verdict) 24 = .ok (.ireturn, 1) := by decide +kernel
theorem d_M_verdict_25 : decode (xt_code m_M_verdict) 25 = .ok (.iconst 0, 1) := by decide +kernel
theorem d_M_verdict_26 : decode (xt_code m_M_verdict) 26 = .ok (.istore_n 2, 1) := by decide +kernel
theorem d_M_verdict_27 : decode (xt_code m_M_verdict) 27 = .ok (.iconst 0, 1) := by decide +kernel
theorem d_M_verdict_28 : decode (xt_code m_M_verdict) 28 = .ok (.istore_n 3, 1) := by decide +kernel
theorem d_M_verdict_29 : decode (xt_code m_M_verdict) 29 = .ok (.iload_n 3, 1) := by decide +kernel
theorem d_M_verdict_30 : decode (xt_code m_M_verdict) 30 = .ok (.aload_n 0, 1) := by decide +kernel
theorem d_M_verdict_31 : decode (xt_code m_M_verdict) 31 = .ok (.getfield 78, 3) := by decide +kernel
theorem d_M_verdict_34 : decode (xt_code m_M_verdict) 34 = .ok (.if_icmp .ge 34, 3) := by decide +kernel
theorem d_M_verdict_37 : decode (xt_code m_M_verdict) 37 = .ok (.iload_n 2, 1) := by decide +kernel
theorem d_M_verdict_38 : decode (xt_code m_M_verdict) 38 = .ok (.ifCond .ne 18, 3) := by decide +kernel
theorem d_M_verdict_41 : decode (xt_code m_M_verdict) 41 = .ok (.aload_n 0, 1) := by decide +kernel
theorem d_M_verdict_42 : decode (xt_code m_M_verdict) 42 = .ok (.getfield 42, 3) := by decide +kernel
theorem d_M_verdict_45 : decode (xt_code m_M_verdict) 45 = .ok (.bipush 12, 2) := by decide +kernel
theorem d_M_verdict_47 : decode (xt_code m_M_verdict) 47 = .ok (.iload_n 1, 1) := by decide +kernel
theorem d_M_verdict_48 : decode (xt_code m_M_verdict) 48 = .ok (.imul, 1) := by decide +kernel
theorem d_M_verdict_49 : decode (xt_code m_M_verdict) 49 = .ok (.iload_n 3, 1) := by decide +kernel
theorem d_M_verdict_50 : decode (xt_code m_M_verdict) 50 = .ok (.iadd, 1) := by decide +kernel
theorem d_M_verdict_51 : decode (xt_code m_M_verdict) 51 = .ok (.iaload, 1) := by decide +kernel
theorem d_M_verdict_52 : decode (xt_code m_M_verdict) 52 = .ok (.iconst 4, 1) := by decide +kernel
theorem d_M_verdict_53 : decode (xt_code m_M_verdict) 53 = .ok (.if_icmp .ne 7, 3) := by decide +kernel
theorem d_M_verdict_56 : decode (xt_code m_M_verdict) 56 = .ok (.iconst 1, 1) := by decide +kernel
theorem d_M_verdict_57 : decode (xt_code m_M_verdict) 57 = .ok (.goto 4, 3) := by decide +kernel
theorem d_M_verdict_60 : decode (xt_code m_M_verdict) 60 = .ok (.iconst 0, 1) := by decide +kernel
theorem d_M_verdict_61 : decode (xt_code m_M_verdict) 61 = .ok (.istore_n 2, 1) := by decide +kernel
theorem d_M_verdict_62 : decode (xt_code m_M_verdict) 62 = .ok (.iinc 3 1, 3) := by decide +kernel
theorem d_M_verdict_65 : decode (xt_code m_M_verdict) 65 = .ok (.goto (-36), 3) := by decide +kernel
theorem d_M_verdict_68 : decode (xt_code m_M_verdict) 68 = .ok (.aload_n 0, 1) := by decide +kernel
theorem d_M_verdict_69 : decode (xt_code m_M_verdict) 69 = .ok (.getfield 39, 3) := by decide +kernel
theorem d_M_verdict_72 : decode (xt_code m_M_verdict) 72 = .ok (.iload_n 1, 1) := by decide +kernel
theorem d_M_verdict_73 : decode (xt_code m_M_verdict) 73 = .ok (.baload, 1) := by decide +kernel
theorem d_M_verdict_74 : decode (xt_code m_M_verdict) 74 = .ok (.ifCond .eq 7, 3) := by decide +kernel
theorem d_M_verdict_77 : decode (xt_code m_M_verdict) 77 = .ok (.iconst 3, 1) := by decide +kernel
theorem d_M_verdict_78 : decode (xt_code m_M_verdict) 78 = .ok (.goto 12, 3) := by decide +kernel
theorem d_M_verdict_81 : decode (xt_code m_M_verdict) 81 = .ok (.iload_n 2, 1) := by decide +kernel
theorem d_M_verdict_82 : decode (xt_code m_M_verdict) 82 = .ok (.ifCond .eq 7, 3) := by decide +kernel
theorem d_M_verdict_85 : decode (xt_code m_M_verdict) 85 = .ok (.iconst 2, 1) := by decide +kernel
theorem d_M_verdict_86 : decode (xt_code m_M_verdict) 86 = .ok (.goto 4, 3) := by decide +kernel
theorem d_M_verdict_89 : decode (xt_code m_M_verdict) 89 = .ok (.iconst 1, 1) := by decide +kernel
theorem d_M_verdict_90 : decode (xt_code m_M_verdict) 90 = .ok (.ireturn, 1) := by decide +kernel
theorem d_M_has_0 : decode (xt_code m_M_has) 0 = .ok (.aload_n 0, 1) := by decide +kernel
theorem d_M_has_1 : decode (xt_code m_M_has) 1 = .ok (.iconst 0, 1) := by decide +kernel
theorem d_M_has_2 : decode (xt_code m_M_has) 2 = .ok (.putfield 75, 3) := by decide +kernel
theorem d_M_has_5 : decode (xt_code m_M_has) 5 = .ok (.aload_n 0, 1) := by decide +kernel
theorem d_M_has_6 : decode (xt_code m_M_has) 6 = .ok (.iload_n 1, 1) := by decide +kernel
theorem d_M_has_7 : decode (xt_code m_M_has) 7 = .ok (.invokevirtual 124, 3) := by decide +kernel
theorem d_M_has_10 : decode (xt_code m_M_has) 10 = .ok (.ifCond .eq 12, 3) := by decide +kernel
theorem d_M_has_13 : decode (xt_code m_M_has) 13 = .ok (.aload_n 0, 1) := by decide +kernel
theorem d_M_has_14 : decode (xt_code m_M_has) 14 = .ok (.getfield 72, 3) := by decide +kernel
theorem d_M_has_17 : decode (xt_code m_M_has) 17 = .ok (.iload_n 1, 1) := by decide +kernel
theorem d_M_has_18 : decode (xt_code m_M_has) 18 = .ok (.iaload, 1) := by decide +kernel
theorem d_M_has_19 : decode (xt_code m_M_has) 19 = .ok (.goto 4, 3) := by decide +kernel
theorem d_M_has_22 : decode (xt_code m_M_has) 22 = .ok (.iconst (-1), 1) := by decide +kernel
theorem d_M_has_23 : decode (xt_code m_M_has) 23 = .ok (.ireturn, 1) := by decide +kernel
theorem d_L_law_0 : decode (xt_code m_L_law) 0 = .ok (.new 7, 3) := by decide +kernel
theorem d_L_law_3 : decode (xt_code m_L_law) 3 = .ok (.dup, 1) := by decide +kernel
theorem d_L_law_4 : decode (xt_code m_L_law) 4 = .ok (.invokespecial 9, 3) := by decide +kernel
theorem d_L_law_7 : decode (xt_code m_L_law) 7 = .ok (.astore_n 1, 1) := by decide +kernel
