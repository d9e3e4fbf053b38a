/-! decode rows, by program -/
theorem d_M_isOver_37 : decode (xt_code m_M_isOver) 37 = .ok (.iconst 0, 1) := by decide +kernel
theorem d_M_isOver_38 : decode (xt_code m_M_isOver) 38 = .ok (.istore_n 2, 1) := by decide +kernel
theorem d_M_isOver_39 : decode (xt_code m_M_isOver) 39 = .ok (.iinc 3 1, 3) := by decide +kernel
theorem d_M_isOver_42 : decode (xt_code m_M_isOver) 42 = .ok (.goto (-38), 3) := by decide +kernel
theorem d_M_isOver_45 : decode (xt_code m_M_isOver) 45 = .ok (.iload_n 2, 1) := by decide +kernel
theorem d_M_isOver_46 : decode (xt_code m_M_isOver) 46 = .ok (.ireturn, 1) := by decide +kernel
theorem d_M_isEnd_0 : decode (xt_code m_M_isEnd) 0 = .ok (.iload_n 0, 1) := by decide +kernel
theorem d_M_isEnd_1 : decode (xt_code m_M_isEnd) 1 = .ok (.iconst 2, 1) := by decide +kernel
theorem d_M_isEnd_2 : decode (xt_code m_M_isEnd) 2 = .ok (.if_icmp .le 7, 3) := by decide +kernel
theorem d_M_isEnd_5 : decode (xt_code m_M_isEnd) 5 = .ok (.iconst 1, 1) := by decide +kernel
theorem d_M_isEnd_6 : decode (xt_code m_M_isEnd) 6 = .ok (.goto 4, 3) := by decide +kernel
theorem d_M_isEnd_9 : decode (xt_code m_M_isEnd) 9 = .ok (.iconst 0, 1) := by decide +kernel
theorem d_M_isEnd_10 : decode (xt_code m_M_isEnd) 10 = .ok (.ireturn, 1) := by decide +kernel
theorem d_M_stop_0 : decode (xt_code m_M_stop) 0 = .ok (.iconst 0, 1) := by decide +kernel
theorem d_M_stop_1 : decode (xt_code m_M_stop) 1 = .ok (.istore_n 2, 1) := by decide +kernel
theorem d_M_stop_2 : decode (xt_code m_M_stop) 2 = .ok (.iload_n 2, 1) := by decide +kernel
theorem d_M_stop_3 : decode (xt_code m_M_stop) 3 = .ok (.aload_n 0, 1) := by decide +kernel
theorem d_M_stop_4 : decode (xt_code m_M_stop) 4 = .ok (.getfield 78, 3) := by decide +kernel
theorem d_M_stop_7 : decode (xt_code m_M_stop) 7 = .ok (.if_icmp .ge 53, 3) := by decide +kernel
theorem d_M_stop_10 : decode (xt_code m_M_stop) 10 = .ok (.bipush 12, 2) := by decide +kernel
theorem d_M_stop_12 : decode (xt_code m_M_stop) 12 = .ok (.iload_n 1, 1) := by decide +kernel
theorem d_M_stop_13 : decode (xt_code m_M_stop) 13 = .ok (.imul, 1) := by decide +kernel
theorem d_M_stop_14 : decode (xt_code m_M_stop) 14 = .ok (.iload_n 2, 1) := by decide +kernel
theorem d_M_stop_15 : decode (xt_code m_M_stop) 15 = .ok (.iadd, 1) := by decide +kernel
theorem d_M_stop_16 : decode (xt_code m_M_stop) 16 = .ok (.istore_n 3, 1) := by decide +kernel
theorem d_M_stop_17 : decode (xt_code m_M_stop) 17 = .ok (.aload_n 0, 1) := by decide +kernel
theorem d_M_stop_18 : decode (xt_code m_M_stop) 18 = .ok (.getfield 26, 3) := by decide +kernel
theorem d_M_stop_21 : decode (xt_code m_M_stop) 21 = .ok (.iload_n 2, 1) := by decide +kernel
theorem d_M_stop_22 : decode (xt_code m_M_stop) 22 = .ok (.baload, 1) := by decide +kernel
theorem d_M_stop_23 : decode (xt_code m_M_stop) 23 = .ok (.ifCond .ne 31, 3) := by decide +kernel
theorem d_M_stop_26 : decode (xt_code m_M_stop) 26 = .ok (.aload_n 0, 1) := by decide +kernel
theorem d_M_stop_27 : decode (xt_code m_M_stop) 27 = .ok (.getfield 42, 3) := by decide +kernel
theorem d_M_stop_30 : decode (xt_code m_M_stop) 30 = .ok (.iload_n 3, 1) := by decide +kernel
theorem d_M_stop_31 : decode (xt_code m_M_stop) 31 = .ok (.iaload, 1) := by decide +kernel
theorem d_M_stop_32 : decode (xt_code m_M_stop) 32 = .ok (.invokestatic 94, 3) := by decide +kernel
theorem d_M_stop_35 : decode (xt_code m_M_stop) 35 = .ok (.ifCond .eq 6, 3) := by decide +kernel
theorem d_M_stop_38 : decode (xt_code m_M_stop) 38 = .ok (.goto 16, 3) := by decide +kernel
theorem d_M_stop_41 : decode (xt_code m_M_stop) 41 = .ok (.aload_n 0, 1) := by decide +kernel
theorem d_M_stop_42 : decode (xt_code m_M_stop) 42 = .ok (.iload_n 3, 1) := by decide +kernel
theorem d_M_stop_43 : decode (xt_code m_M_stop) 43 = .ok (.invokevirtual 104, 3) := by decide +kernel
theorem d_M_stop_46 : decode (xt_code m_M_stop) 46 = .ok (.aload_n 0, 1) := by decide +kernel
theorem d_M_stop_47 : decode (xt_code m_M_stop) 47 = .ok (.getfield 42, 3) := by decide +kernel
theorem d_M_stop_50 : decode (xt_code m_M_stop) 50 = .ok (.iload_n 3, 1) := by decide +kernel
theorem d_M_stop_51 : decode (xt_code m_M_stop) 51 = .ok (.bipush 6, 2) := by decide +kernel
theorem d_M_stop_53 : decode (xt_code m_M_stop) 53 = .ok (.iastore, 1) := by decide +kernel
theorem d_M_stop_54 : decode (xt_code m_M_stop) 54 = .ok (.iinc 2 1, 3) := by decide +kernel
theorem d_M_stop_57 : decode (xt_code m_M_stop) 57 = .ok (.goto (-55), 3) := by decide +kernel
theorem d_M_stop_60 : decode (xt_code m_M_stop) 60 = .ok (.aload_n 0, 1) := by decide +kernel
theorem d_M_stop_61 : decode (xt_code m_M_stop) 61 = .ok (.getfield 39, 3) := by decide +kernel
theorem d_M_stop_64 : decode (xt_code m_M_stop) 64 = .ok (.iload_n 1, 1) := by decide +kernel
theorem d_M_stop_65 : decode (xt_code m_M_stop) 65 = .ok (.iconst 1, 1) := by decide +kernel
theorem d_M_stop_66 : decode (xt_code m_M_stop) 66 = .ok (.bastore, 1) := by decide +kernel
theorem d_M_stop_67 : decode (xt_code m_M_stop) 67 = .ok (.return_, 1) := by decide +kernel
theorem d_M_free_0 : decode (xt_code m_M_free) 0 = .ok (.iconst 0, 1) := by decide +kernel
theorem d_M_free_1 : decode (xt_code m_M_free) 1 = .ok (.istore_n 2, 1) := by decide +kernel
theorem d_M_free_2 : decode (xt_code m_M_free) 2 = .ok (.iload_n 2, 1) := by decide +kernel
theorem d_M_free_3 : decode (xt_code m_M_free) 3 = .ok (.aload_n 0, 1) := by decide +kernel
theorem d_M_free_4 : decode (xt_code m_M_free) 4 = .ok (.getfield 84, 3) := by decide +kernel
theorem d_M_free_7 : decode (xt_code m_M_free) 7 = .ok (.if_icmp .ge 35, 3) := by decide +kernel
theorem d_M_free_10 : decode (xt_code m_M_free) 10 = .ok (.aload_n 0, 1) := by decide +kernel
theorem d_M_free_11 : decode (xt_code m_M_free) 11 = .ok (.getfield 72, 3) := by decide +kernel
theorem d_M_free_14 : decode (xt_code m_M_free) 14 = .ok (.iload_n 2, 1) := by decide +kernel
theorem d_M_free_15 : decode (xt_code m_M_free) 15 = .ok (.aload_n 0, 1) := by decide +kernel
theorem d_M_free_16 : decode (xt_code m_M_free) 16 = .ok (.getfield 72, 3) := by decide +kernel
theorem d_M_free_19 : decode (xt_code m_M_free) 19 = .ok (.iload_n 2, 1) := by decide +kernel
theorem d_M_free_20 : decode (xt_code m_M_free) 20 = .ok (.iaload, 1) := by decide +kernel
theorem d_M_free_21 : decode (xt_code m_M_free) 21 = .ok (.iload_n 1, 1) := by decide +kernel
theorem d_M_free_22 : decode (xt_code m_M_free) 22 = .ok (.if_icmp .ne 7, 3) := by decide +kernel
theorem d_M_free_25 : decode (xt_code m_M_free) 25 = .ok (.iconst (-1), 1) := by decide +kernel
theorem d_M_free_26 : decode (xt_code m_M_free) 26 = .ok (.goto 9, 3) := by decide +kernel
theorem d_M_free_29 : decode (xt_code m_M_free) 29 = .ok (.aload_n 0, 1) := by decide +kernel
theorem d_M_free_30 : decode (xt_code m_M_free) 30 = .ok (.getfield 72, 3) := by decide +kernel
theorem d_M_free_33 : decode (xt_code m_M_free) 33 = .ok (.iload_n 2, 1) := by decide +kernel
theorem d_M_free_34 : decode (xt_code m_M_free) 34 = .ok (.iaload, 1) := by decide +kernel
theorem d_M_free_35 : decode (xt_code m_M_free) 35 = .ok (.iastore, 1) := by decide +kernel
theorem d_M_free_36 : decode (xt_code m_M_free) 36 = .ok (.iinc 2 1, 3) := by decide +kernel
theorem d_M_free_39 : decode (xt_code m_M_free) 39 = .ok (.goto (-37), 3) := by decide +kernel
theorem d_M_free_42 : decode (xt_code m_M_free) 42 = .ok (.return_, 1) := by decide +kernel
theorem d_M_settle_0 : decode (xt_code m_M_settle) 0 = .ok (.iconst 0, 1) := by decide +kernel
theorem d_M_settle_1 : decode (xt_code m_M_settle) 1 = .ok (.istore_n 1, 1) := by decide +kernel
theorem d_M_settle_2 : decode (xt_code m_M_settle) 2 = .ok (.iload_n 1, 1) := by decide +kernel
theorem d_M_settle_3 : decode (xt_code m_M_settle) 3 = .ok (.bipush 12, 2) := by decide +kernel
theorem d_M_settle_5 : decode (xt_code m_M_settle) 5 = .ok (.aload_n 0, 1) := by decide +kernel
theorem d_M_settle_6 : decode (xt_code m_M_settle) 6 = .ok (.getfield 81, 3) := by decide +kernel
theorem d_M_settle_9 : decode (xt_code m_M_settle) 9 = .ok (.imul, 1) := by decide +kernel
theorem d_M_settle_10 : decode (xt_code m_M_settle) 10 = .ok (.if_icmp .ge 47, 3) := by decide +kernel
theorem d_M_settle_13 : decode (xt_code m_M_settle) 13 = .ok (.iload_n 1, 1) := by decide +kernel
theorem d_M_settle_14 : decode (xt_code m_M_settle) 14 = .ok (.bipush 12, 2) := by decide +kernel
theorem d_M_settle_16 : decode (xt_code m_M_settle) 16 = .ok (.irem, 1) := by decide +kernel
theorem d_M_settle_17 : decode (xt_code m_M_settle) 17 = .ok (.aload_n 0, 1) := by decide +kernel
theorem d_M_settle_18 : decode (xt_code m_M_settle) 18 = .ok (.getfield 78, 3) := by decide +kernel
theorem d_M_settle_21 : decode (xt_code m_M_settle) 21 = .ok (.if_icmp .ge 30, 3) := by decide +kernel
theorem d_M_settle_24 : decode (xt_code m_M_settle) 24 = .ok (.aload_n 0, 1) := by decide +kernel
theorem d_M_settle_25 : decode (xt_code m_M_settle) 25 = .ok (.getfield 42, 3) := by decide +kernel
theorem d_M_settle_28 : decode (xt_code m_M_settle) 28 = .ok (.iload_n 1, 1) := by decide +kernel
theorem d_M_settle_29 : decode (xt_code m_M_settle) 29 = .ok (.iaload, 1) := by decide +kernel
theorem d_M_settle_30 : decode (xt_code m_M_settle) 30 = .ok (.ifCond .ne 21, 3) := by decide +kernel
theorem d_M_settle_33 : decode (xt_code m_M_settle) 33 = .ok (.aload_n 0, 1) := by decide +kernel
theorem d_M_settle_34 : decode (xt_code m_M_settle) 34 = .ok (.getfield 42, 3) := by decide +kernel
theorem d_M_settle_37 : decode (xt_code m_M_settle) 37 = .ok (.iload_n 1, 1) := by decide +kernel
theorem d_M_settle_38 : decode (xt_code m_M_settle) 38 = .ok (.aload_n 0, 1) := by decide +kernel
theorem d_M_settle_39 : decode (xt_code m_M_settle) 39 = .ok (.iload_n 1, 1) := by decide +kernel
theorem d_M_settle_40 : decode (xt_code m_M_settle) 40 = .ok (.bipush 12, 2) := by decide +kernel
theorem d_M_settle_42 : decode (xt_code m_M_settle) 42 = .ok (.idiv, 1) := by decide +kernel
theorem d_M_settle_43 : decode (xt_code m_M_settle) 43 = .ok (.iload_n 1, 1) := by decide +kernel
theorem d_M_settle_44 : decode (xt_code m_M_settle) 44 = .ok (.bipush 12, 2) := by decide +kernel
theorem d_M_settle_46 : decode (xt_code m_M_settle) 46 = .ok (.irem, 1) := by decide +kernel
theorem d_M_settle_47 : decode (xt_code m_M_settle) 47 = .ok (.invokevirtual 100, 3) := by decide +kernel
theorem d_M_settle_50 : decode (xt_code m_M_settle) 50 = .ok (.iastore, 1) := by decide +kernel
theorem d_M_settle_51 : decode (xt_code m_M_settle) 51 = .ok (.iinc 1 1, 3) := by decide +kernel
theorem d_M_settle_54 : decode (xt_code m_M_settle) 54 = .ok (.goto (-52), 3) := by decide +kernel
theorem d_M_settle_57 : decode (xt_code m_M_settle) 57 = .ok (.return_, 1) := by decide +kernel
theorem d_M_becomes_0 : decode (xt_code m_M_becomes) 0 = .ok (.aload_n 0, 1) := by decide +kernel
theorem d_M_becomes_1 : decode (xt_code m_M_becomes) 1 = .ok (.getfield 39, 3) := by decide +kernel
theorem d_M_becomes_4 : decode (xt_code m_M_becomes) 4 = .ok (.iload_n 1, 1) := by decide +kernel
theorem d_M_becomes_5 : decode (xt_code m_M_becomes) 5 = .ok (.baload, 1) := by decide +kernel
theorem d_M_becomes_6 : decode (xt_code m_M_becomes) 6 = .ok (.ifCond .eq 15, 3) := by decide +kernel
theorem d_M_becomes_9 : decode (xt_code m_M_becomes) 9 = .ok (.aload_n 0, 1) := by decide +kernel
theorem d_M_becomes_10 : decode (xt_code m_M_becomes) 10 = .ok (.getfield 26, 3) := by decide +kernel
theorem d_M_becomes_13 : decode (xt_code m_M_becomes) 13 = .ok (.iload_n 2, 1) := by decide +kernel
theorem d_M_becomes_14 : decode (xt_code m_M_becomes) 14 = .ok (.baload, 1) := by decide +kernel
theorem d_M_becomes_15 : decode (xt_code m_M_becomes) 15 = .ok (.ifCond .ne 6, 3) := by decide +kernel
theorem d_M_becomes_18 : decode (xt_code m_M_becomes) 18 = .ok (.bipush 6, 2) := by decide +kernel
theorem d_M_becomes_20 : decode (xt_code m_M_becomes) 20 = .ok (.ireturn, 1) := by decide +kernel
theorem d_M_becomes_21 : decode (xt_code m_M_becomes) 21 = .ok (.iconst 1, 1) := by decide +kernel
theorem d_M_becomes_22 : decode (xt_code m_M_becomes) 22 = .ok (.istore_n 3, 1) := by decide +kernel
theorem d_M_becomes_23 : decode (xt_code m_M_becomes) 23 = .ok (.iconst 0, 1) := by decide +kernel
theorem d_M_becomes_24 : decode (xt_code m_M_becomes) 24 = .ok (.istore 4, 2) := by decide +kernel
theorem d_M_becomes_26 : decode (xt_code m_M_becomes) 26 = .ok (.iload 4, 2) := by decide +kernel
theorem d_M_becomes_28 : decode (xt_code m_M_becomes) 28 = .ok (.iload_n 2, 1) := by decide +kernel
theorem d_M_becomes_29 : decode (xt_code m_M_becomes) 29 = .ok (.if_icmp .ge 83, 3) := by decide +kernel
theorem d_M_becomes_32 : decode (xt_code m_M_becomes) 32 = .ok (.aload_n 0, 1) := by decide +kernel
theorem d_M_becomes_33 : decode (xt_code m_M_becomes) 33 = .ok (.getfield 23, 3) := by decide +kernel
theorem d_M_becomes_36 : decode (xt_code m_M_becomes) 36 = .ok (.iload_n 2, 1) := by decide +kernel
theorem d_M_becomes_37 : decode (xt_code m_M_becomes) 37 = .ok (.iaload, 1) := by decide +kernel
theorem d_M_becomes_38 : decode (xt_code m_M_becomes) 38 = .ok (.iload 4, 2) := by decide +kernel
theorem d_M_becomes_40 : decode (xt_code m_M_becomes) 40 = .ok (.ishr, 1) := by decide +kernel
theorem d_M_becomes_41 : decode (xt_code m_M_becomes) 41 = .ok (.iconst 1, 1) := by decide +kernel
theorem d_M_becomes_42 : decode (xt_code m_M_becomes) 42 = .ok (.iand, 1) := by decide +kernel
theorem d_M_becomes_43 : decode (xt_code m_M_becomes) 43 = .ok (.ifCond .ne 6, 3) := by decide +kernel
theorem d_M_becomes_46 : decode (xt_code m_M_becomes) 46 = .ok (.goto 60, 3) := by decide +kernel
theorem d_M_becomes_49 : decode (xt_code m_M_becomes) 49 = .ok (.aload_n 0, 1) := by decide +kernel
theorem d_M_becomes_50 : decode (xt_code m_M_becomes) 50 = .ok (.getfield 42, 3) := by decide +kernel
theorem d_M_becomes_53 : decode (xt_code m_M_becomes) 53 = .ok (.bipush 12, 2) := by decide +kernel
theorem d_M_becomes_55 : decode (xt_code m_M_becomes) 55 = .ok (.iload_n 1, 1) := by decide +kernel
theorem d_M_becomes_56 : decode (xt_code m_M_becomes) 56 = .ok (.imul, 1) := by decide +kernel
theorem d_M_becomes_57 : decode (xt_code m_M_becomes) 57 = .ok (.iload 4, 2) := by decide +kernel
theorem d_M_becomes_59 : decode (xt_code m_M_becomes) 59 = .ok (.iadd, 1) := by decide +kernel
theorem d_M_becomes_60 : decode (xt_code m_M_becomes) 60 = .ok (.iaload, 1) := by decide +kernel
theorem d_M_becomes_61 : decode (xt_code m_M_becomes) 61 = .ok (.istore 5, 2) := by decide +kernel
theorem d_M_becomes_63 : decode (xt_code m_M_becomes) 63 = .ok (.iload 5, 2) := by decide +kernel
theorem d_M_becomes_65 : decode (xt_code m_M_becomes) 65 = .ok (.invokestatic 94, 3) := by decide +kernel
theorem d_M_becomes_68 : decode (xt_code m_M_becomes) 68 = .ok (.ifCond .eq 20, 3) := by decide +kernel
theorem d_M_becomes_71 : decode (xt_code m_M_becomes) 71 = .ok (.iload 5, 2) := by decide +kernel
theorem d_M_becomes_73 : decode (xt_code m_M_becomes) 73 = .ok (.iconst 3, 1) := by decide +kernel
theorem d_M_becomes_74 : decode (xt_code m_M_becomes) 74 = .ok (.if_icmp .eq 14, 3) := by decide +kernel
theorem d_M_becomes_77 : decode (xt_code m_M_becomes) 77 = .ok (.aload_n 0, 1) := by decide +kernel
theorem d_M_becomes_78 : decode (xt_code m_M_becomes) 78 = .ok (.getfield 26, 3) := by decide +kernel
theorem d_M_becomes_81 : decode (xt_code m_M_becomes) 81 = .ok (.iload_n 2, 1) := by decide +kernel
theorem d_M_becomes_82 : decode (xt_code m_M_becomes) 82 = .ok (.baload, 1) := by decide +kernel
theorem d_M_becomes_83 : decode (xt_code m_M_becomes) 83 = .ok (.ifCond .ne 5, 3) := by decide +kernel
theorem d_M_becomes_86 : decode (xt_code m_M_becomes) 86 = .ok (.iconst 5, 1) := by decide +kernel
theorem d_M_becomes_87 : decode (xt_code m_M_becomes) 87 = .ok (.ireturn, 1) := by decide +kernel
theorem d_M_becomes_88 : decode (xt_code m_M_becomes) 88 = .ok (.iload_n 3, 1) := by decide +kernel
theorem d_M_becomes_89 : decode (xt_code m_M_becomes) 89 = .ok (.ifCond .eq 15, 3) := by decide +kernel
theorem d_M_becomes_92 : decode (xt_code m_M_becomes) 92 = .ok (.iload 5, 2) := by decide +kernel
theorem d_M_becomes_94 : decode (xt_code m_M_becomes) 94 = .ok (.invokestatic 94, 3) := by decide +kernel
theorem d_M_becomes_97 : decode (xt_code m_M_becomes) 97 = .ok (.ifCond .eq 7, 3) := by decide +kernel
theorem d_M_becomes_100 : decode (xt_code m_M_becomes) 100 = .ok (.iconst 1, 1) := by decide +kernel
theorem d_M_becomes_101 : decode (xt_code m_M_becomes) 101 = .ok (.goto 4, 3) := by decide +kernel
theorem d_M_becomes_104 : decode (xt_code m_M_becomes) 104 = .ok (.iconst 0, 1) := by decide +kernel
theorem d_M_becomes_105 : decode (xt_code m_M_becomes) 105 = .ok (.istore_n 3, 1) := by decide +kernel
theorem d_M_becomes_106 : decode (xt_code m_M_becomes) 106 = .ok (.iinc 4 1, 3) := by decide +kernel
theorem d_M_becomes_109 : decode (xt_code m_M_becomes) 109 = .ok (.goto (-83), 3) := by decide +kernel
theorem d_M_becomes_112 : decode (xt_code m_M_becomes) 112 = .ok (.iload_n 3, 1) := by decide +kernel
theorem d_M_becomes_113 : decode (xt_code m_M_becomes) 113 = .ok (.ifCond .eq 29, 3) := by decide +kernel
theorem d_M_becomes_116 : decode (xt_code m_M_becomes) 116 = .ok (.aload_n 0, 1) := by decide +kernel
theorem d_M_becomes_117 : decode (xt_code m_M_becomes) 117 = .ok (.getfield 30, 3) := by decide +kernel
theorem d_M_becomes_120 : decode (xt_code m_M_becomes) 120 = .ok (.iload_n 2, 1) := by decide +kernel
theorem d_M_becomes_121 : decode (xt_code m_M_becomes) 121 = .ok (.baload, 1) := by decide +kernel
theorem d_M_becomes_122 : decode (xt_code m_M_becomes) 122 = .ok (.ifCond .eq 16, 3) := by decide +kernel
theorem d_M_becomes_125 : decode (xt_code m_M_becomes) 125 = .ok (.aload_n 0, 1) := by decide +kernel
theorem d_M_becomes_126 : decode (xt_code m_M_becomes) 126 = .ok (.bipush 12, 2) := by decide +kernel
theorem d_M_becomes_128 : decode (xt_code m_M_becomes) 128 = .ok (.iload_n 1, 1) := by decide +kernel
theorem d_M_becomes_129 : decode (xt_code m_M_becomes) 129 = .ok (.imul, 1) := by decide +kernel
theorem d_M_becomes_130 : decode (xt_code m_M_becomes) 130 = .ok (.iload_n 2, 1) := by decide +kernel
theorem d_M_becomes_131 : decode (xt_code m_M_becomes) 131 = .ok (.iadd, 1) := by decide +kernel
theorem d_M_becomes_132 : decode (xt_code m_M_becomes) 132 = .ok (.invokevirtual 97, 3) := by decide +kernel
theorem d_M_becomes_135 : decode (xt_code m_M_becomes) 135 = .ok (.ifCond .eq 7, 3) := by decide +kernel
theorem d_M_becomes_138 : decode (xt_code m_M_becomes) 138 = .ok (.iconst 1, 1) := by decide +kernel
theorem d_M_becomes_139 : decode (xt_code m_M_becomes) 139 = .ok (.goto 4, 3) := by decide +kernel
theorem d_M_becomes_142 : decode (xt_code m_M_becomes) 142 = .ok (.iconst 0, 1) := by decide +kernel
theorem d_M_becomes_143 : decode (xt_code m_M_becomes) 143 = .ok (.ireturn, 1) := by decide +kernel
theorem d_M_isApproved_0 : decode (xt_code m_M_isApproved) 0 = .ok (.iconst 0, 1) := by decide +kernel
theorem d_M_isApproved_1 : decode (xt_code m_M_isApproved) 1 = .ok (.istore_n 2, 1) := by decide +kernel
theorem d_M_isApproved_2 : decode (xt_code m_M_isApproved) 2 = .ok (.iconst 0, 1) := by decide +kernel
theorem d_M_isApproved_3 : decode (xt_code m_M_isApproved) 3 = .ok (.istore_n 3, 1) := by decide +kernel
theorem d_M_isApproved_4 : decode (xt_code m_M_isApproved) 4 = .ok (.iload_n 3, 1) := by decide +kernel
theorem d_M_isApproved_5 : decode (xt_code m_M_isApproved) 5 = .ok (.bipush 8, 2) := by decide +kernel
theorem d_M_isApproved_7 : decode (xt_code m_M_isApproved) 7 = .ok (.if_icmp .ge 22, 3) := by decide +kernel
theorem d_M_isApproved_10 : decode (xt_code m_M_isApproved) 10 = .ok (.iload_n 2, 1) := by decide +kernel
theorem d_M_isApproved_11 : decode (xt_code m_M_isApproved) 11 = .ok (.aload_n 0, 1) := by decide +kernel
theorem d_M_isApproved_12 : decode (xt_code m_M_isApproved) 12 = .ok (.getfield 63, 3) := by decide +kernel
theorem d_M_isApproved_15 : decode (xt_code m_M_isApproved) 15 = .ok (.iload_n 1, 1) := by decide +kernel
theorem d_M_isApproved_16 : decode (xt_code m_M_isApproved) 16 = .ok (.iaload, 1) := by decide +kernel
theorem d_M_isApproved_17 : decode (xt_code m_M_isApproved) 17 = .ok (.iload_n 3, 1) := by decide +kernel
theorem d_M_isApproved_18 : decode (xt_code m_M_isApproved) 18 = .ok (.ishr, 1) := by decide +kernel
theorem d_M_isApproved_19 : decode (xt_code m_M_isApproved) 19 = .ok (.iconst 1, 1) := by decide +kernel
theorem d_M_isApproved_20 : decode (xt_code m_M_isApproved) 20 = .ok (.iand, 1) := by decide +kernel
theorem d_M_isApproved_21 : decode (xt_code m_M_isApproved) 21 = .ok (.iadd, 1) := by decide +kernel
theorem d_M_isApproved_22 : decode (xt_code m_M_isApproved) 22 = .ok (.istore_n 2, 1) := by decide +kernel
theorem d_M_isApproved_23 : decode (xt_code m_M_isApproved) 23 = .ok (.iinc 3 1, 3) := by decide +kernel
theorem d_M_isApproved_26 : decode (xt_code m_M_isApproved) 26 = .ok (.goto (-22), 3) := by decide +kernel
theorem d_M_isApproved_29 : decode (xt_code m_M_isApproved) 29 = .ok (.iload_n 2, 1) := by decide +kernel
theorem d_M_isApproved_30 : decode (xt_code m_M_isApproved) 30 = .ok (.iconst 1, 1) := by decide +kernel
theorem d_M_isApproved_31 : decode (xt_code m_M_isApproved) 31 = .ok (.if_icmp .le 7, 3) := by decide +kernel
theorem d_M_isApproved_34 : decode (xt_code m_M_isApproved) 34 = .ok (.iconst 1, 1) := by decide +kernel
theorem d_M_isApproved_35 : decode (xt_code m_M_isApproved) 35 = .ok (.goto 4, 3) := by decide +kernel
theorem d_M_isApproved_38 : decode (xt_code m_M_isApproved) 38 = .ok (.iconst 0, 1) := by decide +kernel
theorem d_M_isApproved_39 : decode (xt_code m_M_isApproved) 39 = .ok (.ireturn, 1) := by decide +kernel
theorem d_M_approve_0 : decode (xt_code m_M_approve) 0 = .ok (.aload_n 0, 1) := by decide +kernel
theorem d_M_approve_1 : decode (xt_code m_M_approve) 1 = .ok (.iconst 0, 1) := by decide +kernel
theorem d_M_approve_2 : decode (xt_code m_M_approve) 2 = .ok (.putfield 75, 3) := by decide +kernel
theorem d_M_approve_5 : decode (xt_code m_M_approve) 5 = .ok (.aload_n 0, 1) := by decide +kernel
theorem d_M_approve_6 : decode (xt_code m_M_approve) 6 = .ok (.iload_n 1, 1) := by decide +kernel
theorem d_M_approve_7 : decode (xt_code m_M_approve) 7 = .ok (.iload_n 2, 1) := by decide +kernel
theorem d_M_approve_8 : decode (xt_code m_M_approve) 8 = .ok (.invokevirtual 120, 3) := by decide +kernel
theorem d_M_approve_11 : decode (xt_code m_M_approve) 11 = .ok (.ifCond .eq 39, 3) := by decide +kernel
theorem d_M_approve_14 : decode (xt_code m_M_approve) 14 = .ok (.iload_n 3, 1) := by decide +kernel
theorem d_M_approve_15 : decode (xt_code m_M_approve) 15 = .ok (.ifCond .lt 35, 3) := by decide +kernel
theorem d_M_approve_18 : decode (xt_code m_M_approve) 18 = .ok (.iload_n 3, 1) := by decide +kernel
theorem d_M_approve_19 : decode (xt_code m_M_approve) 19 = .ok (.bipush 8, 2) := by decide +kernel
theorem d_M_approve_21 : decode (xt_code m_M_approve) 21 = .ok (.if_icmp .ge 29, 3) := by decide +kernel
theorem d_M_approve_24 : decode (xt_code m_M_approve) 24 = .ok (.aload_n 0, 1) := by decide +kernel
theorem d_M_approve_25 : decode (xt_code m_M_approve) 25 = .ok (.getfield 30, 3) := by decide +kernel
theorem d_M_approve_28 : decode (xt_code m_M_approve) 28 = .ok (.iload_n 2, 1) := by decide +kernel
theorem d_M_approve_29 : decode (xt_code m_M_approve) 29 = .ok (.baload, 1) := by decide +kernel
theorem d_M_approve_30 : decode (xt_code m_M_approve) 30 = .ok (.ifCond .eq 20, 3) := by decide +kernel
theorem d_M_approve_33 : decode (xt_code m_M_approve) 33 = .ok (.aload_n 0, 1) := by decide +kernel
theorem d_M_approve_34 : decode (xt_code m_M_approve) 34 = .ok (.getfield 42, 3) := by decide +kernel
theorem d_M_approve_37 : decode (xt_code m_M_approve) 37 = .ok (.bipush 12, 2) := by decide +kernel
theorem d_M_approve_39 : decode (xt_code m_M_approve) 39 = .ok (.iload_n 1, 1) := by decide +kernel
theorem d_M_approve_40 : decode (xt_code m_M_approve) 40 = .ok (.imul, 1) := by decide +kernel
theorem d_M_approve_41 : decode (xt_code m_M_approve) 41 = .ok (.iload_n 2, 1) := by decide +kernel
theorem d_M_approve_42 : decode (xt_code m_M_approve) 42 = .ok (.iadd, 1) := by decide +kernel
theorem d_M_approve_43 : decode (xt_code m_M_approve) 43 = .ok (.iaload, 1) := by decide +kernel
theorem d_M_approve_44 : decode (xt_code m_M_approve) 44 = .ok (.invokestatic 94, 3) := by decide +kernel
theorem d_M_approve_47 : decode (xt_code m_M_approve) 47 = .ok (.ifCond .eq 5, 3) := by decide +kernel
theorem d_M_approve_50 : decode (xt_code m_M_approve) 50 = .ok (.iconst (-1), 1) := by decide +kernel
theorem d_M_approve_51 : decode (xt_code m_M_approve) 51 = .ok (.ireturn, 1) := by decide +kernel
theorem d_M_approve_52 : decode (xt_code m_M_approve) 52 = .ok (.aload_n 0, 1) := by decide +kernel
theorem d_M_approve_53 : decode (xt_code m_M_approve) 53 = .ok (.getfield 33, 3) := by decide +kernel
theorem d_M_approve_56 : decode (xt_code m_M_approve) 56 = .ok (.iload_n 1, 1) := by decide +kernel
theorem d_M_approve_57 : decode (xt_code m_M_approve) 57 = .ok (.iaload, 1) := by decide +kernel
theorem d_M_approve_58 : decode (xt_code m_M_approve) 58 = .ok (.iload_n 3, 1) := by decide +kernel
theorem d_M_approve_59 : decode (xt_code m_M_approve) 59 = .ok (.if_icmp .ne 6, 3) := by decide +kernel
theorem d_M_approve_62 : decode (xt_code m_M_approve) 62 = .ok (.bipush (-2), 2) := by decide +kernel
theorem d_M_approve_64 : decode (xt_code m_M_approve) 64 = .ok (.ireturn, 1) := by decide +kernel
theorem d_M_approve_65 : decode (xt_code m_M_approve) 65 = .ok (.aload_n 0, 1) := by decide +kernel
theorem d_M_approve_66 : decode (xt_code m_M_approve) 66 = .ok (.getfield 63, 3) := by decide +kernel
theorem d_M_approve_69 : decode (xt_code m_M_approve) 69 = .ok (.bipush 12, 2) := by decide +kernel
theorem d_M_approve_71 : decode (xt_code m_M_approve) 71 = .ok (.iload_n 1, 1) := by decide +kernel
theorem d_M_approve_72 : decode (xt_code m_M_approve) 72 = .ok (.imul, 1) := by decide +kernel
theorem d_M_approve_73 : decode (xt_code m_M_approve) 73 = .ok (.iload_n 2, 1) := by decide +kernel
theorem d_M_approve_74 : decode (xt_code m_M_approve) 74 = .ok (.iadd, 1) := by decide +kernel
theorem d_M_approve_75 : decode (xt_code m_M_approve) 75 = .ok (.iaload, 1) := by decide +kernel
theorem d_M_approve_76 : decode (xt_code m_M_approve) 76 = .ok (.iload_n 3, 1) := by decide +kernel
theorem d_M_approve_77 : decode (xt_code m_M_approve) 77 = .ok (.ishr, 1) := by decide +kernel
theorem d_M_approve_78 : decode (xt_code m_M_approve) 78 = .ok (.iconst 1, 1) := by decide +kernel
theorem d_M_approve_79 : decode (xt_code m_M_approve) 79 = .ok (.iand, 1) := by decide +kernel
theorem d_M_approve_80 : decode (xt_code m_M_approve) 80 = .ok (.iconst 1, 1) := by decide +kernel
theorem d_M_approve_81 : decode (xt_code m_M_approve) 81 = .ok (.if_icmp .ne 5, 3) := by decide +kernel
theorem d_M_approve_84 : decode (xt_code m_M_approve) 84 = .ok (.iconst 0, 1) := by decide +kernel
theorem d_M_approve_85 : decode (xt_code m_M_approve) 85 = .ok (.ireturn, 1) := by decide +kernel
theorem d_M_approve_86 : decode (xt_code m_M_approve) 86 = .ok (.aload_n 0, 1) := by decide +kernel
theorem d_M_approve_87 : decode (xt_code m_M_approve) 87 = .ok (.getfield 63, 3) := by decide +kernel
theorem d_M_approve_90 : decode (xt_code m_M_approve) 90 = .ok (.bipush 12, 2) := by decide +kernel
theorem d_M_approve_92 : decode (xt_code m_M_approve) 92 = .ok (.iload_n 1, 1) := by decide +kernel
theorem d_M_approve_93 : decode (xt_code m_M_approve) 93 = .ok (.imul, 1) := by decide +kernel
theorem d_M_approve_94 : decode (xt_code m_M_approve) 94 = .ok (.iload_n 2, 1) := by decide +kernel
theorem d_M_approve_95 : decode (xt_code m_M_approve) 95 = .ok (.iadd, 1) := by decide +kernel
theorem d_M_approve_96 : decode (xt_code m_M_approve) 96 = .ok (.dup2, 1) := by decide +kernel
theorem d_M_approve_97 : decode (xt_code m_M_approve) 97 = .ok (.iaload, 1) := by decide +kernel
theorem d_M_approve_98 : decode (xt_code m_M_approve) 98 = .ok (.iconst 1, 1) := by decide +kernel
theorem d_M_approve_99 : decode (xt_code m_M_approve) 99 = .ok (.iload_n 3, 1) := by decide +kernel
theorem d_M_approve_100 : decode (xt_code m_M_approve) 100 = .ok (.ishl, 1) := by decide +kernel
theorem d_M_approve_101 : decode (xt_code m_M_approve) 101 = .ok (.ior, 1) := by decide +kernel
theorem d_M_approve_102 : decode (xt_code m_M_approve) 102 = .ok (.iastore, 1) := by decide +kernel
theorem d_M_approve_103 : decode (xt_code m_M_approve) 103 = .ok (.aload_n 0, 1) := by decide +kernel
theorem d_M_approve_104 : decode (xt_code m_M_approve) 104 = .ok (.invokevirtual 114, 3) := by decide +kernel
theorem d_M_approve_107 : decode (xt_code m_M_approve) 107 = .ok (.iconst 1, 1) := by decide +kernel
theorem d_M_approve_108 : decode (xt_code m_M_approve) 108 = .ok (.ireturn, 1) := by decide +kernel
theorem d_M_isThere_0 : decode (xt_code m_M_isThere) 0 = .ok (.aload_n 0, 1) := by decide +kernel
theorem d_M_isThere_1 : decode (xt_code m_M_isThere) 1 = .ok (.iload_n 1, 1) := by decide +kernel
theorem d_M_isThere_2 : decode (xt_code m_M_isThere) 2 = .ok (.invokevirtual 117, 3) := by decide +kernel
theorem d_M_isThere_5 : decode (xt_code m_M_isThere) 5 = .ok (.ifCond .eq 15, 3) := by decide +kernel
theorem d_M_isThere_8 : decode (xt_code m_M_isThere) 8 = .ok (.aload_n 0, 1) := by decide +kernel
theorem d_M_isThere_9 : decode (xt_code m_M_isThere) 9 = .ok (.iload_n 2, 1) := by decide +kernel
theorem d_M_isThere_10 : decode (xt_code m_M_isThere) 10 = .ok (.invokevirtual 87, 3) := by decide +kernel
theorem d_M_isThere_13 : decode (xt_code m_M_isThere) 13 = .ok (.ifCond .eq 7, 3) := by decide +kernel
theorem d_M_isThere_16 : decode (xt_code m_M_isThere) 16 = .ok (.iconst 1, 1) := by decide +kernel
theorem d_M_isThere_17 : decode (xt_code m_M_isThere) 17 = .ok (.goto 4, 3) := by decide +kernel
theorem d_M_isThere_20 : decode (xt_code m_M_isThere) 20 = .ok (.iconst 0, 1) := by decide +kernel
theorem d_M_isThere_21 : decode (xt_code m_M_isThere) 21 = .ok (.ireturn, 1) := by decide +kernel
theorem d_M_isRun_0 : decode (xt_code m_M_isRun) 0 = .ok (.iload_n 1, 1) := by decide +kernel
theorem d_M_isRun_1 : decode (xt_code m_M_isRun) 1 = .ok (.ifCond .lt 15, 3) := by decide +kernel
theorem d_M_isRun_4 : decode (xt_code m_M_isRun) 4 = .ok (.iload_n 1, 1) := by decide +kernel
theorem d_M_isRun_5 : decode (xt_code m_M_isRun) 5 = .ok (.aload_n 0, 1) := by decide +kernel
theorem d_M_isRun_6 : decode (xt_code m_M_isRun) 6 = .ok (.getfield 81, 3) := by decide +kernel
theorem d_M_isRun_9 : decode (xt_code m_M_isRun) 9 = .ok (.if_icmp .ge 7, 3) := by decide +kernel
theorem d_M_isRun_12 : decode (xt_code m_M_isRun) 12 = .ok (.iconst 1, 1) := by decide +kernel
theorem d_M_isRun_13 : decode (xt_code m_M_isRun) 13 = .ok (.goto 4, 3) := by decide +kernel
theorem d_M_isRun_16 : decode (xt_code m_M_isRun) 16 = .ok (.iconst 0, 1) := by decide +kernel
theorem d_M_isRun_17 : decode (xt_code m_M_isRun) 17 = .ok (.ireturn, 1) := by decide +kernel
theorem d_M_take_0 : decode (xt_code m_M_take) 0 = .ok (.aload_n 0, 1) := by decide +kernel
theorem d_M_take_1 : decode (xt_code m_M_take) 1 = .ok (.iconst 0, 1) := by decide +kernel
theorem d_M_take_2 : decode (xt_code m_M_take) 2 = .ok (.putfield 75, 3) := by decide +kernel
theorem d_M_take_5 : decode (xt_code m_M_take) 5 = .ok (.aload_n 0, 1) := by decide +kernel
theorem d_M_take_6 : decode (xt_code m_M_take) 6 = .ok (.iload_n 1, 1) := by decide +kernel
theorem d_M_take_7 : decode (xt_code m_M_take) 7 = .ok (.invokevirtual 124, 3) := by decide +kernel
theorem d_M_take_10 : decode (xt_code m_M_take) 10 = .ok (.ifCond .eq 13, 3) := by decide +kernel
theorem d_M_take_13 : decode (xt_code m_M_take) 13 = .ok (.aload_n 0, 1) := by decide +kernel
theorem d_M_take_14 : decode (xt_code m_M_take) 14 = .ok (.getfield 72, 3) := by decide +kernel
theorem d_M_take_17 : decode (xt_code m_M_take) 17 = .ok (.iload_n 1, 1) := by decide +kernel
theorem d_M_take_18 : decode (xt_code m_M_take) 18 = .ok (.iaload, 1) := by decide +kernel
theorem d_M_take_19 : decode (xt_code m_M_take) 19 = .ok (.iconst (-1), 1) := by decide +kernel
theorem d_M_take_20 : decode (xt_code m_M_take) 20 = .ok (.if_icmp .eq 5, 3) := by decide +kernel
theorem d_M_take_23 : decode (xt_code m_M_take) 23 = .ok (.iconst (-1), 1) := by decide +kernel
theorem d_M_take_24 : decode (xt_code m_M_take) 24 = .ok (.ireturn, 1) := by decide +kernel
theorem d_M_take_25 : decode (xt_code m_M_take) 25 = .ok (.iconst (-1), 1) := by decide +kernel
