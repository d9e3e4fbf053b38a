/-! decode rows, by program -/
theorem d_M_take_26 : decode (xt_code m_M_take) 26 = .ok (.istore_n 2, 1) := by decide +kernel
theorem d_M_take_27 : decode (xt_code m_M_take) 27 = .ok (.iconst 0, 1) := by decide +kernel
theorem d_M_take_28 : decode (xt_code m_M_take) 28 = .ok (.istore_n 3, 1) := by decide +kernel
theorem d_M_take_29 : decode (xt_code m_M_take) 29 = .ok (.iload_n 3, 1) := by decide +kernel
theorem d_M_take_30 : decode (xt_code m_M_take) 30 = .ok (.bipush 12, 2) := by decide +kernel
theorem d_M_take_32 : decode (xt_code m_M_take) 32 = .ok (.aload_n 0, 1) := by decide +kernel
theorem d_M_take_33 : decode (xt_code m_M_take) 33 = .ok (.getfield 81, 3) := by decide +kernel
theorem d_M_take_36 : decode (xt_code m_M_take) 36 = .ok (.imul, 1) := by decide +kernel
theorem d_M_take_37 : decode (xt_code m_M_take) 37 = .ok (.if_icmp .ge 118, 3) := by decide +kernel
theorem d_M_take_40 : decode (xt_code m_M_take) 40 = .ok (.aload_n 0, 1) := by decide +kernel
theorem d_M_take_41 : decode (xt_code m_M_take) 41 = .ok (.getfield 42, 3) := by decide +kernel
theorem d_M_take_44 : decode (xt_code m_M_take) 44 = .ok (.iload_n 3, 1) := by decide +kernel
theorem d_M_take_45 : decode (xt_code m_M_take) 45 = .ok (.iaload, 1) := by decide +kernel
theorem d_M_take_46 : decode (xt_code m_M_take) 46 = .ok (.iconst 1, 1) := by decide +kernel
theorem d_M_take_47 : decode (xt_code m_M_take) 47 = .ok (.if_icmp .ne 102, 3) := by decide +kernel
theorem d_M_take_50 : decode (xt_code m_M_take) 50 = .ok (.aload_n 0, 1) := by decide +kernel
theorem d_M_take_51 : decode (xt_code m_M_take) 51 = .ok (.getfield 13, 3) := by decide +kernel
theorem d_M_take_54 : decode (xt_code m_M_take) 54 = .ok (.iload_n 3, 1) := by decide +kernel
theorem d_M_take_55 : decode (xt_code m_M_take) 55 = .ok (.bipush 12, 2) := by decide +kernel
theorem d_M_take_57 : decode (xt_code m_M_take) 57 = .ok (.irem, 1) := by decide +kernel
theorem d_M_take_58 : decode (xt_code m_M_take) 58 = .ok (.iaload, 1) := by decide +kernel
theorem d_M_take_59 : decode (xt_code m_M_take) 59 = .ok (.aload_n 0, 1) := by decide +kernel
theorem d_M_take_60 : decode (xt_code m_M_take) 60 = .ok (.getfield 66, 3) := by decide +kernel
theorem d_M_take_63 : decode (xt_code m_M_take) 63 = .ok (.iload_n 1, 1) := by decide +kernel
theorem d_M_take_64 : decode (xt_code m_M_take) 64 = .ok (.iaload, 1) := by decide +kernel
theorem d_M_take_65 : decode (xt_code m_M_take) 65 = .ok (.iconst (-1), 1) := by decide +kernel
theorem d_M_take_66 : decode (xt_code m_M_take) 66 = .ok (.ixor, 1) := by decide +kernel
theorem d_M_take_67 : decode (xt_code m_M_take) 67 = .ok (.iand, 1) := by decide +kernel
theorem d_M_take_68 : decode (xt_code m_M_take) 68 = .ok (.ifCond .eq 6, 3) := by decide +kernel
theorem d_M_take_71 : decode (xt_code m_M_take) 71 = .ok (.goto 78, 3) := by decide +kernel
theorem d_M_take_74 : decode (xt_code m_M_take) 74 = .ok (.aload_n 0, 1) := by decide +kernel
theorem d_M_take_75 : decode (xt_code m_M_take) 75 = .ok (.getfield 33, 3) := by decide +kernel
theorem d_M_take_78 : decode (xt_code m_M_take) 78 = .ok (.iload_n 3, 1) := by decide +kernel
theorem d_M_take_79 : decode (xt_code m_M_take) 79 = .ok (.bipush 12, 2) := by decide +kernel
theorem d_M_take_81 : decode (xt_code m_M_take) 81 = .ok (.idiv, 1) := by decide +kernel
theorem d_M_take_82 : decode (xt_code m_M_take) 82 = .ok (.iaload, 1) := by decide +kernel
theorem d_M_take_83 : decode (xt_code m_M_take) 83 = .ok (.istore 4, 2) := by decide +kernel
theorem d_M_take_85 : decode (xt_code m_M_take) 85 = .ok (.iload_n 2, 1) := by decide +kernel
theorem d_M_take_86 : decode (xt_code m_M_take) 86 = .ok (.iconst (-1), 1) := by decide +kernel
theorem d_M_take_87 : decode (xt_code m_M_take) 87 = .ok (.if_icmp .ne 7, 3) := by decide +kernel
theorem d_M_take_90 : decode (xt_code m_M_take) 90 = .ok (.iconst (-1), 1) := by decide +kernel
theorem d_M_take_91 : decode (xt_code m_M_take) 91 = .ok (.goto 12, 3) := by decide +kernel
theorem d_M_take_94 : decode (xt_code m_M_take) 94 = .ok (.aload_n 0, 1) := by decide +kernel
theorem d_M_take_95 : decode (xt_code m_M_take) 95 = .ok (.getfield 33, 3) := by decide +kernel
theorem d_M_take_98 : decode (xt_code m_M_take) 98 = .ok (.iload_n 2, 1) := by decide +kernel
theorem d_M_take_99 : decode (xt_code m_M_take) 99 = .ok (.bipush 12, 2) := by decide +kernel
theorem d_M_take_101 : decode (xt_code m_M_take) 101 = .ok (.idiv, 1) := by decide +kernel
theorem d_M_take_102 : decode (xt_code m_M_take) 102 = .ok (.iaload, 1) := by decide +kernel
theorem d_M_take_103 : decode (xt_code m_M_take) 103 = .ok (.istore 5, 2) := by decide +kernel
theorem d_M_take_105 : decode (xt_code m_M_take) 105 = .ok (.iload_n 2, 1) := by decide +kernel
theorem d_M_take_106 : decode (xt_code m_M_take) 106 = .ok (.iconst (-1), 1) := by decide +kernel
theorem d_M_take_107 : decode (xt_code m_M_take) 107 = .ok (.if_icmp .eq 40, 3) := by decide +kernel
theorem d_M_take_110 : decode (xt_code m_M_take) 110 = .ok (.aload_n 0, 1) := by decide +kernel
theorem d_M_take_111 : decode (xt_code m_M_take) 111 = .ok (.iload 4, 2) := by decide +kernel
theorem d_M_take_113 : decode (xt_code m_M_take) 113 = .ok (.invokevirtual 127, 3) := by decide +kernel
theorem d_M_take_116 : decode (xt_code m_M_take) 116 = .ok (.aload_n 0, 1) := by decide +kernel
theorem d_M_take_117 : decode (xt_code m_M_take) 117 = .ok (.iload 5, 2) := by decide +kernel
theorem d_M_take_119 : decode (xt_code m_M_take) 119 = .ok (.invokevirtual 127, 3) := by decide +kernel
theorem d_M_take_122 : decode (xt_code m_M_take) 122 = .ok (.if_icmp .lt 25, 3) := by decide +kernel
theorem d_M_take_125 : decode (xt_code m_M_take) 125 = .ok (.aload_n 0, 1) := by decide +kernel
theorem d_M_take_126 : decode (xt_code m_M_take) 126 = .ok (.iload 4, 2) := by decide +kernel
theorem d_M_take_128 : decode (xt_code m_M_take) 128 = .ok (.invokevirtual 127, 3) := by decide +kernel
theorem d_M_take_131 : decode (xt_code m_M_take) 131 = .ok (.aload_n 0, 1) := by decide +kernel
theorem d_M_take_132 : decode (xt_code m_M_take) 132 = .ok (.iload 5, 2) := by decide +kernel
theorem d_M_take_134 : decode (xt_code m_M_take) 134 = .ok (.invokevirtual 127, 3) := by decide +kernel
theorem d_M_take_137 : decode (xt_code m_M_take) 137 = .ok (.if_icmp .ne 12, 3) := by decide +kernel
theorem d_M_take_140 : decode (xt_code m_M_take) 140 = .ok (.iload 4, 2) := by decide +kernel
theorem d_M_take_142 : decode (xt_code m_M_take) 142 = .ok (.iload 5, 2) := by decide +kernel
theorem d_M_take_144 : decode (xt_code m_M_take) 144 = .ok (.if_icmp .ge 5, 3) := by decide +kernel
theorem d_M_take_147 : decode (xt_code m_M_take) 147 = .ok (.iload_n 3, 1) := by decide +kernel
theorem d_M_take_148 : decode (xt_code m_M_take) 148 = .ok (.istore_n 2, 1) := by decide +kernel
theorem d_M_take_149 : decode (xt_code m_M_take) 149 = .ok (.iinc 3 1, 3) := by decide +kernel
theorem d_M_take_152 : decode (xt_code m_M_take) 152 = .ok (.goto (-123), 3) := by decide +kernel
theorem d_M_take_155 : decode (xt_code m_M_take) 155 = .ok (.iload_n 2, 1) := by decide +kernel
theorem d_M_take_156 : decode (xt_code m_M_take) 156 = .ok (.iconst (-1), 1) := by decide +kernel
theorem d_M_take_157 : decode (xt_code m_M_take) 157 = .ok (.if_icmp .ne 5, 3) := by decide +kernel
theorem d_M_take_160 : decode (xt_code m_M_take) 160 = .ok (.iconst (-1), 1) := by decide +kernel
theorem d_M_take_161 : decode (xt_code m_M_take) 161 = .ok (.ireturn, 1) := by decide +kernel
theorem d_M_take_162 : decode (xt_code m_M_take) 162 = .ok (.aload_n 0, 1) := by decide +kernel
theorem d_M_take_163 : decode (xt_code m_M_take) 163 = .ok (.getfield 72, 3) := by decide +kernel
theorem d_M_take_166 : decode (xt_code m_M_take) 166 = .ok (.iload_n 1, 1) := by decide +kernel
theorem d_M_take_167 : decode (xt_code m_M_take) 167 = .ok (.iload_n 2, 1) := by decide +kernel
theorem d_M_take_168 : decode (xt_code m_M_take) 168 = .ok (.iastore, 1) := by decide +kernel
theorem d_M_take_169 : decode (xt_code m_M_take) 169 = .ok (.aload_n 0, 1) := by decide +kernel
theorem d_M_take_170 : decode (xt_code m_M_take) 170 = .ok (.getfield 69, 3) := by decide +kernel
theorem d_M_take_173 : decode (xt_code m_M_take) 173 = .ok (.iload_n 1, 1) := by decide +kernel
theorem d_M_take_174 : decode (xt_code m_M_take) 174 = .ok (.aload_n 0, 1) := by decide +kernel
theorem d_M_take_175 : decode (xt_code m_M_take) 175 = .ok (.getfield 91, 3) := by decide +kernel
theorem d_M_take_178 : decode (xt_code m_M_take) 178 = .ok (.iastore, 1) := by decide +kernel
theorem d_M_take_179 : decode (xt_code m_M_take) 179 = .ok (.aload_n 0, 1) := by decide +kernel
theorem d_M_take_180 : decode (xt_code m_M_take) 180 = .ok (.getfield 42, 3) := by decide +kernel
theorem d_M_take_183 : decode (xt_code m_M_take) 183 = .ok (.iload_n 2, 1) := by decide +kernel
theorem d_M_take_184 : decode (xt_code m_M_take) 184 = .ok (.iconst 2, 1) := by decide +kernel
theorem d_M_take_185 : decode (xt_code m_M_take) 185 = .ok (.iastore, 1) := by decide +kernel
theorem d_M_take_186 : decode (xt_code m_M_take) 186 = .ok (.aload_n 0, 1) := by decide +kernel
theorem d_M_take_187 : decode (xt_code m_M_take) 187 = .ok (.getfield 45, 3) := by decide +kernel
theorem d_M_take_190 : decode (xt_code m_M_take) 190 = .ok (.iload_n 2, 1) := by decide +kernel
theorem d_M_take_191 : decode (xt_code m_M_take) 191 = .ok (.aload_n 0, 1) := by decide +kernel
theorem d_M_take_192 : decode (xt_code m_M_take) 192 = .ok (.getfield 91, 3) := by decide +kernel
theorem d_M_take_195 : decode (xt_code m_M_take) 195 = .ok (.iastore, 1) := by decide +kernel
theorem d_M_take_196 : decode (xt_code m_M_take) 196 = .ok (.aload_n 0, 1) := by decide +kernel
theorem d_M_take_197 : decode (xt_code m_M_take) 197 = .ok (.getfield 48, 3) := by decide +kernel
theorem d_M_take_200 : decode (xt_code m_M_take) 200 = .ok (.iload_n 2, 1) := by decide +kernel
theorem d_M_take_201 : decode (xt_code m_M_take) 201 = .ok (.dup2, 1) := by decide +kernel
theorem d_M_take_202 : decode (xt_code m_M_take) 202 = .ok (.iaload, 1) := by decide +kernel
theorem d_M_take_203 : decode (xt_code m_M_take) 203 = .ok (.iconst 1, 1) := by decide +kernel
theorem d_M_take_204 : decode (xt_code m_M_take) 204 = .ok (.iadd, 1) := by decide +kernel
theorem d_M_take_205 : decode (xt_code m_M_take) 205 = .ok (.iastore, 1) := by decide +kernel
theorem d_M_take_206 : decode (xt_code m_M_take) 206 = .ok (.iload_n 2, 1) := by decide +kernel
theorem d_M_take_207 : decode (xt_code m_M_take) 207 = .ok (.ireturn, 1) := by decide +kernel
theorem d_M_isRunner_0 : decode (xt_code m_M_isRunner) 0 = .ok (.iload_n 1, 1) := by decide +kernel
theorem d_M_isRunner_1 : decode (xt_code m_M_isRunner) 1 = .ok (.ifCond .lt 15, 3) := by decide +kernel
theorem d_M_isRunner_4 : decode (xt_code m_M_isRunner) 4 = .ok (.iload_n 1, 1) := by decide +kernel
theorem d_M_isRunner_5 : decode (xt_code m_M_isRunner) 5 = .ok (.aload_n 0, 1) := by decide +kernel
theorem d_M_isRunner_6 : decode (xt_code m_M_isRunner) 6 = .ok (.getfield 84, 3) := by decide +kernel
theorem d_M_isRunner_9 : decode (xt_code m_M_isRunner) 9 = .ok (.if_icmp .ge 7, 3) := by decide +kernel
theorem d_M_isRunner_12 : decode (xt_code m_M_isRunner) 12 = .ok (.iconst 1, 1) := by decide +kernel
theorem d_M_isRunner_13 : decode (xt_code m_M_isRunner) 13 = .ok (.goto 4, 3) := by decide +kernel
theorem d_M_isRunner_16 : decode (xt_code m_M_isRunner) 16 = .ok (.iconst 0, 1) := by decide +kernel
theorem d_M_isRunner_17 : decode (xt_code m_M_isRunner) 17 = .ok (.ireturn, 1) := by decide +kernel
theorem d_M_busy_0 : decode (xt_code m_M_busy) 0 = .ok (.iconst 0, 1) := by decide +kernel
theorem d_M_busy_1 : decode (xt_code m_M_busy) 1 = .ok (.istore_n 2, 1) := by decide +kernel
theorem d_M_busy_2 : decode (xt_code m_M_busy) 2 = .ok (.iconst 0, 1) := by decide +kernel
theorem d_M_busy_3 : decode (xt_code m_M_busy) 3 = .ok (.istore_n 3, 1) := by decide +kernel
theorem d_M_busy_4 : decode (xt_code m_M_busy) 4 = .ok (.iload_n 3, 1) := by decide +kernel
theorem d_M_busy_5 : decode (xt_code m_M_busy) 5 = .ok (.bipush 12, 2) := by decide +kernel
theorem d_M_busy_7 : decode (xt_code m_M_busy) 7 = .ok (.aload_n 0, 1) := by decide +kernel
theorem d_M_busy_8 : decode (xt_code m_M_busy) 8 = .ok (.getfield 81, 3) := by decide +kernel
theorem d_M_busy_11 : decode (xt_code m_M_busy) 11 = .ok (.imul, 1) := by decide +kernel
theorem d_M_busy_12 : decode (xt_code m_M_busy) 12 = .ok (.if_icmp .ge 40, 3) := by decide +kernel
theorem d_M_busy_15 : decode (xt_code m_M_busy) 15 = .ok (.iload_n 2, 1) := by decide +kernel
theorem d_M_busy_16 : decode (xt_code m_M_busy) 16 = .ok (.aload_n 0, 1) := by decide +kernel
theorem d_M_busy_17 : decode (xt_code m_M_busy) 17 = .ok (.getfield 42, 3) := by decide +kernel
theorem d_M_busy_20 : decode (xt_code m_M_busy) 20 = .ok (.iload_n 3, 1) := by decide +kernel
theorem d_M_busy_21 : decode (xt_code m_M_busy) 21 = .ok (.iaload, 1) := by decide +kernel
theorem d_M_busy_22 : decode (xt_code m_M_busy) 22 = .ok (.iconst 2, 1) := by decide +kernel
theorem d_M_busy_23 : decode (xt_code m_M_busy) 23 = .ok (.if_icmp .ne 20, 3) := by decide +kernel
theorem d_M_busy_26 : decode (xt_code m_M_busy) 26 = .ok (.aload_n 0, 1) := by decide +kernel
theorem d_M_busy_27 : decode (xt_code m_M_busy) 27 = .ok (.getfield 33, 3) := by decide +kernel
theorem d_M_busy_30 : decode (xt_code m_M_busy) 30 = .ok (.iload_n 3, 1) := by decide +kernel
theorem d_M_busy_31 : decode (xt_code m_M_busy) 31 = .ok (.bipush 12, 2) := by decide +kernel
theorem d_M_busy_33 : decode (xt_code m_M_busy) 33 = .ok (.idiv, 1) := by decide +kernel
theorem d_M_busy_34 : decode (xt_code m_M_busy) 34 = .ok (.iaload, 1) := by decide +kernel
theorem d_M_busy_35 : decode (xt_code m_M_busy) 35 = .ok (.iload_n 1, 1) := by decide +kernel
theorem d_M_busy_36 : decode (xt_code m_M_busy) 36 = .ok (.if_icmp .ne 7, 3) := by decide +kernel
theorem d_M_busy_39 : decode (xt_code m_M_busy) 39 = .ok (.iconst 1, 1) := by decide +kernel
theorem d_M_busy_40 : decode (xt_code m_M_busy) 40 = .ok (.goto 4, 3) := by decide +kernel
theorem d_M_busy_43 : decode (xt_code m_M_busy) 43 = .ok (.iconst 0, 1) := by decide +kernel
theorem d_M_busy_44 : decode (xt_code m_M_busy) 44 = .ok (.iadd, 1) := by decide +kernel
theorem d_M_busy_45 : decode (xt_code m_M_busy) 45 = .ok (.istore_n 2, 1) := by decide +kernel
theorem d_M_busy_46 : decode (xt_code m_M_busy) 46 = .ok (.iinc 3 1, 3) := by decide +kernel
theorem d_M_busy_49 : decode (xt_code m_M_busy) 49 = .ok (.goto (-45), 3) := by decide +kernel
theorem d_M_busy_52 : decode (xt_code m_M_busy) 52 = .ok (.iload_n 2, 1) := by decide +kernel
theorem d_M_busy_53 : decode (xt_code m_M_busy) 53 = .ok (.ireturn, 1) := by decide +kernel
theorem d_M_beat_0 : decode (xt_code m_M_beat) 0 = .ok (.aload_n 0, 1) := by decide +kernel
theorem d_M_beat_1 : decode (xt_code m_M_beat) 1 = .ok (.iconst 0, 1) := by decide +kernel
theorem d_M_beat_2 : decode (xt_code m_M_beat) 2 = .ok (.putfield 75, 3) := by decide +kernel
theorem d_M_beat_5 : decode (xt_code m_M_beat) 5 = .ok (.aload_n 0, 1) := by decide +kernel
theorem d_M_beat_6 : decode (xt_code m_M_beat) 6 = .ok (.iload_n 1, 1) := by decide +kernel
theorem d_M_beat_7 : decode (xt_code m_M_beat) 7 = .ok (.invokevirtual 124, 3) := by decide +kernel
theorem d_M_beat_10 : decode (xt_code m_M_beat) 10 = .ok (.ifCond .eq 13, 3) := by decide +kernel
theorem d_M_beat_13 : decode (xt_code m_M_beat) 13 = .ok (.aload_n 0, 1) := by decide +kernel
theorem d_M_beat_14 : decode (xt_code m_M_beat) 14 = .ok (.getfield 72, 3) := by decide +kernel
theorem d_M_beat_17 : decode (xt_code m_M_beat) 17 = .ok (.iload_n 1, 1) := by decide +kernel
theorem d_M_beat_18 : decode (xt_code m_M_beat) 18 = .ok (.iaload, 1) := by decide +kernel
theorem d_M_beat_19 : decode (xt_code m_M_beat) 19 = .ok (.iconst (-1), 1) := by decide +kernel
theorem d_M_beat_20 : decode (xt_code m_M_beat) 20 = .ok (.if_icmp .ne 5, 3) := by decide +kernel
theorem d_M_beat_23 : decode (xt_code m_M_beat) 23 = .ok (.iconst 0, 1) := by decide +kernel
theorem d_M_beat_24 : decode (xt_code m_M_beat) 24 = .ok (.ireturn, 1) := by decide +kernel
theorem d_M_beat_25 : decode (xt_code m_M_beat) 25 = .ok (.aload_n 0, 1) := by decide +kernel
theorem d_M_beat_26 : decode (xt_code m_M_beat) 26 = .ok (.getfield 69, 3) := by decide +kernel
theorem d_M_beat_29 : decode (xt_code m_M_beat) 29 = .ok (.iload_n 1, 1) := by decide +kernel
theorem d_M_beat_30 : decode (xt_code m_M_beat) 30 = .ok (.aload_n 0, 1) := by decide +kernel
theorem d_M_beat_31 : decode (xt_code m_M_beat) 31 = .ok (.getfield 91, 3) := by decide +kernel
theorem d_M_beat_34 : decode (xt_code m_M_beat) 34 = .ok (.iastore, 1) := by decide +kernel
theorem d_M_beat_35 : decode (xt_code m_M_beat) 35 = .ok (.iconst 1, 1) := by decide +kernel
theorem d_M_beat_36 : decode (xt_code m_M_beat) 36 = .ok (.ireturn, 1) := by decide +kernel
theorem d_M_end_0 : decode (xt_code m_M_end) 0 = .ok (.aload_n 0, 1) := by decide +kernel
theorem d_M_end_1 : decode (xt_code m_M_end) 1 = .ok (.iconst 0, 1) := by decide +kernel
theorem d_M_end_2 : decode (xt_code m_M_end) 2 = .ok (.putfield 75, 3) := by decide +kernel
theorem d_M_end_5 : decode (xt_code m_M_end) 5 = .ok (.aload_n 0, 1) := by decide +kernel
theorem d_M_end_6 : decode (xt_code m_M_end) 6 = .ok (.iload_n 1, 1) := by decide +kernel
theorem d_M_end_7 : decode (xt_code m_M_end) 7 = .ok (.invokevirtual 124, 3) := by decide +kernel
theorem d_M_end_10 : decode (xt_code m_M_end) 10 = .ok (.ifCond .eq 13, 3) := by decide +kernel
theorem d_M_end_13 : decode (xt_code m_M_end) 13 = .ok (.aload_n 0, 1) := by decide +kernel
theorem d_M_end_14 : decode (xt_code m_M_end) 14 = .ok (.getfield 72, 3) := by decide +kernel
theorem d_M_end_17 : decode (xt_code m_M_end) 17 = .ok (.iload_n 1, 1) := by decide +kernel
theorem d_M_end_18 : decode (xt_code m_M_end) 18 = .ok (.iaload, 1) := by decide +kernel
theorem d_M_end_19 : decode (xt_code m_M_end) 19 = .ok (.iconst (-1), 1) := by decide +kernel
theorem d_M_end_20 : decode (xt_code m_M_end) 20 = .ok (.if_icmp .ne 5, 3) := by decide +kernel
theorem d_M_end_23 : decode (xt_code m_M_end) 23 = .ok (.iconst 0, 1) := by decide +kernel
theorem d_M_end_24 : decode (xt_code m_M_end) 24 = .ok (.ireturn, 1) := by decide +kernel
theorem d_M_end_25 : decode (xt_code m_M_end) 25 = .ok (.aload_n 0, 1) := by decide +kernel
theorem d_M_end_26 : decode (xt_code m_M_end) 26 = .ok (.getfield 72, 3) := by decide +kernel
theorem d_M_end_29 : decode (xt_code m_M_end) 29 = .ok (.iload_n 1, 1) := by decide +kernel
theorem d_M_end_30 : decode (xt_code m_M_end) 30 = .ok (.iaload, 1) := by decide +kernel
theorem d_M_end_31 : decode (xt_code m_M_end) 31 = .ok (.istore 4, 2) := by decide +kernel
theorem d_M_end_33 : decode (xt_code m_M_end) 33 = .ok (.iload_n 2, 1) := by decide +kernel
theorem d_M_end_34 : decode (xt_code m_M_end) 34 = .ok (.ifCond .eq 29, 3) := by decide +kernel
theorem d_M_end_37 : decode (xt_code m_M_end) 37 = .ok (.aload_n 0, 1) := by decide +kernel
theorem d_M_end_38 : decode (xt_code m_M_end) 38 = .ok (.getfield 42, 3) := by decide +kernel
theorem d_M_end_41 : decode (xt_code m_M_end) 41 = .ok (.iload 4, 2) := by decide +kernel
theorem d_M_end_43 : decode (xt_code m_M_end) 43 = .ok (.iconst 3, 1) := by decide +kernel
theorem d_M_end_44 : decode (xt_code m_M_end) 44 = .ok (.iastore, 1) := by decide +kernel
theorem d_M_end_45 : decode (xt_code m_M_end) 45 = .ok (.aload_n 0, 1) := by decide +kernel
theorem d_M_end_46 : decode (xt_code m_M_end) 46 = .ok (.getfield 60, 3) := by decide +kernel
theorem d_M_end_49 : decode (xt_code m_M_end) 49 = .ok (.iload 4, 2) := by decide +kernel
theorem d_M_end_51 : decode (xt_code m_M_end) 51 = .ok (.iload_n 3, 1) := by decide +kernel
theorem d_M_end_52 : decode (xt_code m_M_end) 52 = .ok (.iastore, 1) := by decide +kernel
theorem d_M_end_53 : decode (xt_code m_M_end) 53 = .ok (.aload_n 0, 1) := by decide +kernel
theorem d_M_end_54 : decode (xt_code m_M_end) 54 = .ok (.getfield 72, 3) := by decide +kernel
theorem d_M_end_57 : decode (xt_code m_M_end) 57 = .ok (.iload_n 1, 1) := by decide +kernel
theorem d_M_end_58 : decode (xt_code m_M_end) 58 = .ok (.iconst (-1), 1) := by decide +kernel
theorem d_M_end_59 : decode (xt_code m_M_end) 59 = .ok (.iastore, 1) := by decide +kernel
theorem d_M_end_60 : decode (xt_code m_M_end) 60 = .ok (.goto 9, 3) := by decide +kernel
theorem d_M_end_63 : decode (xt_code m_M_end) 63 = .ok (.aload_n 0, 1) := by decide +kernel
theorem d_M_end_64 : decode (xt_code m_M_end) 64 = .ok (.iload 4, 2) := by decide +kernel
theorem d_M_end_66 : decode (xt_code m_M_end) 66 = .ok (.invokevirtual 131, 3) := by decide +kernel
theorem d_M_end_69 : decode (xt_code m_M_end) 69 = .ok (.aload_n 0, 1) := by decide +kernel
theorem d_M_end_70 : decode (xt_code m_M_end) 70 = .ok (.invokevirtual 114, 3) := by decide +kernel
theorem d_M_end_73 : decode (xt_code m_M_end) 73 = .ok (.iconst 1, 1) := by decide +kernel
theorem d_M_end_74 : decode (xt_code m_M_end) 74 = .ok (.ireturn, 1) := by decide +kernel
theorem d_M_failTry_0 : decode (xt_code m_M_failTry) 0 = .ok (.aload_n 0, 1) := by decide +kernel
theorem d_M_failTry_1 : decode (xt_code m_M_failTry) 1 = .ok (.getfield 51, 3) := by decide +kernel
theorem d_M_failTry_4 : decode (xt_code m_M_failTry) 4 = .ok (.iload_n 1, 1) := by decide +kernel
theorem d_M_failTry_5 : decode (xt_code m_M_failTry) 5 = .ok (.dup2, 1) := by decide +kernel
theorem d_M_failTry_6 : decode (xt_code m_M_failTry) 6 = .ok (.iaload, 1) := by decide +kernel
theorem d_M_failTry_7 : decode (xt_code m_M_failTry) 7 = .ok (.iconst 1, 1) := by decide +kernel
theorem d_M_failTry_8 : decode (xt_code m_M_failTry) 8 = .ok (.iadd, 1) := by decide +kernel
theorem d_M_failTry_9 : decode (xt_code m_M_failTry) 9 = .ok (.iastore, 1) := by decide +kernel
theorem d_M_failTry_10 : decode (xt_code m_M_failTry) 10 = .ok (.aload_n 0, 1) := by decide +kernel
theorem d_M_failTry_11 : decode (xt_code m_M_failTry) 11 = .ok (.getfield 42, 3) := by decide +kernel
theorem d_M_failTry_14 : decode (xt_code m_M_failTry) 14 = .ok (.iload_n 1, 1) := by decide +kernel
theorem d_M_failTry_15 : decode (xt_code m_M_failTry) 15 = .ok (.aload_n 0, 1) := by decide +kernel
theorem d_M_failTry_16 : decode (xt_code m_M_failTry) 16 = .ok (.getfield 51, 3) := by decide +kernel
theorem d_M_failTry_19 : decode (xt_code m_M_failTry) 19 = .ok (.iload_n 1, 1) := by decide +kernel
theorem d_M_failTry_20 : decode (xt_code m_M_failTry) 20 = .ok (.iaload, 1) := by decide +kernel
theorem d_M_failTry_21 : decode (xt_code m_M_failTry) 21 = .ok (.aload_n 0, 1) := by decide +kernel
theorem d_M_failTry_22 : decode (xt_code m_M_failTry) 22 = .ok (.getfield 20, 3) := by decide +kernel
theorem d_M_failTry_25 : decode (xt_code m_M_failTry) 25 = .ok (.iload_n 1, 1) := by decide +kernel
theorem d_M_failTry_26 : decode (xt_code m_M_failTry) 26 = .ok (.bipush 12, 2) := by decide +kernel
theorem d_M_failTry_28 : decode (xt_code m_M_failTry) 28 = .ok (.irem, 1) := by decide +kernel
theorem d_M_failTry_29 : decode (xt_code m_M_failTry) 29 = .ok (.iaload, 1) := by decide +kernel
theorem d_M_failTry_30 : decode (xt_code m_M_failTry) 30 = .ok (.if_icmp .le 7, 3) := by decide +kernel
theorem d_M_failTry_33 : decode (xt_code m_M_failTry) 33 = .ok (.iconst 4, 1) := by decide +kernel
theorem d_M_failTry_34 : decode (xt_code m_M_failTry) 34 = .ok (.goto 4, 3) := by decide +kernel
theorem d_M_failTry_37 : decode (xt_code m_M_failTry) 37 = .ok (.iconst 1, 1) := by decide +kernel
theorem d_M_failTry_38 : decode (xt_code m_M_failTry) 38 = .ok (.iastore, 1) := by decide +kernel
theorem d_M_failTry_39 : decode (xt_code m_M_failTry) 39 = .ok (.aload_n 0, 1) := by decide +kernel
theorem d_M_failTry_40 : decode (xt_code m_M_failTry) 40 = .ok (.iload_n 1, 1) := by decide +kernel
theorem d_M_failTry_41 : decode (xt_code m_M_failTry) 41 = .ok (.invokevirtual 104, 3) := by decide +kernel
theorem d_M_failTry_44 : decode (xt_code m_M_failTry) 44 = .ok (.return_, 1) := by decide +kernel
theorem d_M_tick_0 : decode (xt_code m_M_tick) 0 = .ok (.aload_n 0, 1) := by decide +kernel
theorem d_M_tick_1 : decode (xt_code m_M_tick) 1 = .ok (.iconst 0, 1) := by decide +kernel
theorem d_M_tick_2 : decode (xt_code m_M_tick) 2 = .ok (.putfield 75, 3) := by decide +kernel
theorem d_M_tick_5 : decode (xt_code m_M_tick) 5 = .ok (.iload_n 1, 1) := by decide +kernel
theorem d_M_tick_6 : decode (xt_code m_M_tick) 6 = .ok (.ifCond .lt 10, 3) := by decide +kernel
theorem d_M_tick_9 : decode (xt_code m_M_tick) 9 = .ok (.iload_n 1, 1) := by decide +kernel
theorem d_M_tick_10 : decode (xt_code m_M_tick) 10 = .ok (.sipush 1000, 3) := by decide +kernel
theorem d_M_tick_13 : decode (xt_code m_M_tick) 13 = .ok (.if_icmp .le 5, 3) := by decide +kernel
theorem d_M_tick_16 : decode (xt_code m_M_tick) 16 = .ok (.iconst (-1), 1) := by decide +kernel
theorem d_M_tick_17 : decode (xt_code m_M_tick) 17 = .ok (.ireturn, 1) := by decide +kernel
theorem d_M_tick_18 : decode (xt_code m_M_tick) 18 = .ok (.iconst 0, 1) := by decide +kernel
theorem d_M_tick_19 : decode (xt_code m_M_tick) 19 = .ok (.istore_n 2, 1) := by decide +kernel
theorem d_M_tick_20 : decode (xt_code m_M_tick) 20 = .ok (.iload_n 2, 1) := by decide +kernel
theorem d_M_tick_21 : decode (xt_code m_M_tick) 21 = .ok (.iload_n 1, 1) := by decide +kernel
theorem d_M_tick_22 : decode (xt_code m_M_tick) 22 = .ok (.if_icmp .ge 43, 3) := by decide +kernel
theorem d_M_tick_25 : decode (xt_code m_M_tick) 25 = .ok (.aload_n 0, 1) := by decide +kernel
theorem d_M_tick_26 : decode (xt_code m_M_tick) 26 = .ok (.dup, 1) := by decide +kernel
theorem d_M_tick_27 : decode (xt_code m_M_tick) 27 = .ok (.getfield 91, 3) := by decide +kernel
theorem d_M_tick_30 : decode (xt_code m_M_tick) 30 = .ok (.iconst 1, 1) := by decide +kernel
theorem d_M_tick_31 : decode (xt_code m_M_tick) 31 = .ok (.iadd, 1) := by decide +kernel
theorem d_M_tick_32 : decode (xt_code m_M_tick) 32 = .ok (.putfield 91, 3) := by decide +kernel
theorem d_M_tick_35 : decode (xt_code m_M_tick) 35 = .ok (.iconst 0, 1) := by decide +kernel
theorem d_M_tick_36 : decode (xt_code m_M_tick) 36 = .ok (.istore_n 3, 1) := by decide +kernel
theorem d_M_tick_37 : decode (xt_code m_M_tick) 37 = .ok (.iload_n 3, 1) := by decide +kernel
theorem d_M_tick_38 : decode (xt_code m_M_tick) 38 = .ok (.bipush 12, 2) := by decide +kernel
theorem d_M_tick_40 : decode (xt_code m_M_tick) 40 = .ok (.aload_n 0, 1) := by decide +kernel
theorem d_M_tick_41 : decode (xt_code m_M_tick) 41 = .ok (.getfield 81, 3) := by decide +kernel
theorem d_M_tick_44 : decode (xt_code m_M_tick) 44 = .ok (.imul, 1) := by decide +kernel
theorem d_M_tick_45 : decode (xt_code m_M_tick) 45 = .ok (.if_icmp .ge 14, 3) := by decide +kernel
theorem d_M_tick_48 : decode (xt_code m_M_tick) 48 = .ok (.aload_n 0, 1) := by decide +kernel
theorem d_M_tick_49 : decode (xt_code m_M_tick) 49 = .ok (.iload_n 3, 1) := by decide +kernel
theorem d_M_tick_50 : decode (xt_code m_M_tick) 50 = .ok (.invokevirtual 137, 3) := by decide +kernel
theorem d_M_tick_53 : decode (xt_code m_M_tick) 53 = .ok (.iinc 3 1, 3) := by decide +kernel
theorem d_M_tick_56 : decode (xt_code m_M_tick) 56 = .ok (.goto (-19), 3) := by decide +kernel
theorem d_M_tick_59 : decode (xt_code m_M_tick) 59 = .ok (.iinc 2 1, 3) := by decide +kernel
theorem d_M_tick_62 : decode (xt_code m_M_tick) 62 = .ok (.goto (-42), 3) := by decide +kernel
theorem d_M_tick_65 : decode (xt_code m_M_tick) 65 = .ok (.aload_n 0, 1) := by decide +kernel
theorem d_M_tick_66 : decode (xt_code m_M_tick) 66 = .ok (.invokevirtual 114, 3) := by decide +kernel
theorem d_M_tick_69 : decode (xt_code m_M_tick) 69 = .ok (.aload_n 0, 1) := by decide +kernel
theorem d_M_tick_70 : decode (xt_code m_M_tick) 70 = .ok (.getfield 91, 3) := by decide +kernel
theorem d_M_tick_73 : decode (xt_code m_M_tick) 73 = .ok (.ireturn, 1) := by decide +kernel
theorem d_M_pass_0 : decode (xt_code m_M_pass) 0 = .ok (.aload_n 0, 1) := by decide +kernel
theorem d_M_pass_1 : decode (xt_code m_M_pass) 1 = .ok (.getfield 42, 3) := by decide +kernel
theorem d_M_pass_4 : decode (xt_code m_M_pass) 4 = .ok (.iload_n 1, 1) := by decide +kernel
theorem d_M_pass_5 : decode (xt_code m_M_pass) 5 = .ok (.iaload, 1) := by decide +kernel
theorem d_M_pass_6 : decode (xt_code m_M_pass) 6 = .ok (.iconst 2, 1) := by decide +kernel
theorem d_M_pass_7 : decode (xt_code m_M_pass) 7 = .ok (.if_icmp .eq 4, 3) := by decide +kernel
theorem d_M_pass_10 : decode (xt_code m_M_pass) 10 = .ok (.return_, 1) := by decide +kernel
theorem d_M_pass_11 : decode (xt_code m_M_pass) 11 = .ok (.iload_n 1, 1) := by decide +kernel
theorem d_M_pass_12 : decode (xt_code m_M_pass) 12 = .ok (.bipush 12, 2) := by decide +kernel
theorem d_M_pass_14 : decode (xt_code m_M_pass) 14 = .ok (.irem, 1) := by decide +kernel
theorem d_M_pass_15 : decode (xt_code m_M_pass) 15 = .ok (.istore_n 2, 1) := by decide +kernel
theorem d_M_pass_16 : decode (xt_code m_M_pass) 16 = .ok (.aload_n 0, 1) := by decide +kernel
theorem d_M_pass_17 : decode (xt_code m_M_pass) 17 = .ok (.getfield 91, 3) := by decide +kernel
theorem d_M_pass_20 : decode (xt_code m_M_pass) 20 = .ok (.aload_n 0, 1) := by decide +kernel
theorem d_M_pass_21 : decode (xt_code m_M_pass) 21 = .ok (.getfield 69, 3) := by decide +kernel
theorem d_M_pass_24 : decode (xt_code m_M_pass) 24 = .ok (.aload_n 0, 1) := by decide +kernel
theorem d_M_pass_25 : decode (xt_code m_M_pass) 25 = .ok (.iload_n 1, 1) := by decide +kernel
theorem d_M_pass_26 : decode (xt_code m_M_pass) 26 = .ok (.invokevirtual 134, 3) := by decide +kernel
theorem d_M_pass_29 : decode (xt_code m_M_pass) 29 = .ok (.iaload, 1) := by decide +kernel
theorem d_M_pass_30 : decode (xt_code m_M_pass) 30 = .ok (.isub, 1) := by decide +kernel
theorem d_M_pass_31 : decode (xt_code m_M_pass) 31 = .ok (.aload_n 0, 1) := by decide +kernel
theorem d_M_pass_32 : decode (xt_code m_M_pass) 32 = .ok (.getfield 7, 3) := by decide +kernel
theorem d_M_pass_35 : decode (xt_code m_M_pass) 35 = .ok (.if_icmp .le 52, 3) := by decide +kernel
theorem d_M_pass_38 : decode (xt_code m_M_pass) 38 = .ok (.aload_n 0, 1) := by decide +kernel
theorem d_M_pass_39 : decode (xt_code m_M_pass) 39 = .ok (.getfield 54, 3) := by decide +kernel
theorem d_M_pass_42 : decode (xt_code m_M_pass) 42 = .ok (.iload_n 1, 1) := by decide +kernel
theorem d_M_pass_43 : decode (xt_code m_M_pass) 43 = .ok (.dup2, 1) := by decide +kernel
theorem d_M_pass_44 : decode (xt_code m_M_pass) 44 = .ok (.iaload, 1) := by decide +kernel
theorem d_M_pass_45 : decode (xt_code m_M_pass) 45 = .ok (.iconst 1, 1) := by decide +kernel
theorem d_M_pass_46 : decode (xt_code m_M_pass) 46 = .ok (.iadd, 1) := by decide +kernel
theorem d_M_pass_47 : decode (xt_code m_M_pass) 47 = .ok (.iastore, 1) := by decide +kernel
theorem d_M_pass_48 : decode (xt_code m_M_pass) 48 = .ok (.aload_n 0, 1) := by decide +kernel
theorem d_M_pass_49 : decode (xt_code m_M_pass) 49 = .ok (.getfield 57, 3) := by decide +kernel
theorem d_M_pass_52 : decode (xt_code m_M_pass) 52 = .ok (.iload_n 1, 1) := by decide +kernel
theorem d_M_pass_53 : decode (xt_code m_M_pass) 53 = .ok (.dup2, 1) := by decide +kernel
theorem d_M_pass_54 : decode (xt_code m_M_pass) 54 = .ok (.iaload, 1) := by decide +kernel
theorem d_M_pass_55 : decode (xt_code m_M_pass) 55 = .ok (.iconst 1, 1) := by decide +kernel
