theorem d_M_get_48 : decode b_M_get 48 = .ok (.getfield 63, 3) := by decide +kernel
theorem d_M_get_51 : decode b_M_get 51 = .ok (.if_icmp .ge 6, 3) := by decide +kernel
theorem d_M_get_54 : decode b_M_get 54 = .ok (.bipush (-3), 2) := by decide +kernel
theorem d_M_get_56 : decode b_M_get 56 = .ok (.ireturn, 1) := by decide +kernel
theorem d_M_get_57 : decode b_M_get 57 = .ok (.aload_n 0, 1) := by decide +kernel
theorem d_M_get_58 : decode b_M_get 58 = .ok (.iconst 0, 1) := by decide +kernel
theorem d_M_get_59 : decode b_M_get 59 = .ok (.putfield 118, 3) := by decide +kernel
theorem d_M_get_62 : decode b_M_get 62 = .ok (.iconst 0, 1) := by decide +kernel
theorem d_M_get_63 : decode b_M_get 63 = .ok (.istore 4, 2) := by decide +kernel
theorem d_M_get_65 : decode b_M_get 65 = .ok (.iload 4, 2) := by decide +kernel
theorem d_M_get_67 : decode b_M_get 67 = .ok (.aload_n 0, 1) := by decide +kernel
theorem d_M_get_68 : decode b_M_get 68 = .ok (.getfield 102, 3) := by decide +kernel
theorem d_M_get_71 : decode b_M_get 71 = .ok (.if_icmp .ge 40, 3) := by decide +kernel
theorem d_M_get_74 : decode b_M_get 74 = .ok (.aload_n 0, 1) := by decide +kernel
theorem d_M_get_75 : decode b_M_get 75 = .ok (.iload 4, 2) := by decide +kernel
theorem d_M_get_77 : decode b_M_get 77 = .ok (.iload_n 2, 1) := by decide +kernel
theorem d_M_get_78 : decode b_M_get 78 = .ok (.invokevirtual 121, 3) := by decide +kernel
theorem d_M_get_81 : decode b_M_get 81 = .ok (.ifCond .eq 24, 3) := by decide +kernel
theorem d_M_get_84 : decode b_M_get 84 = .ok (.aload_n 0, 1) := by decide +kernel
theorem d_M_get_85 : decode b_M_get 85 = .ok (.getfield 50, 3) := by decide +kernel
theorem d_M_get_88 : decode b_M_get 88 = .ok (.aload_n 0, 1) := by decide +kernel
theorem d_M_get_89 : decode b_M_get 89 = .ok (.getfield 118, 3) := by decide +kernel
theorem d_M_get_92 : decode b_M_get 92 = .ok (.iload 4, 2) := by decide +kernel
theorem d_M_get_94 : decode b_M_get 94 = .ok (.iastore, 1) := by decide +kernel
theorem d_M_get_95 : decode b_M_get 95 = .ok (.aload_n 0, 1) := by decide +kernel
theorem d_M_get_96 : decode b_M_get 96 = .ok (.dup, 1) := by decide +kernel
theorem d_M_get_97 : decode b_M_get 97 = .ok (.getfield 118, 3) := by decide +kernel
theorem d_M_get_100 : decode b_M_get 100 = .ok (.iconst 1, 1) := by decide +kernel
theorem d_M_get_101 : decode b_M_get 101 = .ok (.iadd, 1) := by decide +kernel
theorem d_M_get_102 : decode b_M_get 102 = .ok (.putfield 118, 3) := by decide +kernel
theorem d_M_get_105 : decode b_M_get 105 = .ok (.iinc 4 1, 3) := by decide +kernel
theorem d_M_get_108 : decode b_M_get 108 = .ok (.goto (-43), 3) := by decide +kernel
theorem d_M_get_111 : decode b_M_get 111 = .ok (.aload_n 0, 1) := by decide +kernel
theorem d_M_get_112 : decode b_M_get 112 = .ok (.getfield 44, 3) := by decide +kernel
theorem d_M_get_115 : decode b_M_get 115 = .ok (.iload_n 3, 1) := by decide +kernel
theorem d_M_get_116 : decode b_M_get 116 = .ok (.iconst 1, 1) := by decide +kernel
theorem d_M_get_117 : decode b_M_get 117 = .ok (.bastore, 1) := by decide +kernel
theorem d_M_get_118 : decode b_M_get 118 = .ok (.aload_n 0, 1) := by decide +kernel
theorem d_M_get_119 : decode b_M_get 119 = .ok (.getfield 41, 3) := by decide +kernel
theorem d_M_get_122 : decode b_M_get 122 = .ok (.iload_n 3, 1) := by decide +kernel
theorem d_M_get_123 : decode b_M_get 123 = .ok (.iload_n 2, 1) := by decide +kernel
theorem d_M_get_124 : decode b_M_get 124 = .ok (.iastore, 1) := by decide +kernel
theorem d_M_get_125 : decode b_M_get 125 = .ok (.iconst 0, 1) := by decide +kernel
theorem d_M_get_126 : decode b_M_get 126 = .ok (.istore 4, 2) := by decide +kernel
theorem d_M_get_128 : decode b_M_get 128 = .ok (.iload 4, 2) := by decide +kernel
theorem d_M_get_130 : decode b_M_get 130 = .ok (.iconst 5, 1) := by decide +kernel
theorem d_M_get_131 : decode b_M_get 131 = .ok (.if_icmp .ge 78, 3) := by decide +kernel
theorem d_M_get_134 : decode b_M_get 134 = .ok (.iconst 0, 1) := by decide +kernel
theorem d_M_get_135 : decode b_M_get 135 = .ok (.istore 5, 2) := by decide +kernel
theorem d_M_get_137 : decode b_M_get 137 = .ok (.iconst 0, 1) := by decide +kernel
theorem d_M_get_138 : decode b_M_get 138 = .ok (.istore 6, 2) := by decide +kernel
theorem d_M_get_140 : decode b_M_get 140 = .ok (.iload 6, 2) := by decide +kernel
theorem d_M_get_142 : decode b_M_get 142 = .ok (.aload_n 0, 1) := by decide +kernel
theorem d_M_get_143 : decode b_M_get 143 = .ok (.getfield 118, 3) := by decide +kernel
theorem d_M_get_146 : decode b_M_get 146 = .ok (.if_icmp .ge 44, 3) := by decide +kernel
theorem d_M_get_149 : decode b_M_get 149 = .ok (.aload_n 0, 1) := by decide +kernel
theorem d_M_get_150 : decode b_M_get 150 = .ok (.getfield 29, 3) := by decide +kernel
theorem d_M_get_153 : decode b_M_get 153 = .ok (.iconst 5, 1) := by decide +kernel
theorem d_M_get_154 : decode b_M_get 154 = .ok (.aload_n 0, 1) := by decide +kernel
theorem d_M_get_155 : decode b_M_get 155 = .ok (.getfield 50, 3) := by decide +kernel
theorem d_M_get_158 : decode b_M_get 158 = .ok (.iload 6, 2) := by decide +kernel
theorem d_M_get_160 : decode b_M_get 160 = .ok (.iaload, 1) := by decide +kernel
theorem d_M_get_161 : decode b_M_get 161 = .ok (.imul, 1) := by decide +kernel
theorem d_M_get_162 : decode b_M_get 162 = .ok (.iload 4, 2) := by decide +kernel
theorem d_M_get_164 : decode b_M_get 164 = .ok (.iadd, 1) := by decide +kernel
theorem d_M_get_165 : decode b_M_get 165 = .ok (.iaload, 1) := by decide +kernel
theorem d_M_get_166 : decode b_M_get 166 = .ok (.istore 7, 2) := by decide +kernel
theorem d_M_get_168 : decode b_M_get 168 = .ok (.iload 7, 2) := by decide +kernel
theorem d_M_get_170 : decode b_M_get 170 = .ok (.iload 5, 2) := by decide +kernel
theorem d_M_get_172 : decode b_M_get 172 = .ok (.if_icmp .le 8, 3) := by decide +kernel
theorem d_M_get_175 : decode b_M_get 175 = .ok (.iload 7, 2) := by decide +kernel
theorem d_M_get_177 : decode b_M_get 177 = .ok (.goto 5, 3) := by decide +kernel
theorem d_M_get_180 : decode b_M_get 180 = .ok (.iload 5, 2) := by decide +kernel
theorem d_M_get_182 : decode b_M_get 182 = .ok (.istore 5, 2) := by decide +kernel
theorem d_M_get_184 : decode b_M_get 184 = .ok (.iinc 6 1, 3) := by decide +kernel
theorem d_M_get_187 : decode b_M_get 187 = .ok (.goto (-47), 3) := by decide +kernel
theorem d_M_get_190 : decode b_M_get 190 = .ok (.aload_n 0, 1) := by decide +kernel
theorem d_M_get_191 : decode b_M_get 191 = .ok (.getfield 47, 3) := by decide +kernel
theorem d_M_get_194 : decode b_M_get 194 = .ok (.iconst 5, 1) := by decide +kernel
theorem d_M_get_195 : decode b_M_get 195 = .ok (.iload_n 3, 1) := by decide +kernel
theorem d_M_get_196 : decode b_M_get 196 = .ok (.imul, 1) := by decide +kernel
theorem d_M_get_197 : decode b_M_get 197 = .ok (.iload 4, 2) := by decide +kernel
theorem d_M_get_199 : decode b_M_get 199 = .ok (.iadd, 1) := by decide +kernel
theorem d_M_get_200 : decode b_M_get 200 = .ok (.iload 5, 2) := by decide +kernel
theorem d_M_get_202 : decode b_M_get 202 = .ok (.iastore, 1) := by decide +kernel
theorem d_M_get_203 : decode b_M_get 203 = .ok (.iinc 4 1, 3) := by decide +kernel
theorem d_M_get_206 : decode b_M_get 206 = .ok (.goto (-78), 3) := by decide +kernel
theorem d_M_get_209 : decode b_M_get 209 = .ok (.aload_n 0, 1) := by decide +kernel
theorem d_M_get_210 : decode b_M_get 210 = .ok (.invokevirtual 124, 3) := by decide +kernel
theorem d_M_get_213 : decode b_M_get 213 = .ok (.aload_n 0, 1) := by decide +kernel
theorem d_M_get_214 : decode b_M_get 214 = .ok (.getfield 118, 3) := by decide +kernel
theorem d_M_get_217 : decode b_M_get 217 = .ok (.ireturn, 1) := by decide +kernel
theorem d_M_repair_0 : decode b_M_repair 0 = .ok (.aload_n 0, 1) := by decide +kernel
theorem d_M_repair_1 : decode b_M_repair 1 = .ok (.iconst 0, 1) := by decide +kernel
theorem d_M_repair_2 : decode b_M_repair 2 = .ok (.putfield 127, 3) := by decide +kernel
theorem d_M_repair_5 : decode b_M_repair 5 = .ok (.iconst 0, 1) := by decide +kernel
theorem d_M_repair_6 : decode b_M_repair 6 = .ok (.istore_n 1, 1) := by decide +kernel
theorem d_M_repair_7 : decode b_M_repair 7 = .ok (.iload_n 1, 1) := by decide +kernel
theorem d_M_repair_8 : decode b_M_repair 8 = .ok (.aload_n 0, 1) := by decide +kernel
theorem d_M_repair_9 : decode b_M_repair 9 = .ok (.getfield 91, 3) := by decide +kernel
theorem d_M_repair_12 : decode b_M_repair 12 = .ok (.if_icmp .ge 125, 3) := by decide +kernel
theorem d_M_repair_15 : decode b_M_repair 15 = .ok (.aload_n 0, 1) := by decide +kernel
theorem d_M_repair_16 : decode b_M_repair 16 = .ok (.aload_n 0, 1) := by decide +kernel
theorem d_M_repair_17 : decode b_M_repair 17 = .ok (.getfield 56, 3) := by decide +kernel
theorem d_M_repair_20 : decode b_M_repair 20 = .ok (.iload_n 1, 1) := by decide +kernel
theorem d_M_repair_21 : decode b_M_repair 21 = .ok (.iaload, 1) := by decide +kernel
theorem d_M_repair_22 : decode b_M_repair 22 = .ok (.invokevirtual 76, 3) := by decide +kernel
theorem d_M_repair_25 : decode b_M_repair 25 = .ok (.aload_n 0, 1) := by decide +kernel
theorem d_M_repair_26 : decode b_M_repair 26 = .ok (.getfield 59, 3) := by decide +kernel
theorem d_M_repair_29 : decode b_M_repair 29 = .ok (.if_icmp .ge 102, 3) := by decide +kernel
theorem d_M_repair_32 : decode b_M_repair 32 = .ok (.iconst 0, 1) := by decide +kernel
theorem d_M_repair_33 : decode b_M_repair 33 = .ok (.istore_n 2, 1) := by decide +kernel
theorem d_M_repair_34 : decode b_M_repair 34 = .ok (.iload_n 2, 1) := by decide +kernel
theorem d_M_repair_35 : decode b_M_repair 35 = .ok (.aload_n 0, 1) := by decide +kernel
theorem d_M_repair_36 : decode b_M_repair 36 = .ok (.getfield 118, 3) := by decide +kernel
theorem d_M_repair_39 : decode b_M_repair 39 = .ok (.if_icmp .ge 92, 3) := by decide +kernel
theorem d_M_repair_42 : decode b_M_repair 42 = .ok (.aload_n 0, 1) := by decide +kernel
theorem d_M_repair_43 : decode b_M_repair 43 = .ok (.getfield 32, 3) := by decide +kernel
theorem d_M_repair_46 : decode b_M_repair 46 = .ok (.bipush 40, 2) := by decide +kernel
theorem d_M_repair_48 : decode b_M_repair 48 = .ok (.aload_n 0, 1) := by decide +kernel
theorem d_M_repair_49 : decode b_M_repair 49 = .ok (.getfield 56, 3) := by decide +kernel
theorem d_M_repair_52 : decode b_M_repair 52 = .ok (.iload_n 1, 1) := by decide +kernel
theorem d_M_repair_53 : decode b_M_repair 53 = .ok (.iaload, 1) := by decide +kernel
theorem d_M_repair_54 : decode b_M_repair 54 = .ok (.imul, 1) := by decide +kernel
theorem d_M_repair_55 : decode b_M_repair 55 = .ok (.aload_n 0, 1) := by decide +kernel
theorem d_M_repair_56 : decode b_M_repair 56 = .ok (.getfield 50, 3) := by decide +kernel
theorem d_M_repair_59 : decode b_M_repair 59 = .ok (.iload_n 2, 1) := by decide +kernel
theorem d_M_repair_60 : decode b_M_repair 60 = .ok (.iaload, 1) := by decide +kernel
theorem d_M_repair_61 : decode b_M_repair 61 = .ok (.iadd, 1) := by decide +kernel
theorem d_M_repair_62 : decode b_M_repair 62 = .ok (.baload, 1) := by decide +kernel
theorem d_M_repair_63 : decode b_M_repair 63 = .ok (.istore_n 3, 1) := by decide +kernel
theorem d_M_repair_64 : decode b_M_repair 64 = .ok (.aload_n 0, 1) := by decide +kernel
theorem d_M_repair_65 : decode b_M_repair 65 = .ok (.aload_n 0, 1) := by decide +kernel
theorem d_M_repair_66 : decode b_M_repair 66 = .ok (.getfield 56, 3) := by decide +kernel
theorem d_M_repair_69 : decode b_M_repair 69 = .ok (.iload_n 1, 1) := by decide +kernel
theorem d_M_repair_70 : decode b_M_repair 70 = .ok (.iaload, 1) := by decide +kernel
theorem d_M_repair_71 : decode b_M_repair 71 = .ok (.aload_n 0, 1) := by decide +kernel
theorem d_M_repair_72 : decode b_M_repair 72 = .ok (.getfield 50, 3) := by decide +kernel
theorem d_M_repair_75 : decode b_M_repair 75 = .ok (.iload_n 2, 1) := by decide +kernel
theorem d_M_repair_76 : decode b_M_repair 76 = .ok (.iaload, 1) := by decide +kernel
theorem d_M_repair_77 : decode b_M_repair 77 = .ok (.invokevirtual 112, 3) := by decide +kernel
theorem d_M_repair_80 : decode b_M_repair 80 = .ok (.aload_n 0, 1) := by decide +kernel
theorem d_M_repair_81 : decode b_M_repair 81 = .ok (.iload_n 3, 1) := by decide +kernel
theorem d_M_repair_82 : decode b_M_repair 82 = .ok (.ifCond .ne 36, 3) := by decide +kernel
theorem d_M_repair_85 : decode b_M_repair 85 = .ok (.aload_n 0, 1) := by decide +kernel
theorem d_M_repair_86 : decode b_M_repair 86 = .ok (.getfield 32, 3) := by decide +kernel
theorem d_M_repair_89 : decode b_M_repair 89 = .ok (.bipush 40, 2) := by decide +kernel
theorem d_M_repair_91 : decode b_M_repair 91 = .ok (.aload_n 0, 1) := by decide +kernel
theorem d_M_repair_92 : decode b_M_repair 92 = .ok (.getfield 56, 3) := by decide +kernel
theorem d_M_repair_95 : decode b_M_repair 95 = .ok (.iload_n 1, 1) := by decide +kernel
theorem d_M_repair_96 : decode b_M_repair 96 = .ok (.iaload, 1) := by decide +kernel
theorem d_M_repair_97 : decode b_M_repair 97 = .ok (.imul, 1) := by decide +kernel
theorem d_M_repair_98 : decode b_M_repair 98 = .ok (.aload_n 0, 1) := by decide +kernel
theorem d_M_repair_99 : decode b_M_repair 99 = .ok (.getfield 50, 3) := by decide +kernel
theorem d_M_repair_102 : decode b_M_repair 102 = .ok (.iload_n 2, 1) := by decide +kernel
theorem d_M_repair_103 : decode b_M_repair 103 = .ok (.iaload, 1) := by decide +kernel
theorem d_M_repair_104 : decode b_M_repair 104 = .ok (.iadd, 1) := by decide +kernel
theorem d_M_repair_105 : decode b_M_repair 105 = .ok (.baload, 1) := by decide +kernel
theorem d_M_repair_106 : decode b_M_repair 106 = .ok (.ifCond .eq 12, 3) := by decide +kernel
theorem d_M_repair_109 : decode b_M_repair 109 = .ok (.aload_n 0, 1) := by decide +kernel
theorem d_M_repair_110 : decode b_M_repair 110 = .ok (.getfield 127, 3) := by decide +kernel
theorem d_M_repair_113 : decode b_M_repair 113 = .ok (.iconst 1, 1) := by decide +kernel
theorem d_M_repair_114 : decode b_M_repair 114 = .ok (.iadd, 1) := by decide +kernel
theorem d_M_repair_115 : decode b_M_repair 115 = .ok (.goto 7, 3) := by decide +kernel
theorem d_M_repair_118 : decode b_M_repair 118 = .ok (.aload_n 0, 1) := by decide +kernel
theorem d_M_repair_119 : decode b_M_repair 119 = .ok (.getfield 127, 3) := by decide +kernel
theorem d_M_repair_122 : decode b_M_repair 122 = .ok (.putfield 127, 3) := by decide +kernel
theorem d_M_repair_125 : decode b_M_repair 125 = .ok (.iinc 2 1, 3) := by decide +kernel
theorem d_M_repair_128 : decode b_M_repair 128 = .ok (.goto (-94), 3) := by decide +kernel
theorem d_M_repair_131 : decode b_M_repair 131 = .ok (.iinc 1 1, 3) := by decide +kernel
theorem d_M_repair_134 : decode b_M_repair 134 = .ok (.goto (-127), 3) := by decide +kernel
theorem d_M_repair_137 : decode b_M_repair 137 = .ok (.return_, 1) := by decide +kernel
theorem d_M_found_0 : decode b_M_found 0 = .ok (.iload_n 1, 1) := by decide +kernel
theorem d_M_found_1 : decode b_M_found 1 = .ok (.ifCond .lt 20, 3) := by decide +kernel
theorem d_M_found_4 : decode b_M_found 4 = .ok (.iload_n 1, 1) := by decide +kernel
theorem d_M_found_5 : decode b_M_found 5 = .ok (.aload_n 0, 1) := by decide +kernel
theorem d_M_found_6 : decode b_M_found 6 = .ok (.getfield 118, 3) := by decide +kernel
theorem d_M_found_9 : decode b_M_found 9 = .ok (.if_icmp .ge 12, 3) := by decide +kernel
theorem d_M_found_12 : decode b_M_found 12 = .ok (.aload_n 0, 1) := by decide +kernel
theorem d_M_found_13 : decode b_M_found 13 = .ok (.getfield 50, 3) := by decide +kernel
theorem d_M_found_16 : decode b_M_found 16 = .ok (.iload_n 1, 1) := by decide +kernel
theorem d_M_found_17 : decode b_M_found 17 = .ok (.iaload, 1) := by decide +kernel
theorem d_M_found_18 : decode b_M_found 18 = .ok (.goto 4, 3) := by decide +kernel
theorem d_M_found_21 : decode b_M_found 21 = .ok (.iconst (-1), 1) := by decide +kernel
theorem d_M_found_22 : decode b_M_found 22 = .ok (.ireturn, 1) := by decide +kernel
theorem d_M_repaired_0 : decode b_M_repaired 0 = .ok (.aload_n 0, 1) := by decide +kernel
theorem d_M_repaired_1 : decode b_M_repaired 1 = .ok (.getfield 127, 3) := by decide +kernel
theorem d_M_repaired_4 : decode b_M_repaired 4 = .ok (.ireturn, 1) := by decide +kernel
theorem d_M_handOver_0 : decode b_M_handOver 0 = .ok (.iload_n 1, 1) := by decide +kernel
theorem d_M_handOver_1 : decode b_M_handOver 1 = .ok (.invokestatic 69, 3) := by decide +kernel
theorem d_M_handOver_4 : decode b_M_handOver 4 = .ok (.ifCond .ne 5, 3) := by decide +kernel
theorem d_M_handOver_7 : decode b_M_handOver 7 = .ok (.iconst (-1), 1) := by decide +kernel
theorem d_M_handOver_8 : decode b_M_handOver 8 = .ok (.ireturn, 1) := by decide +kernel
theorem d_M_handOver_9 : decode b_M_handOver 9 = .ok (.aload_n 0, 1) := by decide +kernel
theorem d_M_handOver_10 : decode b_M_handOver 10 = .ok (.getfield 7, 3) := by decide +kernel
theorem d_M_handOver_13 : decode b_M_handOver 13 = .ok (.iload_n 1, 1) := by decide +kernel
theorem d_M_handOver_14 : decode b_M_handOver 14 = .ok (.baload, 1) := by decide +kernel
theorem d_M_handOver_15 : decode b_M_handOver 15 = .ok (.ifCond .eq 6, 3) := by decide +kernel
theorem d_M_handOver_18 : decode b_M_handOver 18 = .ok (.bipush (-2), 2) := by decide +kernel
theorem d_M_handOver_20 : decode b_M_handOver 20 = .ok (.ireturn, 1) := by decide +kernel
theorem d_M_handOver_21 : decode b_M_handOver 21 = .ok (.iconst 0, 1) := by decide +kernel
theorem d_M_handOver_22 : decode b_M_handOver 22 = .ok (.istore_n 2, 1) := by decide +kernel
theorem d_M_handOver_23 : decode b_M_handOver 23 = .ok (.iconst 0, 1) := by decide +kernel
theorem d_M_handOver_24 : decode b_M_handOver 24 = .ok (.istore_n 3, 1) := by decide +kernel
theorem d_M_handOver_25 : decode b_M_handOver 25 = .ok (.iload_n 3, 1) := by decide +kernel
theorem d_M_handOver_26 : decode b_M_handOver 26 = .ok (.aload_n 0, 1) := by decide +kernel
theorem d_M_handOver_27 : decode b_M_handOver 27 = .ok (.getfield 102, 3) := by decide +kernel
theorem d_M_handOver_30 : decode b_M_handOver 30 = .ok (.if_icmp .ge 61, 3) := by decide +kernel
theorem d_M_handOver_33 : decode b_M_handOver 33 = .ok (.aload_n 0, 1) := by decide +kernel
theorem d_M_handOver_34 : decode b_M_handOver 34 = .ok (.getfield 35, 3) := by decide +kernel
theorem d_M_handOver_37 : decode b_M_handOver 37 = .ok (.bipush 40, 2) := by decide +kernel
theorem d_M_handOver_39 : decode b_M_handOver 39 = .ok (.iload_n 1, 1) := by decide +kernel
theorem d_M_handOver_40 : decode b_M_handOver 40 = .ok (.imul, 1) := by decide +kernel
theorem d_M_handOver_41 : decode b_M_handOver 41 = .ok (.iload_n 3, 1) := by decide +kernel
theorem d_M_handOver_42 : decode b_M_handOver 42 = .ok (.iadd, 1) := by decide +kernel
theorem d_M_handOver_43 : decode b_M_handOver 43 = .ok (.iaload, 1) := by decide +kernel
theorem d_M_handOver_44 : decode b_M_handOver 44 = .ok (.iconst 1, 1) := by decide +kernel
theorem d_M_handOver_45 : decode b_M_handOver 45 = .ok (.isub, 1) := by decide +kernel
theorem d_M_handOver_46 : decode b_M_handOver 46 = .ok (.istore 4, 2) := by decide +kernel
theorem d_M_handOver_48 : decode b_M_handOver 48 = .ok (.iload 4, 2) := by decide +kernel
theorem d_M_handOver_50 : decode b_M_handOver 50 = .ok (.ifCond .lt 35, 3) := by decide +kernel
theorem d_M_handOver_53 : decode b_M_handOver 53 = .ok (.aload_n 0, 1) := by decide +kernel
theorem d_M_handOver_54 : decode b_M_handOver 54 = .ok (.iload_n 1, 1) := by decide +kernel
theorem d_M_handOver_55 : decode b_M_handOver 55 = .ok (.iload 4, 2) := by decide +kernel
theorem d_M_handOver_57 : decode b_M_handOver 57 = .ok (.invokevirtual 94, 3) := by decide +kernel
theorem d_M_handOver_60 : decode b_M_handOver 60 = .ok (.ifCond .eq 25, 3) := by decide +kernel
theorem d_M_handOver_63 : decode b_M_handOver 63 = .ok (.aload_n 0, 1) := by decide +kernel
theorem d_M_handOver_64 : decode b_M_handOver 64 = .ok (.iload 4, 2) := by decide +kernel
theorem d_M_handOver_66 : decode b_M_handOver 66 = .ok (.iload_n 3, 1) := by decide +kernel
theorem d_M_handOver_67 : decode b_M_handOver 67 = .ok (.invokevirtual 112, 3) := by decide +kernel
theorem d_M_handOver_70 : decode b_M_handOver 70 = .ok (.aload_n 0, 1) := by decide +kernel
theorem d_M_handOver_71 : decode b_M_handOver 71 = .ok (.getfield 35, 3) := by decide +kernel
theorem d_M_handOver_74 : decode b_M_handOver 74 = .ok (.bipush 40, 2) := by decide +kernel
theorem d_M_handOver_76 : decode b_M_handOver 76 = .ok (.iload_n 1, 1) := by decide +kernel
theorem d_M_handOver_77 : decode b_M_handOver 77 = .ok (.imul, 1) := by decide +kernel
theorem d_M_handOver_78 : decode b_M_handOver 78 = .ok (.iload_n 3, 1) := by decide +kernel
theorem d_M_handOver_79 : decode b_M_handOver 79 = .ok (.iadd, 1) := by decide +kernel
theorem d_M_handOver_80 : decode b_M_handOver 80 = .ok (.iconst 0, 1) := by decide +kernel
theorem d_M_handOver_81 : decode b_M_handOver 81 = .ok (.iastore, 1) := by decide +kernel
theorem d_M_handOver_82 : decode b_M_handOver 82 = .ok (.iinc 2 1, 3) := by decide +kernel
theorem d_M_handOver_85 : decode b_M_handOver 85 = .ok (.iinc 3 1, 3) := by decide +kernel
theorem d_M_handOver_88 : decode b_M_handOver 88 = .ok (.goto (-63), 3) := by decide +kernel
theorem d_M_handOver_91 : decode b_M_handOver 91 = .ok (.iconst 0, 1) := by decide +kernel
theorem d_M_handOver_92 : decode b_M_handOver 92 = .ok (.istore_n 3, 1) := by decide +kernel
theorem d_M_handOver_93 : decode b_M_handOver 93 = .ok (.iload_n 3, 1) := by decide +kernel
theorem d_M_handOver_94 : decode b_M_handOver 94 = .ok (.bipush 32, 2) := by decide +kernel
theorem d_M_handOver_96 : decode b_M_handOver 96 = .ok (.if_icmp .ge 18, 3) := by decide +kernel
theorem d_M_handOver_99 : decode b_M_handOver 99 = .ok (.iload_n 2, 1) := by decide +kernel
theorem d_M_handOver_100 : decode b_M_handOver 100 = .ok (.aload_n 0, 1) := by decide +kernel
theorem d_M_handOver_101 : decode b_M_handOver 101 = .ok (.iload_n 1, 1) := by decide +kernel
theorem d_M_handOver_102 : decode b_M_handOver 102 = .ok (.iload_n 3, 1) := by decide +kernel
theorem d_M_handOver_103 : decode b_M_handOver 103 = .ok (.invokevirtual 130, 3) := by decide +kernel
theorem d_M_handOver_106 : decode b_M_handOver 106 = .ok (.iadd, 1) := by decide +kernel
theorem d_M_handOver_107 : decode b_M_handOver 107 = .ok (.istore_n 2, 1) := by decide +kernel
theorem d_M_handOver_108 : decode b_M_handOver 108 = .ok (.iinc 3 1, 3) := by decide +kernel
theorem d_M_handOver_111 : decode b_M_handOver 111 = .ok (.goto (-18), 3) := by decide +kernel
theorem d_M_handOver_114 : decode b_M_handOver 114 = .ok (.iload_n 2, 1) := by decide +kernel
theorem d_M_handOver_115 : decode b_M_handOver 115 = .ok (.ireturn, 1) := by decide +kernel
theorem d_M_moved_0 : decode b_M_moved 0 = .ok (.aload_n 0, 1) := by decide +kernel
theorem d_M_moved_1 : decode b_M_moved 1 = .ok (.iload_n 1, 1) := by decide +kernel
theorem d_M_moved_2 : decode b_M_moved 2 = .ok (.iload_n 2, 1) := by decide +kernel
theorem d_M_moved_3 : decode b_M_moved 3 = .ok (.invokevirtual 133, 3) := by decide +kernel
theorem d_M_moved_6 : decode b_M_moved 6 = .ok (.ifCond .eq 19, 3) := by decide +kernel
theorem d_M_moved_9 : decode b_M_moved 9 = .ok (.aload_n 0, 1) := by decide +kernel
theorem d_M_moved_10 : decode b_M_moved 10 = .ok (.iload_n 1, 1) := by decide +kernel
theorem d_M_moved_11 : decode b_M_moved 11 = .ok (.iload_n 2, 1) := by decide +kernel
theorem d_M_moved_12 : decode b_M_moved 12 = .ok (.invokevirtual 136, 3) := by decide +kernel
theorem d_M_moved_15 : decode b_M_moved 15 = .ok (.ifCond .ne 10, 3) := by decide +kernel
theorem d_M_moved_18 : decode b_M_moved 18 = .ok (.aload_n 0, 1) := by decide +kernel
theorem d_M_moved_19 : decode b_M_moved 19 = .ok (.invokevirtual 87, 3) := by decide +kernel
theorem d_M_moved_22 : decode b_M_moved 22 = .ok (.ifCond .ne 5, 3) := by decide +kernel
theorem d_M_moved_25 : decode b_M_moved 25 = .ok (.iconst 0, 1) := by decide +kernel
theorem d_M_moved_26 : decode b_M_moved 26 = .ok (.ireturn, 1) := by decide +kernel
theorem d_M_moved_27 : decode b_M_moved 27 = .ok (.iconst 0, 1) := by decide +kernel
theorem d_M_moved_28 : decode b_M_moved 28 = .ok (.istore_n 3, 1) := by decide +kernel
theorem d_M_moved_29 : decode b_M_moved 29 = .ok (.iload_n 3, 1) := by decide +kernel
theorem d_M_moved_30 : decode b_M_moved 30 = .ok (.aload_n 0, 1) := by decide +kernel
theorem d_M_moved_31 : decode b_M_moved 31 = .ok (.invokevirtual 87, 3) := by decide +kernel
theorem d_M_moved_34 : decode b_M_moved 34 = .ok (.if_icmp .ge 25, 3) := by decide +kernel
theorem d_M_moved_37 : decode b_M_moved 37 = .ok (.aload_n 0, 1) := by decide +kernel
theorem d_M_moved_38 : decode b_M_moved 38 = .ok (.iload_n 1, 1) := by decide +kernel
theorem d_M_moved_39 : decode b_M_moved 39 = .ok (.aload_n 0, 1) := by decide +kernel
theorem d_M_moved_40 : decode b_M_moved 40 = .ok (.getfield 53, 3) := by decide +kernel
theorem d_M_moved_43 : decode b_M_moved 43 = .ok (.iload_n 3, 1) := by decide +kernel
theorem d_M_moved_44 : decode b_M_moved 44 = .ok (.iaload, 1) := by decide +kernel
theorem d_M_moved_45 : decode b_M_moved 45 = .ok (.invokevirtual 94, 3) := by decide +kernel
theorem d_M_moved_48 : decode b_M_moved 48 = .ok (.ifCond .ne 5, 3) := by decide +kernel
theorem d_M_moved_51 : decode b_M_moved 51 = .ok (.iconst 0, 1) := by decide +kernel
theorem d_M_moved_52 : decode b_M_moved 52 = .ok (.ireturn, 1) := by decide +kernel
theorem d_M_moved_53 : decode b_M_moved 53 = .ok (.iinc 3 1, 3) := by decide +kernel
theorem d_M_moved_56 : decode b_M_moved 56 = .ok (.goto (-27), 3) := by decide +kernel
theorem d_M_moved_59 : decode b_M_moved 59 = .ok (.iconst 0, 1) := by decide +kernel
theorem d_M_moved_60 : decode b_M_moved 60 = .ok (.istore_n 3, 1) := by decide +kernel
theorem d_M_moved_61 : decode b_M_moved 61 = .ok (.iconst 0, 1) := by decide +kernel
theorem d_M_moved_62 : decode b_M_moved 62 = .ok (.istore 4, 2) := by decide +kernel
theorem d_M_moved_64 : decode b_M_moved 64 = .ok (.iload 4, 2) := by decide +kernel
theorem d_M_moved_66 : decode b_M_moved 66 = .ok (.aload_n 0, 1) := by decide +kernel
theorem d_M_moved_67 : decode b_M_moved 67 = .ok (.getfield 102, 3) := by decide +kernel
theorem d_M_moved_70 : decode b_M_moved 70 = .ok (.if_icmp .ge 82, 3) := by decide +kernel
theorem d_M_moved_73 : decode b_M_moved 73 = .ok (.aload_n 0, 1) := by decide +kernel
theorem d_M_moved_74 : decode b_M_moved 74 = .ok (.getfield 32, 3) := by decide +kernel
theorem d_M_moved_77 : decode b_M_moved 77 = .ok (.bipush 40, 2) := by decide +kernel
theorem d_M_moved_79 : decode b_M_moved 79 = .ok (.iload_n 1, 1) := by decide +kernel
theorem d_M_moved_80 : decode b_M_moved 80 = .ok (.imul, 1) := by decide +kernel
theorem d_M_moved_81 : decode b_M_moved 81 = .ok (.iload 4, 2) := by decide +kernel
theorem d_M_moved_83 : decode b_M_moved 83 = .ok (.iadd, 1) := by decide +kernel
theorem d_M_moved_84 : decode b_M_moved 84 = .ok (.baload, 1) := by decide +kernel
theorem d_M_moved_85 : decode b_M_moved 85 = .ok (.ifCond .eq 61, 3) := by decide +kernel
theorem d_M_moved_88 : decode b_M_moved 88 = .ok (.aload_n 0, 1) := by decide +kernel
theorem d_M_moved_89 : decode b_M_moved 89 = .ok (.getfield 20, 3) := by decide +kernel
theorem d_M_moved_92 : decode b_M_moved 92 = .ok (.iload 4, 2) := by decide +kernel
theorem d_M_moved_94 : decode b_M_moved 94 = .ok (.iaload, 1) := by decide +kernel
theorem d_M_moved_95 : decode b_M_moved 95 = .ok (.iload_n 2, 1) := by decide +kernel
theorem d_M_moved_96 : decode b_M_moved 96 = .ok (.if_icmp .ne 50, 3) := by decide +kernel
theorem d_M_moved_99 : decode b_M_moved 99 = .ok (.iconst 0, 1) := by decide +kernel
theorem d_M_moved_100 : decode b_M_moved 100 = .ok (.istore 5, 2) := by decide +kernel
theorem d_M_moved_102 : decode b_M_moved 102 = .ok (.iload 5, 2) := by decide +kernel
theorem d_M_moved_104 : decode b_M_moved 104 = .ok (.aload_n 0, 1) := by decide +kernel
theorem d_M_moved_105 : decode b_M_moved 105 = .ok (.invokevirtual 87, 3) := by decide +kernel
theorem d_M_moved_108 : decode b_M_moved 108 = .ok (.if_icmp .ge 22, 3) := by decide +kernel
theorem d_M_moved_111 : decode b_M_moved 111 = .ok (.aload_n 0, 1) := by decide +kernel
theorem d_M_moved_112 : decode b_M_moved 112 = .ok (.aload_n 0, 1) := by decide +kernel
theorem d_M_moved_113 : decode b_M_moved 113 = .ok (.getfield 53, 3) := by decide +kernel
theorem d_M_moved_116 : decode b_M_moved 116 = .ok (.iload 5, 2) := by decide +kernel
theorem d_M_moved_118 : decode b_M_moved 118 = .ok (.iaload, 1) := by decide +kernel
theorem d_M_moved_119 : decode b_M_moved 119 = .ok (.iload 4, 2) := by decide +kernel
theorem d_M_moved_121 : decode b_M_moved 121 = .ok (.invokevirtual 112, 3) := by decide +kernel
theorem d_M_moved_124 : decode b_M_moved 124 = .ok (.iinc 5 1, 3) := by decide +kernel
theorem d_M_moved_127 : decode b_M_moved 127 = .ok (.goto (-25), 3) := by decide +kernel
theorem d_M_moved_130 : decode b_M_moved 130 = .ok (.aload_n 0, 1) := by decide +kernel
theorem d_M_moved_131 : decode b_M_moved 131 = .ok (.getfield 32, 3) := by decide +kernel
theorem d_M_moved_134 : decode b_M_moved 134 = .ok (.bipush 40, 2) := by decide +kernel
theorem d_M_moved_136 : decode b_M_moved 136 = .ok (.iload_n 1, 1) := by decide +kernel
theorem d_M_moved_137 : decode b_M_moved 137 = .ok (.imul, 1) := by decide +kernel
theorem d_M_moved_138 : decode b_M_moved 138 = .ok (.iload 4, 2) := by decide +kernel
theorem d_M_moved_140 : decode b_M_moved 140 = .ok (.iadd, 1) := by decide +kernel
theorem d_M_moved_141 : decode b_M_moved 141 = .ok (.iconst 0, 1) := by decide +kernel
theorem d_M_moved_142 : decode b_M_moved 142 = .ok (.bastore, 1) := by decide +kernel
theorem d_M_moved_143 : decode b_M_moved 143 = .ok (.iinc 3 1, 3) := by decide +kernel
theorem d_M_moved_146 : decode b_M_moved 146 = .ok (.iinc 4 1, 3) := by decide +kernel
theorem d_M_moved_149 : decode b_M_moved 149 = .ok (.goto (-85), 3) := by decide +kernel
theorem d_M_moved_152 : decode b_M_moved 152 = .ok (.iload_n 3, 1) := by decide +kernel
theorem d_M_moved_153 : decode b_M_moved 153 = .ok (.ireturn, 1) := by decide +kernel
theorem d_M_differ_0 : decode b_M_differ 0 = .ok (.aload_n 0, 1) := by decide +kernel
theorem d_M_differ_1 : decode b_M_differ 1 = .ok (.iload_n 1, 1) := by decide +kernel
theorem d_M_differ_2 : decode b_M_differ 2 = .ok (.iload_n 3, 1) := by decide +kernel
theorem d_M_differ_3 : decode b_M_differ 3 = .ok (.invokevirtual 136, 3) := by decide +kernel
theorem d_M_differ_6 : decode b_M_differ 6 = .ok (.ifCond .eq 12, 3) := by decide +kernel
theorem d_M_differ_9 : decode b_M_differ 9 = .ok (.aload_n 0, 1) := by decide +kernel
theorem d_M_differ_10 : decode b_M_differ 10 = .ok (.iload_n 2, 1) := by decide +kernel
theorem d_M_differ_11 : decode b_M_differ 11 = .ok (.iload_n 3, 1) := by decide +kernel
theorem d_M_differ_12 : decode b_M_differ 12 = .ok (.invokevirtual 136, 3) := by decide +kernel
theorem d_M_differ_15 : decode b_M_differ 15 = .ok (.ifCond .ne 5, 3) := by decide +kernel
theorem d_M_differ_18 : decode b_M_differ 18 = .ok (.iconst 0, 1) := by decide +kernel
theorem d_M_differ_19 : decode b_M_differ 19 = .ok (.ireturn, 1) := by decide +kernel
theorem d_M_differ_20 : decode b_M_differ 20 = .ok (.iconst 0, 1) := by decide +kernel
theorem d_M_differ_21 : decode b_M_differ 21 = .ok (.istore 4, 2) := by decide +kernel
theorem d_M_differ_23 : decode b_M_differ 23 = .ok (.iconst 0, 1) := by decide +kernel
theorem d_M_differ_24 : decode b_M_differ 24 = .ok (.istore 5, 2) := by decide +kernel
theorem d_M_differ_26 : decode b_M_differ 26 = .ok (.iload 5, 2) := by decide +kernel
theorem d_M_differ_28 : decode b_M_differ 28 = .ok (.aload_n 0, 1) := by decide +kernel
theorem d_M_differ_29 : decode b_M_differ 29 = .ok (.getfield 102, 3) := by decide +kernel
theorem d_M_differ_32 : decode b_M_differ 32 = .ok (.if_icmp .ge 59, 3) := by decide +kernel
theorem d_M_differ_35 : decode b_M_differ 35 = .ok (.iload 4, 2) := by decide +kernel
theorem d_M_differ_37 : decode b_M_differ 37 = .ok (.ifCond .ne 41, 3) := by decide +kernel
theorem d_M_differ_40 : decode b_M_differ 40 = .ok (.aload_n 0, 1) := by decide +kernel
theorem d_M_differ_41 : decode b_M_differ 41 = .ok (.getfield 20, 3) := by decide +kernel
theorem d_M_differ_44 : decode b_M_differ 44 = .ok (.iload 5, 2) := by decide +kernel
theorem d_M_differ_46 : decode b_M_differ 46 = .ok (.iaload, 1) := by decide +kernel
theorem d_M_differ_47 : decode b_M_differ 47 = .ok (.iload_n 3, 1) := by decide +kernel
theorem d_M_differ_48 : decode b_M_differ 48 = .ok (.if_icmp .ne 34, 3) := by decide +kernel
theorem d_M_differ_51 : decode b_M_differ 51 = .ok (.aload_n 0, 1) := by decide +kernel
theorem d_M_differ_52 : decode b_M_differ 52 = .ok (.getfield 32, 3) := by decide +kernel
theorem d_M_differ_55 : decode b_M_differ 55 = .ok (.bipush 40, 2) := by decide +kernel
theorem d_M_differ_57 : decode b_M_differ 57 = .ok (.iload_n 1, 1) := by decide +kernel
theorem d_M_differ_58 : decode b_M_differ 58 = .ok (.imul, 1) := by decide +kernel
theorem d_M_differ_59 : decode b_M_differ 59 = .ok (.iload 5, 2) := by decide +kernel
theorem d_M_differ_61 : decode b_M_differ 61 = .ok (.iadd, 1) := by decide +kernel
theorem d_M_differ_62 : decode b_M_differ 62 = .ok (.baload, 1) := by decide +kernel
theorem d_M_differ_63 : decode b_M_differ 63 = .ok (.aload_n 0, 1) := by decide +kernel
theorem d_M_differ_64 : decode b_M_differ 64 = .ok (.getfield 32, 3) := by decide +kernel
theorem d_M_differ_67 : decode b_M_differ 67 = .ok (.bipush 40, 2) := by decide +kernel
theorem d_M_differ_69 : decode b_M_differ 69 = .ok (.iload_n 2, 1) := by decide +kernel
theorem d_M_differ_70 : decode b_M_differ 70 = .ok (.imul, 1) := by decide +kernel
theorem d_M_differ_71 : decode b_M_differ 71 = .ok (.iload 5, 2) := by decide +kernel
theorem d_M_differ_73 : decode b_M_differ 73 = .ok (.iadd, 1) := by decide +kernel
theorem d_M_differ_74 : decode b_M_differ 74 = .ok (.baload, 1) := by decide +kernel
theorem d_M_differ_75 : decode b_M_differ 75 = .ok (.if_icmp .eq 7, 3) := by decide +kernel
theorem d_M_differ_78 : decode b_M_differ 78 = .ok (.iconst 1, 1) := by decide +kernel
theorem d_M_differ_79 : decode b_M_differ 79 = .ok (.goto 4, 3) := by decide +kernel
theorem d_M_differ_82 : decode b_M_differ 82 = .ok (.iconst 0, 1) := by decide +kernel
theorem d_M_differ_83 : decode b_M_differ 83 = .ok (.istore 4, 2) := by decide +kernel
theorem d_M_differ_85 : decode b_M_differ 85 = .ok (.iinc 5 1, 3) := by decide +kernel
theorem d_M_differ_88 : decode b_M_differ 88 = .ok (.goto (-62), 3) := by decide +kernel
theorem d_M_differ_91 : decode b_M_differ 91 = .ok (.iload 4, 2) := by decide +kernel
theorem d_M_differ_93 : decode b_M_differ 93 = .ok (.ireturn, 1) := by decide +kernel
theorem d_M_exchange_0 : decode b_M_exchange 0 = .ok (.iconst 0, 1) := by decide +kernel
theorem d_M_exchange_1 : decode b_M_exchange 1 = .ok (.istore 4, 2) := by decide +kernel
theorem d_M_exchange_3 : decode b_M_exchange 3 = .ok (.iload 4, 2) := by decide +kernel
theorem d_M_exchange_5 : decode b_M_exchange 5 = .ok (.aload_n 0, 1) := by decide +kernel
theorem d_M_exchange_6 : decode b_M_exchange 6 = .ok (.getfield 102, 3) := by decide +kernel
theorem d_M_exchange_9 : decode b_M_exchange 9 = .ok (.if_icmp .ge 88, 3) := by decide +kernel
theorem d_M_exchange_12 : decode b_M_exchange 12 = .ok (.aload_n 0, 1) := by decide +kernel
theorem d_M_exchange_13 : decode b_M_exchange 13 = .ok (.getfield 38, 3) := by decide +kernel
theorem d_M_exchange_16 : decode b_M_exchange 16 = .ok (.iload 4, 2) := by decide +kernel
theorem d_M_exchange_18 : decode b_M_exchange 18 = .ok (.aload_n 0, 1) := by decide +kernel
theorem d_M_exchange_19 : decode b_M_exchange 19 = .ok (.getfield 32, 3) := by decide +kernel
theorem d_M_exchange_22 : decode b_M_exchange 22 = .ok (.bipush 40, 2) := by decide +kernel
theorem d_M_exchange_24 : decode b_M_exchange 24 = .ok (.iload_n 1, 1) := by decide +kernel
theorem d_M_exchange_25 : decode b_M_exchange 25 = .ok (.imul, 1) := by decide +kernel
theorem d_M_exchange_26 : decode b_M_exchange 26 = .ok (.iload 4, 2) := by decide +kernel
theorem d_M_exchange_28 : decode b_M_exchange 28 = .ok (.iadd, 1) := by decide +kernel
theorem d_M_exchange_29 : decode b_M_exchange 29 = .ok (.baload, 1) := by decide +kernel
theorem d_M_exchange_30 : decode b_M_exchange 30 = .ok (.ifCond .eq 18, 3) := by decide +kernel
theorem d_M_exchange_33 : decode b_M_exchange 33 = .ok (.aload_n 0, 1) := by decide +kernel
theorem d_M_exchange_34 : decode b_M_exchange 34 = .ok (.getfield 20, 3) := by decide +kernel
theorem d_M_exchange_37 : decode b_M_exchange 37 = .ok (.iload 4, 2) := by decide +kernel
theorem d_M_exchange_39 : decode b_M_exchange 39 = .ok (.iaload, 1) := by decide +kernel
theorem d_M_exchange_40 : decode b_M_exchange 40 = .ok (.iload_n 3, 1) := by decide +kernel
theorem d_M_exchange_41 : decode b_M_exchange 41 = .ok (.if_icmp .ne 7, 3) := by decide +kernel
theorem d_M_exchange_44 : decode b_M_exchange 44 = .ok (.iconst 1, 1) := by decide +kernel
theorem d_M_exchange_45 : decode b_M_exchange 45 = .ok (.goto 4, 3) := by decide +kernel
theorem d_M_exchange_48 : decode b_M_exchange 48 = .ok (.iconst 0, 1) := by decide +kernel
theorem d_M_exchange_49 : decode b_M_exchange 49 = .ok (.bastore, 1) := by decide +kernel
theorem d_M_exchange_50 : decode b_M_exchange 50 = .ok (.aload_n 0, 1) := by decide +kernel
theorem d_M_exchange_51 : decode b_M_exchange 51 = .ok (.getfield 38, 3) := by decide +kernel
theorem d_M_exchange_54 : decode b_M_exchange 54 = .ok (.bipush 40, 2) := by decide +kernel
theorem d_M_exchange_56 : decode b_M_exchange 56 = .ok (.iload 4, 2) := by decide +kernel
theorem d_M_exchange_58 : decode b_M_exchange 58 = .ok (.iadd, 1) := by decide +kernel
theorem d_M_exchange_59 : decode b_M_exchange 59 = .ok (.aload_n 0, 1) := by decide +kernel
theorem d_M_exchange_60 : decode b_M_exchange 60 = .ok (.getfield 32, 3) := by decide +kernel
theorem d_M_exchange_63 : decode b_M_exchange 63 = .ok (.bipush 40, 2) := by decide +kernel
theorem d_M_exchange_65 : decode b_M_exchange 65 = .ok (.iload_n 2, 1) := by decide +kernel
theorem d_M_exchange_66 : decode b_M_exchange 66 = .ok (.imul, 1) := by decide +kernel
theorem d_M_exchange_67 : decode b_M_exchange 67 = .ok (.iload 4, 2) := by decide +kernel
theorem d_M_exchange_69 : decode b_M_exchange 69 = .ok (.iadd, 1) := by decide +kernel
theorem d_M_exchange_70 : decode b_M_exchange 70 = .ok (.baload, 1) := by decide +kernel
theorem d_M_exchange_71 : decode b_M_exchange 71 = .ok (.ifCond .eq 18, 3) := by decide +kernel
theorem d_M_exchange_74 : decode b_M_exchange 74 = .ok (.aload_n 0, 1) := by decide +kernel
theorem d_M_exchange_75 : decode b_M_exchange 75 = .ok (.getfield 20, 3) := by decide +kernel
theorem d_M_exchange_78 : decode b_M_exchange 78 = .ok (.iload 4, 2) := by decide +kernel
theorem d_M_exchange_80 : decode b_M_exchange 80 = .ok (.iaload, 1) := by decide +kernel
theorem d_M_exchange_81 : decode b_M_exchange 81 = .ok (.iload_n 3, 1) := by decide +kernel
theorem d_M_exchange_82 : decode b_M_exchange 82 = .ok (.if_icmp .ne 7, 3) := by decide +kernel
theorem d_M_exchange_85 : decode b_M_exchange 85 = .ok (.iconst 1, 1) := by decide +kernel
theorem d_M_exchange_86 : decode b_M_exchange 86 = .ok (.goto 4, 3) := by decide +kernel
theorem d_M_exchange_89 : decode b_M_exchange 89 = .ok (.iconst 0, 1) := by decide +kernel
theorem d_M_exchange_90 : decode b_M_exchange 90 = .ok (.bastore, 1) := by decide +kernel
theorem d_M_exchange_91 : decode b_M_exchange 91 = .ok (.iinc 4 1, 3) := by decide +kernel
theorem d_M_exchange_94 : decode b_M_exchange 94 = .ok (.goto (-91), 3) := by decide +kernel
