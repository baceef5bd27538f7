theorem d_M_init_0 : decode b_M_init 0 = .ok (.aload_n 0, 1) := by decide +kernel
theorem d_M_init_1 : decode b_M_init 1 = .ok (.invokespecial 1, 3) := by decide +kernel
theorem d_M_init_4 : decode b_M_init 4 = .ok (.aload_n 0, 1) := by decide +kernel
theorem d_M_init_5 : decode b_M_init 5 = .ok (.iconst 5, 1) := by decide +kernel
theorem d_M_init_6 : decode b_M_init 6 = .ok (.newarray .boolean, 2) := by decide +kernel
theorem d_M_init_8 : decode b_M_init 8 = .ok (.putfield 7, 3) := by decide +kernel
theorem d_M_init_11 : decode b_M_init 11 = .ok (.aload_n 0, 1) := by decide +kernel
theorem d_M_init_12 : decode b_M_init 12 = .ok (.bipush 25, 2) := by decide +kernel
theorem d_M_init_14 : decode b_M_init 14 = .ok (.newarray .boolean, 2) := by decide +kernel
theorem d_M_init_16 : decode b_M_init 16 = .ok (.putfield 13, 3) := by decide +kernel
theorem d_M_init_19 : decode b_M_init 19 = .ok (.aload_n 0, 1) := by decide +kernel
theorem d_M_init_20 : decode b_M_init 20 = .ok (.bipush 16, 2) := by decide +kernel
theorem d_M_init_22 : decode b_M_init 22 = .ok (.newarray .int, 2) := by decide +kernel
theorem d_M_init_24 : decode b_M_init 24 = .ok (.putfield 16, 3) := by decide +kernel
theorem d_M_init_27 : decode b_M_init 27 = .ok (.aload_n 0, 1) := by decide +kernel
theorem d_M_init_28 : decode b_M_init 28 = .ok (.bipush 40, 2) := by decide +kernel
theorem d_M_init_30 : decode b_M_init 30 = .ok (.newarray .int, 2) := by decide +kernel
theorem d_M_init_32 : decode b_M_init 32 = .ok (.putfield 20, 3) := by decide +kernel
theorem d_M_init_35 : decode b_M_init 35 = .ok (.aload_n 0, 1) := by decide +kernel
theorem d_M_init_36 : decode b_M_init 36 = .ok (.bipush 40, 2) := by decide +kernel
theorem d_M_init_38 : decode b_M_init 38 = .ok (.newarray .int, 2) := by decide +kernel
theorem d_M_init_40 : decode b_M_init 40 = .ok (.putfield 23, 3) := by decide +kernel
theorem d_M_init_43 : decode b_M_init 43 = .ok (.aload_n 0, 1) := by decide +kernel
theorem d_M_init_44 : decode b_M_init 44 = .ok (.bipush 40, 2) := by decide +kernel
theorem d_M_init_46 : decode b_M_init 46 = .ok (.newarray .int, 2) := by decide +kernel
theorem d_M_init_48 : decode b_M_init 48 = .ok (.putfield 26, 3) := by decide +kernel
theorem d_M_init_51 : decode b_M_init 51 = .ok (.aload_n 0, 1) := by decide +kernel
theorem d_M_init_52 : decode b_M_init 52 = .ok (.sipush 200, 3) := by decide +kernel
theorem d_M_init_55 : decode b_M_init 55 = .ok (.newarray .int, 2) := by decide +kernel
theorem d_M_init_57 : decode b_M_init 57 = .ok (.putfield 29, 3) := by decide +kernel
theorem d_M_init_60 : decode b_M_init 60 = .ok (.aload_n 0, 1) := by decide +kernel
theorem d_M_init_61 : decode b_M_init 61 = .ok (.sipush 200, 3) := by decide +kernel
theorem d_M_init_64 : decode b_M_init 64 = .ok (.newarray .boolean, 2) := by decide +kernel
theorem d_M_init_66 : decode b_M_init 66 = .ok (.putfield 32, 3) := by decide +kernel
theorem d_M_init_69 : decode b_M_init 69 = .ok (.aload_n 0, 1) := by decide +kernel
theorem d_M_init_70 : decode b_M_init 70 = .ok (.sipush 200, 3) := by decide +kernel
theorem d_M_init_73 : decode b_M_init 73 = .ok (.newarray .int, 2) := by decide +kernel
theorem d_M_init_75 : decode b_M_init 75 = .ok (.putfield 35, 3) := by decide +kernel
theorem d_M_init_78 : decode b_M_init 78 = .ok (.aload_n 0, 1) := by decide +kernel
theorem d_M_init_79 : decode b_M_init 79 = .ok (.bipush 80, 2) := by decide +kernel
theorem d_M_init_81 : decode b_M_init 81 = .ok (.newarray .boolean, 2) := by decide +kernel
theorem d_M_init_83 : decode b_M_init 83 = .ok (.putfield 38, 3) := by decide +kernel
theorem d_M_init_86 : decode b_M_init 86 = .ok (.aload_n 0, 1) := by decide +kernel
theorem d_M_init_87 : decode b_M_init 87 = .ok (.iconst 4, 1) := by decide +kernel
theorem d_M_init_88 : decode b_M_init 88 = .ok (.newarray .int, 2) := by decide +kernel
theorem d_M_init_90 : decode b_M_init 90 = .ok (.putfield 41, 3) := by decide +kernel
theorem d_M_init_93 : decode b_M_init 93 = .ok (.aload_n 0, 1) := by decide +kernel
theorem d_M_init_94 : decode b_M_init 94 = .ok (.iconst 4, 1) := by decide +kernel
theorem d_M_init_95 : decode b_M_init 95 = .ok (.newarray .boolean, 2) := by decide +kernel
theorem d_M_init_97 : decode b_M_init 97 = .ok (.putfield 44, 3) := by decide +kernel
theorem d_M_init_100 : decode b_M_init 100 = .ok (.aload_n 0, 1) := by decide +kernel
theorem d_M_init_101 : decode b_M_init 101 = .ok (.bipush 20, 2) := by decide +kernel
theorem d_M_init_103 : decode b_M_init 103 = .ok (.newarray .int, 2) := by decide +kernel
theorem d_M_init_105 : decode b_M_init 105 = .ok (.putfield 47, 3) := by decide +kernel
theorem d_M_init_108 : decode b_M_init 108 = .ok (.aload_n 0, 1) := by decide +kernel
theorem d_M_init_109 : decode b_M_init 109 = .ok (.bipush 40, 2) := by decide +kernel
theorem d_M_init_111 : decode b_M_init 111 = .ok (.newarray .int, 2) := by decide +kernel
theorem d_M_init_113 : decode b_M_init 113 = .ok (.putfield 50, 3) := by decide +kernel
theorem d_M_init_116 : decode b_M_init 116 = .ok (.aload_n 0, 1) := by decide +kernel
theorem d_M_init_117 : decode b_M_init 117 = .ok (.iconst 5, 1) := by decide +kernel
theorem d_M_init_118 : decode b_M_init 118 = .ok (.newarray .int, 2) := by decide +kernel
theorem d_M_init_120 : decode b_M_init 120 = .ok (.putfield 53, 3) := by decide +kernel
theorem d_M_init_123 : decode b_M_init 123 = .ok (.aload_n 0, 1) := by decide +kernel
theorem d_M_init_124 : decode b_M_init 124 = .ok (.iconst 5, 1) := by decide +kernel
theorem d_M_init_125 : decode b_M_init 125 = .ok (.newarray .int, 2) := by decide +kernel
theorem d_M_init_127 : decode b_M_init 127 = .ok (.putfield 56, 3) := by decide +kernel
theorem d_M_init_130 : decode b_M_init 130 = .ok (.aload_n 0, 1) := by decide +kernel
theorem d_M_init_131 : decode b_M_init 131 = .ok (.iload_n 1, 1) := by decide +kernel
theorem d_M_init_132 : decode b_M_init 132 = .ok (.iconst 3, 1) := by decide +kernel
theorem d_M_init_133 : decode b_M_init 133 = .ok (.iand, 1) := by decide +kernel
theorem d_M_init_134 : decode b_M_init 134 = .ok (.iconst 3, 1) := by decide +kernel
theorem d_M_init_135 : decode b_M_init 135 = .ok (.if_icmp .ne 7, 3) := by decide +kernel
theorem d_M_init_138 : decode b_M_init 138 = .ok (.iconst 3, 1) := by decide +kernel
theorem d_M_init_139 : decode b_M_init 139 = .ok (.goto 8, 3) := by decide +kernel
theorem d_M_init_142 : decode b_M_init 142 = .ok (.iconst 1, 1) := by decide +kernel
theorem d_M_init_143 : decode b_M_init 143 = .ok (.iload_n 1, 1) := by decide +kernel
theorem d_M_init_144 : decode b_M_init 144 = .ok (.iconst 3, 1) := by decide +kernel
theorem d_M_init_145 : decode b_M_init 145 = .ok (.iand, 1) := by decide +kernel
theorem d_M_init_146 : decode b_M_init 146 = .ok (.iadd, 1) := by decide +kernel
theorem d_M_init_147 : decode b_M_init 147 = .ok (.putfield 59, 3) := by decide +kernel
theorem d_M_init_150 : decode b_M_init 150 = .ok (.aload_n 0, 1) := by decide +kernel
theorem d_M_init_151 : decode b_M_init 151 = .ok (.iconst 1, 1) := by decide +kernel
theorem d_M_init_152 : decode b_M_init 152 = .ok (.iload_n 2, 1) := by decide +kernel
theorem d_M_init_153 : decode b_M_init 153 = .ok (.iconst 3, 1) := by decide +kernel
theorem d_M_init_154 : decode b_M_init 154 = .ok (.iand, 1) := by decide +kernel
theorem d_M_init_155 : decode b_M_init 155 = .ok (.iadd, 1) := by decide +kernel
theorem d_M_init_156 : decode b_M_init 156 = .ok (.aload_n 0, 1) := by decide +kernel
theorem d_M_init_157 : decode b_M_init 157 = .ok (.getfield 59, 3) := by decide +kernel
theorem d_M_init_160 : decode b_M_init 160 = .ok (.if_icmp .ge 11, 3) := by decide +kernel
theorem d_M_init_163 : decode b_M_init 163 = .ok (.iconst 1, 1) := by decide +kernel
theorem d_M_init_164 : decode b_M_init 164 = .ok (.iload_n 2, 1) := by decide +kernel
theorem d_M_init_165 : decode b_M_init 165 = .ok (.iconst 3, 1) := by decide +kernel
theorem d_M_init_166 : decode b_M_init 166 = .ok (.iand, 1) := by decide +kernel
theorem d_M_init_167 : decode b_M_init 167 = .ok (.iadd, 1) := by decide +kernel
theorem d_M_init_168 : decode b_M_init 168 = .ok (.goto 7, 3) := by decide +kernel
theorem d_M_init_171 : decode b_M_init 171 = .ok (.aload_n 0, 1) := by decide +kernel
theorem d_M_init_172 : decode b_M_init 172 = .ok (.getfield 59, 3) := by decide +kernel
theorem d_M_init_175 : decode b_M_init 175 = .ok (.putfield 63, 3) := by decide +kernel
theorem d_M_init_178 : decode b_M_init 178 = .ok (.aload_n 0, 1) := by decide +kernel
theorem d_M_init_179 : decode b_M_init 179 = .ok (.iconst 1, 1) := by decide +kernel
theorem d_M_init_180 : decode b_M_init 180 = .ok (.iload_n 3, 1) := by decide +kernel
theorem d_M_init_181 : decode b_M_init 181 = .ok (.iconst 3, 1) := by decide +kernel
theorem d_M_init_182 : decode b_M_init 182 = .ok (.iand, 1) := by decide +kernel
theorem d_M_init_183 : decode b_M_init 183 = .ok (.iadd, 1) := by decide +kernel
theorem d_M_init_184 : decode b_M_init 184 = .ok (.aload_n 0, 1) := by decide +kernel
theorem d_M_init_185 : decode b_M_init 185 = .ok (.getfield 59, 3) := by decide +kernel
theorem d_M_init_188 : decode b_M_init 188 = .ok (.if_icmp .ge 11, 3) := by decide +kernel
theorem d_M_init_191 : decode b_M_init 191 = .ok (.iconst 1, 1) := by decide +kernel
theorem d_M_init_192 : decode b_M_init 192 = .ok (.iload_n 3, 1) := by decide +kernel
theorem d_M_init_193 : decode b_M_init 193 = .ok (.iconst 3, 1) := by decide +kernel
theorem d_M_init_194 : decode b_M_init 194 = .ok (.iand, 1) := by decide +kernel
theorem d_M_init_195 : decode b_M_init 195 = .ok (.iadd, 1) := by decide +kernel
theorem d_M_init_196 : decode b_M_init 196 = .ok (.goto 7, 3) := by decide +kernel
theorem d_M_init_199 : decode b_M_init 199 = .ok (.aload_n 0, 1) := by decide +kernel
theorem d_M_init_200 : decode b_M_init 200 = .ok (.getfield 59, 3) := by decide +kernel
theorem d_M_init_203 : decode b_M_init 203 = .ok (.putfield 66, 3) := by decide +kernel
theorem d_M_init_206 : decode b_M_init 206 = .ok (.return_, 1) := by decide +kernel
theorem d_M_isNode_0 : decode b_M_isNode 0 = .ok (.iload_n 0, 1) := by decide +kernel
theorem d_M_isNode_1 : decode b_M_isNode 1 = .ok (.ifCond .lt 12, 3) := by decide +kernel
theorem d_M_isNode_4 : decode b_M_isNode 4 = .ok (.iload_n 0, 1) := by decide +kernel
theorem d_M_isNode_5 : decode b_M_isNode 5 = .ok (.iconst 4, 1) := by decide +kernel
theorem d_M_isNode_6 : decode b_M_isNode 6 = .ok (.if_icmp .gt 7, 3) := by decide +kernel
theorem d_M_isNode_9 : decode b_M_isNode 9 = .ok (.iconst 1, 1) := by decide +kernel
theorem d_M_isNode_10 : decode b_M_isNode 10 = .ok (.goto 4, 3) := by decide +kernel
theorem d_M_isNode_13 : decode b_M_isNode 13 = .ok (.iconst 0, 1) := by decide +kernel
theorem d_M_isNode_14 : decode b_M_isNode 14 = .ok (.ireturn, 1) := by decide +kernel
theorem d_M_isKey_0 : decode b_M_isKey 0 = .ok (.iload_n 0, 1) := by decide +kernel
theorem d_M_isKey_1 : decode b_M_isKey 1 = .ok (.ifCond .lt 13, 3) := by decide +kernel
theorem d_M_isKey_4 : decode b_M_isKey 4 = .ok (.iload_n 0, 1) := by decide +kernel
theorem d_M_isKey_5 : decode b_M_isKey 5 = .ok (.bipush 31, 2) := by decide +kernel
theorem d_M_isKey_7 : decode b_M_isKey 7 = .ok (.if_icmp .gt 7, 3) := by decide +kernel
theorem d_M_isKey_10 : decode b_M_isKey 10 = .ok (.iconst 1, 1) := by decide +kernel
theorem d_M_isKey_11 : decode b_M_isKey 11 = .ok (.goto 4, 3) := by decide +kernel
theorem d_M_isKey_14 : decode b_M_isKey 14 = .ok (.iconst 0, 1) := by decide +kernel
theorem d_M_isKey_15 : decode b_M_isKey 15 = .ok (.ireturn, 1) := by decide +kernel
theorem d_M_reaches_0 : decode b_M_reaches 0 = .ok (.aload_n 0, 1) := by decide +kernel
theorem d_M_reaches_1 : decode b_M_reaches 1 = .ok (.getfield 7, 3) := by decide +kernel
theorem d_M_reaches_4 : decode b_M_reaches 4 = .ok (.iload_n 1, 1) := by decide +kernel
theorem d_M_reaches_5 : decode b_M_reaches 5 = .ok (.baload, 1) := by decide +kernel
theorem d_M_reaches_6 : decode b_M_reaches 6 = .ok (.ifCond .ne 29, 3) := by decide +kernel
theorem d_M_reaches_9 : decode b_M_reaches 9 = .ok (.aload_n 0, 1) := by decide +kernel
theorem d_M_reaches_10 : decode b_M_reaches 10 = .ok (.getfield 7, 3) := by decide +kernel
theorem d_M_reaches_13 : decode b_M_reaches 13 = .ok (.iload_n 2, 1) := by decide +kernel
theorem d_M_reaches_14 : decode b_M_reaches 14 = .ok (.baload, 1) := by decide +kernel
theorem d_M_reaches_15 : decode b_M_reaches 15 = .ok (.ifCond .ne 20, 3) := by decide +kernel
theorem d_M_reaches_18 : decode b_M_reaches 18 = .ok (.aload_n 0, 1) := by decide +kernel
theorem d_M_reaches_19 : decode b_M_reaches 19 = .ok (.getfield 13, 3) := by decide +kernel
theorem d_M_reaches_22 : decode b_M_reaches 22 = .ok (.iconst 5, 1) := by decide +kernel
theorem d_M_reaches_23 : decode b_M_reaches 23 = .ok (.iload_n 1, 1) := by decide +kernel
theorem d_M_reaches_24 : decode b_M_reaches 24 = .ok (.imul, 1) := by decide +kernel
theorem d_M_reaches_25 : decode b_M_reaches 25 = .ok (.iload_n 2, 1) := by decide +kernel
theorem d_M_reaches_26 : decode b_M_reaches 26 = .ok (.iadd, 1) := by decide +kernel
theorem d_M_reaches_27 : decode b_M_reaches 27 = .ok (.baload, 1) := by decide +kernel
theorem d_M_reaches_28 : decode b_M_reaches 28 = .ok (.ifCond .ne 7, 3) := by decide +kernel
theorem d_M_reaches_31 : decode b_M_reaches 31 = .ok (.iconst 1, 1) := by decide +kernel
theorem d_M_reaches_32 : decode b_M_reaches 32 = .ok (.goto 4, 3) := by decide +kernel
theorem d_M_reaches_35 : decode b_M_reaches 35 = .ok (.iconst 0, 1) := by decide +kernel
theorem d_M_reaches_36 : decode b_M_reaches 36 = .ok (.ireturn, 1) := by decide +kernel
theorem d_M_token_0 : decode b_M_token 0 = .ok (.iload_n 1, 1) := by decide +kernel
theorem d_M_token_1 : decode b_M_token 1 = .ok (.invokestatic 69, 3) := by decide +kernel
theorem d_M_token_4 : decode b_M_token 4 = .ok (.ifCond .eq 22, 3) := by decide +kernel
theorem d_M_token_7 : decode b_M_token 7 = .ok (.iload_n 2, 1) := by decide +kernel
theorem d_M_token_8 : decode b_M_token 8 = .ok (.ifCond .lt 18, 3) := by decide +kernel
theorem d_M_token_11 : decode b_M_token 11 = .ok (.iload_n 2, 1) := by decide +kernel
theorem d_M_token_12 : decode b_M_token 12 = .ok (.bipush 15, 2) := by decide +kernel
theorem d_M_token_14 : decode b_M_token 14 = .ok (.if_icmp .gt 12, 3) := by decide +kernel
theorem d_M_token_17 : decode b_M_token 17 = .ok (.aload_n 0, 1) := by decide +kernel
theorem d_M_token_18 : decode b_M_token 18 = .ok (.getfield 16, 3) := by decide +kernel
theorem d_M_token_21 : decode b_M_token 21 = .ok (.iload_n 2, 1) := by decide +kernel
theorem d_M_token_22 : decode b_M_token 22 = .ok (.iaload, 1) := by decide +kernel
theorem d_M_token_23 : decode b_M_token 23 = .ok (.ifCond .eq 5, 3) := by decide +kernel
theorem d_M_token_26 : decode b_M_token 26 = .ok (.iconst 0, 1) := by decide +kernel
theorem d_M_token_27 : decode b_M_token 27 = .ok (.ireturn, 1) := by decide +kernel
theorem d_M_token_28 : decode b_M_token 28 = .ok (.aload_n 0, 1) := by decide +kernel
theorem d_M_token_29 : decode b_M_token 29 = .ok (.getfield 16, 3) := by decide +kernel
theorem d_M_token_32 : decode b_M_token 32 = .ok (.iload_n 2, 1) := by decide +kernel
theorem d_M_token_33 : decode b_M_token 33 = .ok (.iload_n 1, 1) := by decide +kernel
theorem d_M_token_34 : decode b_M_token 34 = .ok (.iconst 1, 1) := by decide +kernel
theorem d_M_token_35 : decode b_M_token 35 = .ok (.iadd, 1) := by decide +kernel
theorem d_M_token_36 : decode b_M_token 36 = .ok (.iastore, 1) := by decide +kernel
theorem d_M_token_37 : decode b_M_token 37 = .ok (.iconst 1, 1) := by decide +kernel
theorem d_M_token_38 : decode b_M_token 38 = .ok (.ireturn, 1) := by decide +kernel
theorem d_M_remove_0 : decode b_M_remove 0 = .ok (.iload_n 1, 1) := by decide +kernel
theorem d_M_remove_1 : decode b_M_remove 1 = .ok (.ifCond .lt 18, 3) := by decide +kernel
theorem d_M_remove_4 : decode b_M_remove 4 = .ok (.iload_n 1, 1) := by decide +kernel
theorem d_M_remove_5 : decode b_M_remove 5 = .ok (.bipush 15, 2) := by decide +kernel
theorem d_M_remove_7 : decode b_M_remove 7 = .ok (.if_icmp .gt 12, 3) := by decide +kernel
theorem d_M_remove_10 : decode b_M_remove 10 = .ok (.aload_n 0, 1) := by decide +kernel
theorem d_M_remove_11 : decode b_M_remove 11 = .ok (.getfield 16, 3) := by decide +kernel
theorem d_M_remove_14 : decode b_M_remove 14 = .ok (.iload_n 1, 1) := by decide +kernel
theorem d_M_remove_15 : decode b_M_remove 15 = .ok (.iaload, 1) := by decide +kernel
theorem d_M_remove_16 : decode b_M_remove 16 = .ok (.ifCond .ne 5, 3) := by decide +kernel
theorem d_M_remove_19 : decode b_M_remove 19 = .ok (.iconst 0, 1) := by decide +kernel
theorem d_M_remove_20 : decode b_M_remove 20 = .ok (.ireturn, 1) := by decide +kernel
theorem d_M_remove_21 : decode b_M_remove 21 = .ok (.aload_n 0, 1) := by decide +kernel
theorem d_M_remove_22 : decode b_M_remove 22 = .ok (.getfield 16, 3) := by decide +kernel
theorem d_M_remove_25 : decode b_M_remove 25 = .ok (.iload_n 1, 1) := by decide +kernel
theorem d_M_remove_26 : decode b_M_remove 26 = .ok (.iconst 0, 1) := by decide +kernel
theorem d_M_remove_27 : decode b_M_remove 27 = .ok (.iastore, 1) := by decide +kernel
theorem d_M_remove_28 : decode b_M_remove 28 = .ok (.iconst 1, 1) := by decide +kernel
theorem d_M_remove_29 : decode b_M_remove 29 = .ok (.ireturn, 1) := by decide +kernel
theorem d_M_power_0 : decode b_M_power 0 = .ok (.iload_n 1, 1) := by decide +kernel
theorem d_M_power_1 : decode b_M_power 1 = .ok (.invokestatic 69, 3) := by decide +kernel
theorem d_M_power_4 : decode b_M_power 4 = .ok (.ifCond .eq 13, 3) := by decide +kernel
theorem d_M_power_7 : decode b_M_power 7 = .ok (.aload_n 0, 1) := by decide +kernel
theorem d_M_power_8 : decode b_M_power 8 = .ok (.getfield 7, 3) := by decide +kernel
theorem d_M_power_11 : decode b_M_power 11 = .ok (.iload_n 1, 1) := by decide +kernel
theorem d_M_power_12 : decode b_M_power 12 = .ok (.baload, 1) := by decide +kernel
theorem d_M_power_13 : decode b_M_power 13 = .ok (.iload_n 2, 1) := by decide +kernel
theorem d_M_power_14 : decode b_M_power 14 = .ok (.if_icmp .eq 5, 3) := by decide +kernel
theorem d_M_power_17 : decode b_M_power 17 = .ok (.iconst 0, 1) := by decide +kernel
theorem d_M_power_18 : decode b_M_power 18 = .ok (.ireturn, 1) := by decide +kernel
theorem d_M_power_19 : decode b_M_power 19 = .ok (.aload_n 0, 1) := by decide +kernel
theorem d_M_power_20 : decode b_M_power 20 = .ok (.getfield 7, 3) := by decide +kernel
theorem d_M_power_23 : decode b_M_power 23 = .ok (.iload_n 1, 1) := by decide +kernel
theorem d_M_power_24 : decode b_M_power 24 = .ok (.iload_n 2, 1) := by decide +kernel
theorem d_M_power_25 : decode b_M_power 25 = .ok (.ifCond .ne 7, 3) := by decide +kernel
theorem d_M_power_28 : decode b_M_power 28 = .ok (.iconst 1, 1) := by decide +kernel
theorem d_M_power_29 : decode b_M_power 29 = .ok (.goto 4, 3) := by decide +kernel
theorem d_M_power_32 : decode b_M_power 32 = .ok (.iconst 0, 1) := by decide +kernel
theorem d_M_power_33 : decode b_M_power 33 = .ok (.bastore, 1) := by decide +kernel
theorem d_M_power_34 : decode b_M_power 34 = .ok (.iconst 1, 1) := by decide +kernel
theorem d_M_power_35 : decode b_M_power 35 = .ok (.ireturn, 1) := by decide +kernel
theorem d_M_cut_0 : decode b_M_cut 0 = .ok (.iload_n 1, 1) := by decide +kernel
theorem d_M_cut_1 : decode b_M_cut 1 = .ok (.invokestatic 69, 3) := by decide +kernel
theorem d_M_cut_4 : decode b_M_cut 4 = .ok (.ifCond .eq 29, 3) := by decide +kernel
theorem d_M_cut_7 : decode b_M_cut 7 = .ok (.iload_n 2, 1) := by decide +kernel
theorem d_M_cut_8 : decode b_M_cut 8 = .ok (.invokestatic 69, 3) := by decide +kernel
theorem d_M_cut_11 : decode b_M_cut 11 = .ok (.ifCond .eq 22, 3) := by decide +kernel
theorem d_M_cut_14 : decode b_M_cut 14 = .ok (.iload_n 1, 1) := by decide +kernel
theorem d_M_cut_15 : decode b_M_cut 15 = .ok (.iload_n 2, 1) := by decide +kernel
theorem d_M_cut_16 : decode b_M_cut 16 = .ok (.if_icmp .eq 17, 3) := by decide +kernel
theorem d_M_cut_19 : decode b_M_cut 19 = .ok (.aload_n 0, 1) := by decide +kernel
theorem d_M_cut_20 : decode b_M_cut 20 = .ok (.getfield 13, 3) := by decide +kernel
theorem d_M_cut_23 : decode b_M_cut 23 = .ok (.iconst 5, 1) := by decide +kernel
theorem d_M_cut_24 : decode b_M_cut 24 = .ok (.iload_n 1, 1) := by decide +kernel
theorem d_M_cut_25 : decode b_M_cut 25 = .ok (.imul, 1) := by decide +kernel
theorem d_M_cut_26 : decode b_M_cut 26 = .ok (.iload_n 2, 1) := by decide +kernel
theorem d_M_cut_27 : decode b_M_cut 27 = .ok (.iadd, 1) := by decide +kernel
theorem d_M_cut_28 : decode b_M_cut 28 = .ok (.baload, 1) := by decide +kernel
theorem d_M_cut_29 : decode b_M_cut 29 = .ok (.iload_n 3, 1) := by decide +kernel
theorem d_M_cut_30 : decode b_M_cut 30 = .ok (.if_icmp .ne 5, 3) := by decide +kernel
theorem d_M_cut_33 : decode b_M_cut 33 = .ok (.iconst 0, 1) := by decide +kernel
theorem d_M_cut_34 : decode b_M_cut 34 = .ok (.ireturn, 1) := by decide +kernel
theorem d_M_cut_35 : decode b_M_cut 35 = .ok (.aload_n 0, 1) := by decide +kernel
theorem d_M_cut_36 : decode b_M_cut 36 = .ok (.getfield 13, 3) := by decide +kernel
theorem d_M_cut_39 : decode b_M_cut 39 = .ok (.iconst 5, 1) := by decide +kernel
theorem d_M_cut_40 : decode b_M_cut 40 = .ok (.iload_n 1, 1) := by decide +kernel
theorem d_M_cut_41 : decode b_M_cut 41 = .ok (.imul, 1) := by decide +kernel
theorem d_M_cut_42 : decode b_M_cut 42 = .ok (.iload_n 2, 1) := by decide +kernel
theorem d_M_cut_43 : decode b_M_cut 43 = .ok (.iadd, 1) := by decide +kernel
theorem d_M_cut_44 : decode b_M_cut 44 = .ok (.iload_n 3, 1) := by decide +kernel
theorem d_M_cut_45 : decode b_M_cut 45 = .ok (.bastore, 1) := by decide +kernel
theorem d_M_cut_46 : decode b_M_cut 46 = .ok (.aload_n 0, 1) := by decide +kernel
theorem d_M_cut_47 : decode b_M_cut 47 = .ok (.getfield 13, 3) := by decide +kernel
theorem d_M_cut_50 : decode b_M_cut 50 = .ok (.iconst 5, 1) := by decide +kernel
theorem d_M_cut_51 : decode b_M_cut 51 = .ok (.iload_n 2, 1) := by decide +kernel
theorem d_M_cut_52 : decode b_M_cut 52 = .ok (.imul, 1) := by decide +kernel
theorem d_M_cut_53 : decode b_M_cut 53 = .ok (.iload_n 1, 1) := by decide +kernel
theorem d_M_cut_54 : decode b_M_cut 54 = .ok (.iadd, 1) := by decide +kernel
theorem d_M_cut_55 : decode b_M_cut 55 = .ok (.iload_n 3, 1) := by decide +kernel
theorem d_M_cut_56 : decode b_M_cut 56 = .ok (.bastore, 1) := by decide +kernel
theorem d_M_cut_57 : decode b_M_cut 57 = .ok (.iconst 1, 1) := by decide +kernel
theorem d_M_cut_58 : decode b_M_cut 58 = .ok (.ireturn, 1) := by decide +kernel
theorem d_M_placeIn_0 : decode b_M_placeIn 0 = .ok (.iconst 0, 1) := by decide +kernel
theorem d_M_placeIn_1 : decode b_M_placeIn 1 = .ok (.istore_n 2, 1) := by decide +kernel
theorem d_M_placeIn_2 : decode b_M_placeIn 2 = .ok (.iload_n 2, 1) := by decide +kernel
theorem d_M_placeIn_3 : decode b_M_placeIn 3 = .ok (.aload_n 0, 1) := by decide +kernel
theorem d_M_placeIn_4 : decode b_M_placeIn 4 = .ok (.getfield 73, 3) := by decide +kernel
theorem d_M_placeIn_7 : decode b_M_placeIn 7 = .ok (.if_icmp .ge 21, 3) := by decide +kernel
theorem d_M_placeIn_10 : decode b_M_placeIn 10 = .ok (.aload_n 0, 1) := by decide +kernel
theorem d_M_placeIn_11 : decode b_M_placeIn 11 = .ok (.getfield 53, 3) := by decide +kernel
theorem d_M_placeIn_14 : decode b_M_placeIn 14 = .ok (.iload_n 2, 1) := by decide +kernel
theorem d_M_placeIn_15 : decode b_M_placeIn 15 = .ok (.iaload, 1) := by decide +kernel
theorem d_M_placeIn_16 : decode b_M_placeIn 16 = .ok (.iload_n 1, 1) := by decide +kernel
theorem d_M_placeIn_17 : decode b_M_placeIn 17 = .ok (.if_icmp .ne 5, 3) := by decide +kernel
theorem d_M_placeIn_20 : decode b_M_placeIn 20 = .ok (.iload_n 2, 1) := by decide +kernel
theorem d_M_placeIn_21 : decode b_M_placeIn 21 = .ok (.ireturn, 1) := by decide +kernel
theorem d_M_placeIn_22 : decode b_M_placeIn 22 = .ok (.iinc 2 1, 3) := by decide +kernel
theorem d_M_placeIn_25 : decode b_M_placeIn 25 = .ok (.goto (-23), 3) := by decide +kernel
theorem d_M_placeIn_28 : decode b_M_placeIn 28 = .ok (.iconst (-1), 1) := by decide +kernel
theorem d_M_placeIn_29 : decode b_M_placeIn 29 = .ok (.ireturn, 1) := by decide +kernel
theorem d_M_list_0 : decode b_M_list 0 = .ok (.aload_n 0, 1) := by decide +kernel
theorem d_M_list_1 : decode b_M_list 1 = .ok (.iconst 0, 1) := by decide +kernel
theorem d_M_list_2 : decode b_M_list 2 = .ok (.putfield 73, 3) := by decide +kernel
theorem d_M_list_5 : decode b_M_list 5 = .ok (.iconst 0, 1) := by decide +kernel
theorem d_M_list_6 : decode b_M_list 6 = .ok (.istore_n 2, 1) := by decide +kernel
theorem d_M_list_7 : decode b_M_list 7 = .ok (.iload_n 2, 1) := by decide +kernel
theorem d_M_list_8 : decode b_M_list 8 = .ok (.bipush 16, 2) := by decide +kernel
theorem d_M_list_10 : decode b_M_list 10 = .ok (.if_icmp .ge 59, 3) := by decide +kernel
theorem d_M_list_13 : decode b_M_list 13 = .ok (.aload_n 0, 1) := by decide +kernel
theorem d_M_list_14 : decode b_M_list 14 = .ok (.getfield 16, 3) := by decide +kernel
theorem d_M_list_17 : decode b_M_list 17 = .ok (.iconst 5, 1) := by decide +kernel
theorem d_M_list_18 : decode b_M_list 18 = .ok (.iload_n 1, 1) := by decide +kernel
theorem d_M_list_19 : decode b_M_list 19 = .ok (.imul, 1) := by decide +kernel
theorem d_M_list_20 : decode b_M_list 20 = .ok (.iconst 3, 1) := by decide +kernel
theorem d_M_list_21 : decode b_M_list 21 = .ok (.iadd, 1) := by decide +kernel
theorem d_M_list_22 : decode b_M_list 22 = .ok (.iload_n 2, 1) := by decide +kernel
theorem d_M_list_23 : decode b_M_list 23 = .ok (.iadd, 1) := by decide +kernel
theorem d_M_list_24 : decode b_M_list 24 = .ok (.bipush 16, 2) := by decide +kernel
theorem d_M_list_26 : decode b_M_list 26 = .ok (.irem, 1) := by decide +kernel
theorem d_M_list_27 : decode b_M_list 27 = .ok (.iaload, 1) := by decide +kernel
theorem d_M_list_28 : decode b_M_list 28 = .ok (.iconst 1, 1) := by decide +kernel
theorem d_M_list_29 : decode b_M_list 29 = .ok (.isub, 1) := by decide +kernel
theorem d_M_list_30 : decode b_M_list 30 = .ok (.istore_n 3, 1) := by decide +kernel
theorem d_M_list_31 : decode b_M_list 31 = .ok (.iload_n 3, 1) := by decide +kernel
theorem d_M_list_32 : decode b_M_list 32 = .ok (.ifCond .lt 31, 3) := by decide +kernel
theorem d_M_list_35 : decode b_M_list 35 = .ok (.aload_n 0, 1) := by decide +kernel
theorem d_M_list_36 : decode b_M_list 36 = .ok (.iload_n 3, 1) := by decide +kernel
theorem d_M_list_37 : decode b_M_list 37 = .ok (.invokevirtual 76, 3) := by decide +kernel
theorem d_M_list_40 : decode b_M_list 40 = .ok (.ifCond .ge 23, 3) := by decide +kernel
theorem d_M_list_43 : decode b_M_list 43 = .ok (.aload_n 0, 1) := by decide +kernel
theorem d_M_list_44 : decode b_M_list 44 = .ok (.getfield 53, 3) := by decide +kernel
theorem d_M_list_47 : decode b_M_list 47 = .ok (.aload_n 0, 1) := by decide +kernel
theorem d_M_list_48 : decode b_M_list 48 = .ok (.getfield 73, 3) := by decide +kernel
theorem d_M_list_51 : decode b_M_list 51 = .ok (.iload_n 3, 1) := by decide +kernel
theorem d_M_list_52 : decode b_M_list 52 = .ok (.iastore, 1) := by decide +kernel
theorem d_M_list_53 : decode b_M_list 53 = .ok (.aload_n 0, 1) := by decide +kernel
theorem d_M_list_54 : decode b_M_list 54 = .ok (.dup, 1) := by decide +kernel
theorem d_M_list_55 : decode b_M_list 55 = .ok (.getfield 73, 3) := by decide +kernel
theorem d_M_list_58 : decode b_M_list 58 = .ok (.iconst 1, 1) := by decide +kernel
theorem d_M_list_59 : decode b_M_list 59 = .ok (.iadd, 1) := by decide +kernel
theorem d_M_list_60 : decode b_M_list 60 = .ok (.putfield 73, 3) := by decide +kernel
theorem d_M_list_63 : decode b_M_list 63 = .ok (.iinc 2 1, 3) := by decide +kernel
theorem d_M_list_66 : decode b_M_list 66 = .ok (.goto (-59), 3) := by decide +kernel
theorem d_M_list_69 : decode b_M_list 69 = .ok (.return_, 1) := by decide +kernel
theorem d_M_homes_0 : decode b_M_homes 0 = .ok (.aload_n 0, 1) := by decide +kernel
theorem d_M_homes_1 : decode b_M_homes 1 = .ok (.getfield 73, 3) := by decide +kernel
theorem d_M_homes_4 : decode b_M_homes 4 = .ok (.aload_n 0, 1) := by decide +kernel
theorem d_M_homes_5 : decode b_M_homes 5 = .ok (.getfield 59, 3) := by decide +kernel
theorem d_M_homes_8 : decode b_M_homes 8 = .ok (.if_icmp .ge 10, 3) := by decide +kernel
theorem d_M_homes_11 : decode b_M_homes 11 = .ok (.aload_n 0, 1) := by decide +kernel
theorem d_M_homes_12 : decode b_M_homes 12 = .ok (.getfield 73, 3) := by decide +kernel
theorem d_M_homes_15 : decode b_M_homes 15 = .ok (.goto 7, 3) := by decide +kernel
theorem d_M_homes_18 : decode b_M_homes 18 = .ok (.aload_n 0, 1) := by decide +kernel
theorem d_M_homes_19 : decode b_M_homes 19 = .ok (.getfield 59, 3) := by decide +kernel
theorem d_M_homes_22 : decode b_M_homes 22 = .ok (.ireturn, 1) := by decide +kernel
theorem d_M_isHome_0 : decode b_M_isHome 0 = .ok (.aload_n 0, 1) := by decide +kernel
theorem d_M_isHome_1 : decode b_M_isHome 1 = .ok (.iload_n 2, 1) := by decide +kernel
theorem d_M_isHome_2 : decode b_M_isHome 2 = .ok (.invokevirtual 80, 3) := by decide +kernel
theorem d_M_isHome_5 : decode b_M_isHome 5 = .ok (.aload_n 0, 1) := by decide +kernel
theorem d_M_isHome_6 : decode b_M_isHome 6 = .ok (.iload_n 1, 1) := by decide +kernel
theorem d_M_isHome_7 : decode b_M_isHome 7 = .ok (.invokevirtual 76, 3) := by decide +kernel
theorem d_M_isHome_10 : decode b_M_isHome 10 = .ok (.istore_n 3, 1) := by decide +kernel
theorem d_M_isHome_11 : decode b_M_isHome 11 = .ok (.iload_n 3, 1) := by decide +kernel
theorem d_M_isHome_12 : decode b_M_isHome 12 = .ok (.ifCond .lt 15, 3) := by decide +kernel
theorem d_M_isHome_15 : decode b_M_isHome 15 = .ok (.iload_n 3, 1) := by decide +kernel
theorem d_M_isHome_16 : decode b_M_isHome 16 = .ok (.aload_n 0, 1) := by decide +kernel
theorem d_M_isHome_17 : decode b_M_isHome 17 = .ok (.getfield 59, 3) := by decide +kernel
theorem d_M_isHome_20 : decode b_M_isHome 20 = .ok (.if_icmp .ge 7, 3) := by decide +kernel
theorem d_M_isHome_23 : decode b_M_isHome 23 = .ok (.iconst 1, 1) := by decide +kernel
theorem d_M_isHome_24 : decode b_M_isHome 24 = .ok (.goto 4, 3) := by decide +kernel
theorem d_M_isHome_27 : decode b_M_isHome 27 = .ok (.iconst 0, 1) := by decide +kernel
theorem d_M_isHome_28 : decode b_M_isHome 28 = .ok (.ireturn, 1) := by decide +kernel
theorem d_M_home_0 : decode b_M_home 0 = .ok (.iload_n 1, 1) := by decide +kernel
theorem d_M_home_1 : decode b_M_home 1 = .ok (.invokestatic 84, 3) := by decide +kernel
theorem d_M_home_4 : decode b_M_home 4 = .ok (.ifCond .eq 7, 3) := by decide +kernel
theorem d_M_home_7 : decode b_M_home 7 = .ok (.iload_n 2, 1) := by decide +kernel
theorem d_M_home_8 : decode b_M_home 8 = .ok (.ifCond .ge 5, 3) := by decide +kernel
theorem d_M_home_11 : decode b_M_home 11 = .ok (.iconst (-1), 1) := by decide +kernel
theorem d_M_home_12 : decode b_M_home 12 = .ok (.ireturn, 1) := by decide +kernel
theorem d_M_home_13 : decode b_M_home 13 = .ok (.aload_n 0, 1) := by decide +kernel
theorem d_M_home_14 : decode b_M_home 14 = .ok (.iload_n 1, 1) := by decide +kernel
theorem d_M_home_15 : decode b_M_home 15 = .ok (.invokevirtual 80, 3) := by decide +kernel
theorem d_M_home_18 : decode b_M_home 18 = .ok (.iload_n 2, 1) := by decide +kernel
theorem d_M_home_19 : decode b_M_home 19 = .ok (.aload_n 0, 1) := by decide +kernel
theorem d_M_home_20 : decode b_M_home 20 = .ok (.invokevirtual 87, 3) := by decide +kernel
theorem d_M_home_23 : decode b_M_home 23 = .ok (.if_icmp .ge 12, 3) := by decide +kernel
theorem d_M_home_26 : decode b_M_home 26 = .ok (.aload_n 0, 1) := by decide +kernel
theorem d_M_home_27 : decode b_M_home 27 = .ok (.getfield 53, 3) := by decide +kernel
theorem d_M_home_30 : decode b_M_home 30 = .ok (.iload_n 2, 1) := by decide +kernel
theorem d_M_home_31 : decode b_M_home 31 = .ok (.iaload, 1) := by decide +kernel
theorem d_M_home_32 : decode b_M_home 32 = .ok (.goto 4, 3) := by decide +kernel
theorem d_M_home_35 : decode b_M_home 35 = .ok (.iconst (-1), 1) := by decide +kernel
theorem d_M_home_36 : decode b_M_home 36 = .ok (.ireturn, 1) := by decide +kernel
theorem d_M_aim_0 : decode b_M_aim 0 = .ok (.aload_n 0, 1) := by decide +kernel
theorem d_M_aim_1 : decode b_M_aim 1 = .ok (.iload_n 2, 1) := by decide +kernel
theorem d_M_aim_2 : decode b_M_aim 2 = .ok (.invokevirtual 80, 3) := by decide +kernel
theorem d_M_aim_5 : decode b_M_aim 5 = .ok (.aload_n 0, 1) := by decide +kernel
theorem d_M_aim_6 : decode b_M_aim 6 = .ok (.iconst 0, 1) := by decide +kernel
theorem d_M_aim_7 : decode b_M_aim 7 = .ok (.putfield 91, 3) := by decide +kernel
theorem d_M_aim_10 : decode b_M_aim 10 = .ok (.iconst 0, 1) := by decide +kernel
theorem d_M_aim_11 : decode b_M_aim 11 = .ok (.istore_n 3, 1) := by decide +kernel
theorem d_M_aim_12 : decode b_M_aim 12 = .ok (.iload_n 3, 1) := by decide +kernel
theorem d_M_aim_13 : decode b_M_aim 13 = .ok (.aload_n 0, 1) := by decide +kernel
theorem d_M_aim_14 : decode b_M_aim 14 = .ok (.getfield 73, 3) := by decide +kernel
theorem d_M_aim_17 : decode b_M_aim 17 = .ok (.if_icmp .ge 59, 3) := by decide +kernel
theorem d_M_aim_20 : decode b_M_aim 20 = .ok (.aload_n 0, 1) := by decide +kernel
theorem d_M_aim_21 : decode b_M_aim 21 = .ok (.iload_n 1, 1) := by decide +kernel
theorem d_M_aim_22 : decode b_M_aim 22 = .ok (.aload_n 0, 1) := by decide +kernel
theorem d_M_aim_23 : decode b_M_aim 23 = .ok (.getfield 53, 3) := by decide +kernel
theorem d_M_aim_26 : decode b_M_aim 26 = .ok (.iload_n 3, 1) := by decide +kernel
theorem d_M_aim_27 : decode b_M_aim 27 = .ok (.iaload, 1) := by decide +kernel
theorem d_M_aim_28 : decode b_M_aim 28 = .ok (.invokevirtual 94, 3) := by decide +kernel
theorem d_M_aim_31 : decode b_M_aim 31 = .ok (.ifCond .eq 39, 3) := by decide +kernel
theorem d_M_aim_34 : decode b_M_aim 34 = .ok (.aload_n 0, 1) := by decide +kernel
theorem d_M_aim_35 : decode b_M_aim 35 = .ok (.getfield 91, 3) := by decide +kernel
theorem d_M_aim_38 : decode b_M_aim 38 = .ok (.aload_n 0, 1) := by decide +kernel
theorem d_M_aim_39 : decode b_M_aim 39 = .ok (.getfield 59, 3) := by decide +kernel
theorem d_M_aim_42 : decode b_M_aim 42 = .ok (.if_icmp .ge 28, 3) := by decide +kernel
theorem d_M_aim_45 : decode b_M_aim 45 = .ok (.aload_n 0, 1) := by decide +kernel
theorem d_M_aim_46 : decode b_M_aim 46 = .ok (.getfield 56, 3) := by decide +kernel
theorem d_M_aim_49 : decode b_M_aim 49 = .ok (.aload_n 0, 1) := by decide +kernel
theorem d_M_aim_50 : decode b_M_aim 50 = .ok (.getfield 91, 3) := by decide +kernel
theorem d_M_aim_53 : decode b_M_aim 53 = .ok (.aload_n 0, 1) := by decide +kernel
theorem d_M_aim_54 : decode b_M_aim 54 = .ok (.getfield 53, 3) := by decide +kernel
theorem d_M_aim_57 : decode b_M_aim 57 = .ok (.iload_n 3, 1) := by decide +kernel
theorem d_M_aim_58 : decode b_M_aim 58 = .ok (.iaload, 1) := by decide +kernel
theorem d_M_aim_59 : decode b_M_aim 59 = .ok (.iastore, 1) := by decide +kernel
theorem d_M_aim_60 : decode b_M_aim 60 = .ok (.aload_n 0, 1) := by decide +kernel
theorem d_M_aim_61 : decode b_M_aim 61 = .ok (.dup, 1) := by decide +kernel
theorem d_M_aim_62 : decode b_M_aim 62 = .ok (.getfield 91, 3) := by decide +kernel
theorem d_M_aim_65 : decode b_M_aim 65 = .ok (.iconst 1, 1) := by decide +kernel
theorem d_M_aim_66 : decode b_M_aim 66 = .ok (.iadd, 1) := by decide +kernel
theorem d_M_aim_67 : decode b_M_aim 67 = .ok (.putfield 91, 3) := by decide +kernel
theorem d_M_aim_70 : decode b_M_aim 70 = .ok (.iinc 3 1, 3) := by decide +kernel
theorem d_M_aim_73 : decode b_M_aim 73 = .ok (.goto (-61), 3) := by decide +kernel
theorem d_M_aim_76 : decode b_M_aim 76 = .ok (.return_, 1) := by decide +kernel
theorem d_M_targets_0 : decode b_M_targets 0 = .ok (.iload_n 1, 1) := by decide +kernel
theorem d_M_targets_1 : decode b_M_targets 1 = .ok (.invokestatic 69, 3) := by decide +kernel
theorem d_M_targets_4 : decode b_M_targets 4 = .ok (.ifCond .eq 10, 3) := by decide +kernel
theorem d_M_targets_7 : decode b_M_targets 7 = .ok (.iload_n 2, 1) := by decide +kernel
theorem d_M_targets_8 : decode b_M_targets 8 = .ok (.invokestatic 84, 3) := by decide +kernel
theorem d_M_targets_11 : decode b_M_targets 11 = .ok (.ifCond .ne 5, 3) := by decide +kernel
theorem d_M_targets_14 : decode b_M_targets 14 = .ok (.iconst 0, 1) := by decide +kernel
theorem d_M_targets_15 : decode b_M_targets 15 = .ok (.ireturn, 1) := by decide +kernel
theorem d_M_targets_16 : decode b_M_targets 16 = .ok (.aload_n 0, 1) := by decide +kernel
theorem d_M_targets_17 : decode b_M_targets 17 = .ok (.iload_n 1, 1) := by decide +kernel
theorem d_M_targets_18 : decode b_M_targets 18 = .ok (.iload_n 2, 1) := by decide +kernel
theorem d_M_targets_19 : decode b_M_targets 19 = .ok (.invokevirtual 98, 3) := by decide +kernel
theorem d_M_targets_22 : decode b_M_targets 22 = .ok (.aload_n 0, 1) := by decide +kernel
theorem d_M_targets_23 : decode b_M_targets 23 = .ok (.getfield 91, 3) := by decide +kernel
theorem d_M_targets_26 : decode b_M_targets 26 = .ok (.ireturn, 1) := by decide +kernel
theorem d_M_standsFor_0 : decode b_M_standsFor 0 = .ok (.iconst 0, 1) := by decide +kernel
theorem d_M_standsFor_1 : decode b_M_standsFor 1 = .ok (.istore_n 3, 1) := by decide +kernel
theorem d_M_standsFor_2 : decode b_M_standsFor 2 = .ok (.iconst 0, 1) := by decide +kernel
theorem d_M_standsFor_3 : decode b_M_standsFor 3 = .ok (.istore 4, 2) := by decide +kernel
theorem d_M_standsFor_5 : decode b_M_standsFor 5 = .ok (.iload 4, 2) := by decide +kernel
theorem d_M_standsFor_7 : decode b_M_standsFor 7 = .ok (.iload_n 2, 1) := by decide +kernel
theorem d_M_standsFor_8 : decode b_M_standsFor 8 = .ok (.if_icmp .gt 35, 3) := by decide +kernel
theorem d_M_standsFor_11 : decode b_M_standsFor 11 = .ok (.aload_n 0, 1) := by decide +kernel
theorem d_M_standsFor_12 : decode b_M_standsFor 12 = .ok (.aload_n 0, 1) := by decide +kernel
theorem d_M_standsFor_13 : decode b_M_standsFor 13 = .ok (.getfield 56, 3) := by decide +kernel
theorem d_M_standsFor_16 : decode b_M_standsFor 16 = .ok (.iload 4, 2) := by decide +kernel
theorem d_M_standsFor_18 : decode b_M_standsFor 18 = .ok (.iaload, 1) := by decide +kernel
theorem d_M_standsFor_19 : decode b_M_standsFor 19 = .ok (.invokevirtual 76, 3) := by decide +kernel
theorem d_M_standsFor_22 : decode b_M_standsFor 22 = .ok (.aload_n 0, 1) := by decide +kernel
theorem d_M_standsFor_23 : decode b_M_standsFor 23 = .ok (.getfield 59, 3) := by decide +kernel
theorem d_M_standsFor_26 : decode b_M_standsFor 26 = .ok (.if_icmp .ge 7, 3) := by decide +kernel
theorem d_M_standsFor_29 : decode b_M_standsFor 29 = .ok (.iload_n 3, 1) := by decide +kernel
