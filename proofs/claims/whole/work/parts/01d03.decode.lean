theorem d_V_init_0 : decode b_V_init 0 = .ok (.aload_n 0, 1) := by decide +kernel
theorem d_V_init_1 : decode b_V_init 1 = .ok (.invokespecial 1, 3) := by decide +kernel
theorem d_V_init_4 : decode b_V_init 4 = .ok (.iconst 1, 1) := by decide +kernel
theorem d_V_init_5 : decode b_V_init 5 = .ok (.iload_n 1, 1) := by decide +kernel
theorem d_V_init_6 : decode b_V_init 6 = .ok (.iconst 3, 1) := by decide +kernel
theorem d_V_init_7 : decode b_V_init 7 = .ok (.iand, 1) := by decide +kernel
theorem d_V_init_8 : decode b_V_init 8 = .ok (.iadd, 1) := by decide +kernel
theorem d_V_init_9 : decode b_V_init 9 = .ok (.iconst 3, 1) := by decide +kernel
theorem d_V_init_10 : decode b_V_init 10 = .ok (.invokestatic 7, 3) := by decide +kernel
theorem d_V_init_13 : decode b_V_init 13 = .ok (.istore 4, 2) := by decide +kernel
theorem d_V_init_15 : decode b_V_init 15 = .ok (.aload_n 0, 1) := by decide +kernel
theorem d_V_init_16 : decode b_V_init 16 = .ok (.new 13, 3) := by decide +kernel
theorem d_V_init_19 : decode b_V_init 19 = .ok (.dup, 1) := by decide +kernel
theorem d_V_init_20 : decode b_V_init 20 = .ok (.iload 4, 2) := by decide +kernel
theorem d_V_init_22 : decode b_V_init 22 = .ok (.invokespecial 15, 3) := by decide +kernel
theorem d_V_init_25 : decode b_V_init 25 = .ok (.putfield 18, 3) := by decide +kernel
theorem d_V_init_28 : decode b_V_init 28 = .ok (.aload_n 0, 1) := by decide +kernel
theorem d_V_init_29 : decode b_V_init 29 = .ok (.iconst 1, 1) := by decide +kernel
theorem d_V_init_30 : decode b_V_init 30 = .ok (.iload_n 2, 1) := by decide +kernel
theorem d_V_init_31 : decode b_V_init 31 = .ok (.iconst 3, 1) := by decide +kernel
theorem d_V_init_32 : decode b_V_init 32 = .ok (.iand, 1) := by decide +kernel
theorem d_V_init_33 : decode b_V_init 33 = .ok (.iadd, 1) := by decide +kernel
theorem d_V_init_34 : decode b_V_init 34 = .ok (.iload 4, 2) := by decide +kernel
theorem d_V_init_36 : decode b_V_init 36 = .ok (.invokestatic 7, 3) := by decide +kernel
theorem d_V_init_39 : decode b_V_init 39 = .ok (.putfield 24, 3) := by decide +kernel
theorem d_V_init_42 : decode b_V_init 42 = .ok (.aload_n 0, 1) := by decide +kernel
theorem d_V_init_43 : decode b_V_init 43 = .ok (.iconst 1, 1) := by decide +kernel
theorem d_V_init_44 : decode b_V_init 44 = .ok (.iload_n 3, 1) := by decide +kernel
theorem d_V_init_45 : decode b_V_init 45 = .ok (.iconst 3, 1) := by decide +kernel
theorem d_V_init_46 : decode b_V_init 46 = .ok (.iand, 1) := by decide +kernel
theorem d_V_init_47 : decode b_V_init 47 = .ok (.iadd, 1) := by decide +kernel
theorem d_V_init_48 : decode b_V_init 48 = .ok (.iload 4, 2) := by decide +kernel
theorem d_V_init_50 : decode b_V_init 50 = .ok (.invokestatic 7, 3) := by decide +kernel
theorem d_V_init_53 : decode b_V_init 53 = .ok (.putfield 28, 3) := by decide +kernel
theorem d_V_init_56 : decode b_V_init 56 = .ok (.aload_n 0, 1) := by decide +kernel
theorem d_V_init_57 : decode b_V_init 57 = .ok (.new 31, 3) := by decide +kernel
theorem d_V_init_60 : decode b_V_init 60 = .ok (.dup, 1) := by decide +kernel
theorem d_V_init_61 : decode b_V_init 61 = .ok (.invokespecial 33, 3) := by decide +kernel
theorem d_V_init_64 : decode b_V_init 64 = .ok (.putfield 34, 3) := by decide +kernel
theorem d_V_init_67 : decode b_V_init 67 = .ok (.aload_n 0, 1) := by decide +kernel
theorem d_V_init_68 : decode b_V_init 68 = .ok (.iconst 5, 1) := by decide +kernel
theorem d_V_init_69 : decode b_V_init 69 = .ok (.anewarray 38, 3) := by decide +kernel
theorem d_V_init_72 : decode b_V_init 72 = .ok (.putfield 40, 3) := by decide +kernel
theorem d_V_init_75 : decode b_V_init 75 = .ok (.iconst 0, 1) := by decide +kernel
theorem d_V_init_76 : decode b_V_init 76 = .ok (.istore 5, 2) := by decide +kernel
theorem d_V_init_78 : decode b_V_init 78 = .ok (.iload 5, 2) := by decide +kernel
theorem d_V_init_80 : decode b_V_init 80 = .ok (.iconst 5, 1) := by decide +kernel
theorem d_V_init_81 : decode b_V_init 81 = .ok (.if_icmp .ge 27, 3) := by decide +kernel
theorem d_V_init_84 : decode b_V_init 84 = .ok (.aload_n 0, 1) := by decide +kernel
theorem d_V_init_85 : decode b_V_init 85 = .ok (.getfield 40, 3) := by decide +kernel
theorem d_V_init_88 : decode b_V_init 88 = .ok (.iload 5, 2) := by decide +kernel
theorem d_V_init_90 : decode b_V_init 90 = .ok (.new 38, 3) := by decide +kernel
theorem d_V_init_93 : decode b_V_init 93 = .ok (.dup, 1) := by decide +kernel
theorem d_V_init_94 : decode b_V_init 94 = .ok (.aload_n 0, 1) := by decide +kernel
theorem d_V_init_95 : decode b_V_init 95 = .ok (.getfield 34, 3) := by decide +kernel
theorem d_V_init_98 : decode b_V_init 98 = .ok (.invokespecial 44, 3) := by decide +kernel
theorem d_V_init_101 : decode b_V_init 101 = .ok (.aastore, 1) := by decide +kernel
theorem d_V_init_102 : decode b_V_init 102 = .ok (.iinc 5 1, 3) := by decide +kernel
theorem d_V_init_105 : decode b_V_init 105 = .ok (.goto (-27), 3) := by decide +kernel
theorem d_V_init_108 : decode b_V_init 108 = .ok (.aload_n 0, 1) := by decide +kernel
theorem d_V_init_109 : decode b_V_init 109 = .ok (.iconst 4, 1) := by decide +kernel
theorem d_V_init_110 : decode b_V_init 110 = .ok (.anewarray 47, 3) := by decide +kernel
theorem d_V_init_113 : decode b_V_init 113 = .ok (.putfield 49, 3) := by decide +kernel
theorem d_V_init_116 : decode b_V_init 116 = .ok (.iconst 0, 1) := by decide +kernel
theorem d_V_init_117 : decode b_V_init 117 = .ok (.istore 5, 2) := by decide +kernel
theorem d_V_init_119 : decode b_V_init 119 = .ok (.iload 5, 2) := by decide +kernel
theorem d_V_init_121 : decode b_V_init 121 = .ok (.iconst 4, 1) := by decide +kernel
theorem d_V_init_122 : decode b_V_init 122 = .ok (.if_icmp .ge 23, 3) := by decide +kernel
theorem d_V_init_125 : decode b_V_init 125 = .ok (.aload_n 0, 1) := by decide +kernel
theorem d_V_init_126 : decode b_V_init 126 = .ok (.getfield 49, 3) := by decide +kernel
theorem d_V_init_129 : decode b_V_init 129 = .ok (.iload 5, 2) := by decide +kernel
theorem d_V_init_131 : decode b_V_init 131 = .ok (.new 47, 3) := by decide +kernel
theorem d_V_init_134 : decode b_V_init 134 = .ok (.dup, 1) := by decide +kernel
theorem d_V_init_135 : decode b_V_init 135 = .ok (.invokespecial 53, 3) := by decide +kernel
theorem d_V_init_138 : decode b_V_init 138 = .ok (.aastore, 1) := by decide +kernel
theorem d_V_init_139 : decode b_V_init 139 = .ok (.iinc 5 1, 3) := by decide +kernel
theorem d_V_init_142 : decode b_V_init 142 = .ok (.goto (-23), 3) := by decide +kernel
theorem d_V_init_145 : decode b_V_init 145 = .ok (.aload_n 0, 1) := by decide +kernel
theorem d_V_init_146 : decode b_V_init 146 = .ok (.bipush 25, 2) := by decide +kernel
theorem d_V_init_148 : decode b_V_init 148 = .ok (.newarray .boolean, 2) := by decide +kernel
theorem d_V_init_150 : decode b_V_init 150 = .ok (.putfield 54, 3) := by decide +kernel
theorem d_V_init_153 : decode b_V_init 153 = .ok (.aload_n 0, 1) := by decide +kernel
theorem d_V_init_154 : decode b_V_init 154 = .ok (.bipush 40, 2) := by decide +kernel
theorem d_V_init_156 : decode b_V_init 156 = .ok (.newarray .boolean, 2) := by decide +kernel
theorem d_V_init_158 : decode b_V_init 158 = .ok (.putfield 58, 3) := by decide +kernel
theorem d_V_init_161 : decode b_V_init 161 = .ok (.aload_n 0, 1) := by decide +kernel
theorem d_V_init_162 : decode b_V_init 162 = .ok (.iconst 5, 1) := by decide +kernel
theorem d_V_init_163 : decode b_V_init 163 = .ok (.newarray .int, 2) := by decide +kernel
theorem d_V_init_165 : decode b_V_init 165 = .ok (.putfield 61, 3) := by decide +kernel
theorem d_V_init_168 : decode b_V_init 168 = .ok (.aload_n 0, 1) := by decide +kernel
theorem d_V_init_169 : decode b_V_init 169 = .ok (.bipush 40, 2) := by decide +kernel
theorem d_V_init_171 : decode b_V_init 171 = .ok (.newarray .boolean, 2) := by decide +kernel
theorem d_V_init_173 : decode b_V_init 173 = .ok (.putfield 65, 3) := by decide +kernel
theorem d_V_init_176 : decode b_V_init 176 = .ok (.aload_n 0, 1) := by decide +kernel
theorem d_V_init_177 : decode b_V_init 177 = .ok (.bipush 40, 2) := by decide +kernel
theorem d_V_init_179 : decode b_V_init 179 = .ok (.newarray .boolean, 2) := by decide +kernel
theorem d_V_init_181 : decode b_V_init 181 = .ok (.putfield 68, 3) := by decide +kernel
theorem d_V_init_184 : decode b_V_init 184 = .ok (.aload_n 0, 1) := by decide +kernel
theorem d_V_init_185 : decode b_V_init 185 = .ok (.bipush 40, 2) := by decide +kernel
theorem d_V_init_187 : decode b_V_init 187 = .ok (.newarray .boolean, 2) := by decide +kernel
theorem d_V_init_189 : decode b_V_init 189 = .ok (.putfield 71, 3) := by decide +kernel
theorem d_V_init_192 : decode b_V_init 192 = .ok (.aload_n 0, 1) := by decide +kernel
theorem d_V_init_193 : decode b_V_init 193 = .ok (.bipush 32, 2) := by decide +kernel
theorem d_V_init_195 : decode b_V_init 195 = .ok (.newarray .boolean, 2) := by decide +kernel
theorem d_V_init_197 : decode b_V_init 197 = .ok (.putfield 74, 3) := by decide +kernel
theorem d_V_init_200 : decode b_V_init 200 = .ok (.return_, 1) := by decide +kernel
theorem d_V_token_0 : decode b_V_token 0 = .ok (.iload_n 1, 1) := by decide +kernel
theorem d_V_token_1 : decode b_V_token 1 = .ok (.invokestatic 77, 3) := by decide +kernel
theorem d_V_token_4 : decode b_V_token 4 = .ok (.ifCond .eq 23, 3) := by decide +kernel
theorem d_V_token_7 : decode b_V_token 7 = .ok (.iload_n 2, 1) := by decide +kernel
theorem d_V_token_8 : decode b_V_token 8 = .ok (.invokestatic 81, 3) := by decide +kernel
theorem d_V_token_11 : decode b_V_token 11 = .ok (.ifCond .eq 16, 3) := by decide +kernel
theorem d_V_token_14 : decode b_V_token 14 = .ok (.aload_n 0, 1) := by decide +kernel
theorem d_V_token_15 : decode b_V_token 15 = .ok (.getfield 18, 3) := by decide +kernel
theorem d_V_token_18 : decode b_V_token 18 = .ok (.getfield 84, 3) := by decide +kernel
theorem d_V_token_21 : decode b_V_token 21 = .ok (.iload_n 2, 1) := by decide +kernel
theorem d_V_token_22 : decode b_V_token 22 = .ok (.iaload, 1) := by decide +kernel
theorem d_V_token_23 : decode b_V_token 23 = .ok (.iconst (-1), 1) := by decide +kernel
theorem d_V_token_24 : decode b_V_token 24 = .ok (.if_icmp .eq 5, 3) := by decide +kernel
theorem d_V_token_27 : decode b_V_token 27 = .ok (.iconst 0, 1) := by decide +kernel
theorem d_V_token_28 : decode b_V_token 28 = .ok (.ireturn, 1) := by decide +kernel
theorem d_V_token_29 : decode b_V_token 29 = .ok (.aload_n 0, 1) := by decide +kernel
theorem d_V_token_30 : decode b_V_token 30 = .ok (.getfield 18, 3) := by decide +kernel
theorem d_V_token_33 : decode b_V_token 33 = .ok (.getfield 84, 3) := by decide +kernel
theorem d_V_token_36 : decode b_V_token 36 = .ok (.iload_n 2, 1) := by decide +kernel
theorem d_V_token_37 : decode b_V_token 37 = .ok (.iload_n 1, 1) := by decide +kernel
theorem d_V_token_38 : decode b_V_token 38 = .ok (.iastore, 1) := by decide +kernel
theorem d_V_token_39 : decode b_V_token 39 = .ok (.iconst 1, 1) := by decide +kernel
theorem d_V_token_40 : decode b_V_token 40 = .ok (.ireturn, 1) := by decide +kernel
theorem d_V_remove_0 : decode b_V_remove 0 = .ok (.iload_n 1, 1) := by decide +kernel
theorem d_V_remove_1 : decode b_V_remove 1 = .ok (.invokestatic 81, 3) := by decide +kernel
theorem d_V_remove_4 : decode b_V_remove 4 = .ok (.ifCond .eq 16, 3) := by decide +kernel
theorem d_V_remove_7 : decode b_V_remove 7 = .ok (.aload_n 0, 1) := by decide +kernel
theorem d_V_remove_8 : decode b_V_remove 8 = .ok (.getfield 18, 3) := by decide +kernel
theorem d_V_remove_11 : decode b_V_remove 11 = .ok (.getfield 84, 3) := by decide +kernel
theorem d_V_remove_14 : decode b_V_remove 14 = .ok (.iload_n 1, 1) := by decide +kernel
theorem d_V_remove_15 : decode b_V_remove 15 = .ok (.iaload, 1) := by decide +kernel
theorem d_V_remove_16 : decode b_V_remove 16 = .ok (.iconst (-1), 1) := by decide +kernel
theorem d_V_remove_17 : decode b_V_remove 17 = .ok (.if_icmp .ne 5, 3) := by decide +kernel
theorem d_V_remove_20 : decode b_V_remove 20 = .ok (.iconst 0, 1) := by decide +kernel
theorem d_V_remove_21 : decode b_V_remove 21 = .ok (.ireturn, 1) := by decide +kernel
theorem d_V_remove_22 : decode b_V_remove 22 = .ok (.aload_n 0, 1) := by decide +kernel
theorem d_V_remove_23 : decode b_V_remove 23 = .ok (.getfield 18, 3) := by decide +kernel
theorem d_V_remove_26 : decode b_V_remove 26 = .ok (.getfield 84, 3) := by decide +kernel
theorem d_V_remove_29 : decode b_V_remove 29 = .ok (.iload_n 1, 1) := by decide +kernel
theorem d_V_remove_30 : decode b_V_remove 30 = .ok (.iconst (-1), 1) := by decide +kernel
theorem d_V_remove_31 : decode b_V_remove 31 = .ok (.iastore, 1) := by decide +kernel
theorem d_V_remove_32 : decode b_V_remove 32 = .ok (.iconst 1, 1) := by decide +kernel
theorem d_V_remove_33 : decode b_V_remove 33 = .ok (.ireturn, 1) := by decide +kernel
theorem d_V_power_0 : decode b_V_power 0 = .ok (.iload_n 1, 1) := by decide +kernel
theorem d_V_power_1 : decode b_V_power 1 = .ok (.invokestatic 77, 3) := by decide +kernel
theorem d_V_power_4 : decode b_V_power 4 = .ok (.ifCond .eq 16, 3) := by decide +kernel
theorem d_V_power_7 : decode b_V_power 7 = .ok (.aload_n 0, 1) := by decide +kernel
theorem d_V_power_8 : decode b_V_power 8 = .ok (.getfield 40, 3) := by decide +kernel
theorem d_V_power_11 : decode b_V_power 11 = .ok (.iload_n 1, 1) := by decide +kernel
theorem d_V_power_12 : decode b_V_power 12 = .ok (.aaload, 1) := by decide +kernel
theorem d_V_power_13 : decode b_V_power 13 = .ok (.getfield 87, 3) := by decide +kernel
theorem d_V_power_16 : decode b_V_power 16 = .ok (.iload_n 2, 1) := by decide +kernel
theorem d_V_power_17 : decode b_V_power 17 = .ok (.if_icmp .ne 5, 3) := by decide +kernel
theorem d_V_power_20 : decode b_V_power 20 = .ok (.iconst 0, 1) := by decide +kernel
theorem d_V_power_21 : decode b_V_power 21 = .ok (.ireturn, 1) := by decide +kernel
theorem d_V_power_22 : decode b_V_power 22 = .ok (.aload_n 0, 1) := by decide +kernel
theorem d_V_power_23 : decode b_V_power 23 = .ok (.getfield 40, 3) := by decide +kernel
theorem d_V_power_26 : decode b_V_power 26 = .ok (.iload_n 1, 1) := by decide +kernel
theorem d_V_power_27 : decode b_V_power 27 = .ok (.aaload, 1) := by decide +kernel
theorem d_V_power_28 : decode b_V_power 28 = .ok (.iload_n 2, 1) := by decide +kernel
theorem d_V_power_29 : decode b_V_power 29 = .ok (.putfield 87, 3) := by decide +kernel
theorem d_V_power_32 : decode b_V_power 32 = .ok (.iconst 1, 1) := by decide +kernel
theorem d_V_power_33 : decode b_V_power 33 = .ok (.ireturn, 1) := by decide +kernel
theorem d_V_cut_0 : decode b_V_cut 0 = .ok (.iload_n 1, 1) := by decide +kernel
theorem d_V_cut_1 : decode b_V_cut 1 = .ok (.iload_n 2, 1) := by decide +kernel
theorem d_V_cut_2 : decode b_V_cut 2 = .ok (.invokestatic 91, 3) := by decide +kernel
theorem d_V_cut_5 : decode b_V_cut 5 = .ok (.ifCond .eq 17, 3) := by decide +kernel
theorem d_V_cut_8 : decode b_V_cut 8 = .ok (.aload_n 0, 1) := by decide +kernel
theorem d_V_cut_9 : decode b_V_cut 9 = .ok (.getfield 54, 3) := by decide +kernel
theorem d_V_cut_12 : decode b_V_cut 12 = .ok (.iload_n 1, 1) := by decide +kernel
theorem d_V_cut_13 : decode b_V_cut 13 = .ok (.iload_n 2, 1) := by decide +kernel
theorem d_V_cut_14 : decode b_V_cut 14 = .ok (.invokestatic 95, 3) := by decide +kernel
theorem d_V_cut_17 : decode b_V_cut 17 = .ok (.baload, 1) := by decide +kernel
theorem d_V_cut_18 : decode b_V_cut 18 = .ok (.iload_n 3, 1) := by decide +kernel
theorem d_V_cut_19 : decode b_V_cut 19 = .ok (.if_icmp .ne 5, 3) := by decide +kernel
theorem d_V_cut_22 : decode b_V_cut 22 = .ok (.iconst 0, 1) := by decide +kernel
theorem d_V_cut_23 : decode b_V_cut 23 = .ok (.ireturn, 1) := by decide +kernel
theorem d_V_cut_24 : decode b_V_cut 24 = .ok (.aload_n 0, 1) := by decide +kernel
theorem d_V_cut_25 : decode b_V_cut 25 = .ok (.getfield 54, 3) := by decide +kernel
theorem d_V_cut_28 : decode b_V_cut 28 = .ok (.iload_n 1, 1) := by decide +kernel
theorem d_V_cut_29 : decode b_V_cut 29 = .ok (.iload_n 2, 1) := by decide +kernel
theorem d_V_cut_30 : decode b_V_cut 30 = .ok (.invokestatic 95, 3) := by decide +kernel
theorem d_V_cut_33 : decode b_V_cut 33 = .ok (.iload_n 3, 1) := by decide +kernel
theorem d_V_cut_34 : decode b_V_cut 34 = .ok (.bastore, 1) := by decide +kernel
theorem d_V_cut_35 : decode b_V_cut 35 = .ok (.iconst 1, 1) := by decide +kernel
theorem d_V_cut_36 : decode b_V_cut 36 = .ok (.ireturn, 1) := by decide +kernel
theorem d_V_put_0 : decode b_V_put 0 = .ok (.iload_n 1, 1) := by decide +kernel
theorem d_V_put_1 : decode b_V_put 1 = .ok (.invokestatic 77, 3) := by decide +kernel
theorem d_V_put_4 : decode b_V_put 4 = .ok (.ifCond .eq 20, 3) := by decide +kernel
theorem d_V_put_7 : decode b_V_put 7 = .ok (.iload_n 2, 1) := by decide +kernel
theorem d_V_put_8 : decode b_V_put 8 = .ok (.invokestatic 98, 3) := by decide +kernel
theorem d_V_put_11 : decode b_V_put 11 = .ok (.ifCond .eq 13, 3) := by decide +kernel
theorem d_V_put_14 : decode b_V_put 14 = .ok (.aload_n 0, 1) := by decide +kernel
theorem d_V_put_15 : decode b_V_put 15 = .ok (.iload 4, 2) := by decide +kernel
theorem d_V_put_17 : decode b_V_put 17 = .ok (.iload_n 2, 1) := by decide +kernel
theorem d_V_put_18 : decode b_V_put 18 = .ok (.invokevirtual 101, 3) := by decide +kernel
theorem d_V_put_21 : decode b_V_put 21 = .ok (.ifCond .ne 5, 3) := by decide +kernel
theorem d_V_put_24 : decode b_V_put 24 = .ok (.iconst (-1), 1) := by decide +kernel
theorem d_V_put_25 : decode b_V_put 25 = .ok (.ireturn, 1) := by decide +kernel
theorem d_V_put_26 : decode b_V_put 26 = .ok (.aload_n 0, 1) := by decide +kernel
theorem d_V_put_27 : decode b_V_put 27 = .ok (.getfield 40, 3) := by decide +kernel
theorem d_V_put_30 : decode b_V_put 30 = .ok (.iload_n 1, 1) := by decide +kernel
theorem d_V_put_31 : decode b_V_put 31 = .ok (.aaload, 1) := by decide +kernel
theorem d_V_put_32 : decode b_V_put 32 = .ok (.getfield 87, 3) := by decide +kernel
theorem d_V_put_35 : decode b_V_put 35 = .ok (.ifCond .ne 6, 3) := by decide +kernel
theorem d_V_put_38 : decode b_V_put 38 = .ok (.bipush (-2), 2) := by decide +kernel
theorem d_V_put_40 : decode b_V_put 40 = .ok (.ireturn, 1) := by decide +kernel
theorem d_V_put_41 : decode b_V_put 41 = .ok (.aload_n 0, 1) := by decide +kernel
theorem d_V_put_42 : decode b_V_put 42 = .ok (.getfield 34, 3) := by decide +kernel
theorem d_V_put_45 : decode b_V_put 45 = .ok (.getfield 104, 3) := by decide +kernel
theorem d_V_put_48 : decode b_V_put 48 = .ok (.bipush 40, 2) := by decide +kernel
theorem d_V_put_50 : decode b_V_put 50 = .ok (.if_icmp .lt 6, 3) := by decide +kernel
theorem d_V_put_53 : decode b_V_put 53 = .ok (.bipush (-3), 2) := by decide +kernel
theorem d_V_put_55 : decode b_V_put 55 = .ok (.ireturn, 1) := by decide +kernel
theorem d_V_put_56 : decode b_V_put 56 = .ok (.aload_n 0, 1) := by decide +kernel
theorem d_V_put_57 : decode b_V_put 57 = .ok (.iload_n 1, 1) := by decide +kernel
theorem d_V_put_58 : decode b_V_put 58 = .ok (.iload_n 2, 1) := by decide +kernel
theorem d_V_put_59 : decode b_V_put 59 = .ok (.invokevirtual 107, 3) := by decide +kernel
theorem d_V_put_62 : decode b_V_put 62 = .ok (.aload_n 0, 1) := by decide +kernel
theorem d_V_put_63 : decode b_V_put 63 = .ok (.getfield 111, 3) := by decide +kernel
theorem d_V_put_66 : decode b_V_put 66 = .ok (.aload_n 0, 1) := by decide +kernel
theorem d_V_put_67 : decode b_V_put 67 = .ok (.getfield 28, 3) := by decide +kernel
theorem d_V_put_70 : decode b_V_put 70 = .ok (.if_icmp .ge 6, 3) := by decide +kernel
theorem d_V_put_73 : decode b_V_put 73 = .ok (.bipush (-4), 2) := by decide +kernel
theorem d_V_put_75 : decode b_V_put 75 = .ok (.ireturn, 1) := by decide +kernel
theorem d_V_put_76 : decode b_V_put 76 = .ok (.iload 4, 2) := by decide +kernel
theorem d_V_put_78 : decode b_V_put 78 = .ok (.iconst (-1), 1) := by decide +kernel
theorem d_V_put_79 : decode b_V_put 79 = .ok (.if_icmp .ne 9, 3) := by decide +kernel
theorem d_V_put_82 : decode b_V_put 82 = .ok (.getstatic 114, 3) := by decide +kernel
theorem d_V_put_85 : decode b_V_put 85 = .ok (.goto 13, 3) := by decide +kernel
theorem d_V_put_88 : decode b_V_put 88 = .ok (.aload_n 0, 1) := by decide +kernel
theorem d_V_put_89 : decode b_V_put 89 = .ok (.getfield 49, 3) := by decide +kernel
theorem d_V_put_92 : decode b_V_put 92 = .ok (.iload 4, 2) := by decide +kernel
theorem d_V_put_94 : decode b_V_put 94 = .ok (.aaload, 1) := by decide +kernel
theorem d_V_put_95 : decode b_V_put 95 = .ok (.getfield 117, 3) := by decide +kernel
theorem d_V_put_98 : decode b_V_put 98 = .ok (.astore 5, 2) := by decide +kernel
theorem d_V_put_100 : decode b_V_put 100 = .ok (.aload_n 0, 1) := by decide +kernel
theorem d_V_put_101 : decode b_V_put 101 = .ok (.getfield 34, 3) := by decide +kernel
theorem d_V_put_104 : decode b_V_put 104 = .ok (.iload_n 2, 1) := by decide +kernel
theorem d_V_put_105 : decode b_V_put 105 = .ok (.iload_n 3, 1) := by decide +kernel
theorem d_V_put_106 : decode b_V_put 106 = .ok (.iload_n 1, 1) := by decide +kernel
theorem d_V_put_107 : decode b_V_put 107 = .ok (.aload 5, 2) := by decide +kernel
theorem d_V_put_109 : decode b_V_put 109 = .ok (.invokevirtual 120, 3) := by decide +kernel
theorem d_V_put_112 : decode b_V_put 112 = .ok (.istore 6, 2) := by decide +kernel
theorem d_V_put_114 : decode b_V_put 114 = .ok (.aload_n 0, 1) := by decide +kernel
theorem d_V_put_115 : decode b_V_put 115 = .ok (.iload 6, 2) := by decide +kernel
theorem d_V_put_117 : decode b_V_put 117 = .ok (.invokevirtual 124, 3) := by decide +kernel
theorem d_V_put_120 : decode b_V_put 120 = .ok (.aload_n 0, 1) := by decide +kernel
theorem d_V_put_121 : decode b_V_put 121 = .ok (.iload_n 1, 1) := by decide +kernel
theorem d_V_put_122 : decode b_V_put 122 = .ok (.iload 6, 2) := by decide +kernel
theorem d_V_put_124 : decode b_V_put 124 = .ok (.invokevirtual 127, 3) := by decide +kernel
theorem d_V_put_127 : decode b_V_put 127 = .ok (.iload 6, 2) := by decide +kernel
theorem d_V_put_129 : decode b_V_put 129 = .ok (.ireturn, 1) := by decide +kernel
theorem d_V_get_0 : decode b_V_get 0 = .ok (.iload_n 1, 1) := by decide +kernel
theorem d_V_get_1 : decode b_V_get 1 = .ok (.invokestatic 77, 3) := by decide +kernel
theorem d_V_get_4 : decode b_V_get 4 = .ok (.ifCond .eq 17, 3) := by decide +kernel
theorem d_V_get_7 : decode b_V_get 7 = .ok (.iload_n 2, 1) := by decide +kernel
theorem d_V_get_8 : decode b_V_get 8 = .ok (.invokestatic 98, 3) := by decide +kernel
theorem d_V_get_11 : decode b_V_get 11 = .ok (.ifCond .eq 10, 3) := by decide +kernel
theorem d_V_get_14 : decode b_V_get 14 = .ok (.iload_n 3, 1) := by decide +kernel
theorem d_V_get_15 : decode b_V_get 15 = .ok (.invokestatic 130, 3) := by decide +kernel
theorem d_V_get_18 : decode b_V_get 18 = .ok (.ifCond .ne 5, 3) := by decide +kernel
theorem d_V_get_21 : decode b_V_get 21 = .ok (.iconst (-1), 1) := by decide +kernel
theorem d_V_get_22 : decode b_V_get 22 = .ok (.ireturn, 1) := by decide +kernel
theorem d_V_get_23 : decode b_V_get 23 = .ok (.aload_n 0, 1) := by decide +kernel
theorem d_V_get_24 : decode b_V_get 24 = .ok (.getfield 40, 3) := by decide +kernel
theorem d_V_get_27 : decode b_V_get 27 = .ok (.iload_n 1, 1) := by decide +kernel
theorem d_V_get_28 : decode b_V_get 28 = .ok (.aaload, 1) := by decide +kernel
theorem d_V_get_29 : decode b_V_get 29 = .ok (.getfield 87, 3) := by decide +kernel
theorem d_V_get_32 : decode b_V_get 32 = .ok (.ifCond .ne 6, 3) := by decide +kernel
theorem d_V_get_35 : decode b_V_get 35 = .ok (.bipush (-2), 2) := by decide +kernel
theorem d_V_get_37 : decode b_V_get 37 = .ok (.ireturn, 1) := by decide +kernel
theorem d_V_get_38 : decode b_V_get 38 = .ok (.aload_n 0, 1) := by decide +kernel
theorem d_V_get_39 : decode b_V_get 39 = .ok (.iload_n 1, 1) := by decide +kernel
theorem d_V_get_40 : decode b_V_get 40 = .ok (.iload_n 2, 1) := by decide +kernel
theorem d_V_get_41 : decode b_V_get 41 = .ok (.invokevirtual 107, 3) := by decide +kernel
theorem d_V_get_44 : decode b_V_get 44 = .ok (.aload_n 0, 1) := by decide +kernel
theorem d_V_get_45 : decode b_V_get 45 = .ok (.getfield 111, 3) := by decide +kernel
theorem d_V_get_48 : decode b_V_get 48 = .ok (.aload_n 0, 1) := by decide +kernel
theorem d_V_get_49 : decode b_V_get 49 = .ok (.getfield 24, 3) := by decide +kernel
theorem d_V_get_52 : decode b_V_get 52 = .ok (.if_icmp .ge 6, 3) := by decide +kernel
theorem d_V_get_55 : decode b_V_get 55 = .ok (.bipush (-3), 2) := by decide +kernel
theorem d_V_get_57 : decode b_V_get 57 = .ok (.ireturn, 1) := by decide +kernel
theorem d_V_get_58 : decode b_V_get 58 = .ok (.aload_n 0, 1) := by decide +kernel
theorem d_V_get_59 : decode b_V_get 59 = .ok (.iload_n 2, 1) := by decide +kernel
theorem d_V_get_60 : decode b_V_get 60 = .ok (.invokevirtual 133, 3) := by decide +kernel
theorem d_V_get_63 : decode b_V_get 63 = .ok (.aload_n 0, 1) := by decide +kernel
theorem d_V_get_64 : decode b_V_get 64 = .ok (.invokevirtual 136, 3) := by decide +kernel
theorem d_V_get_67 : decode b_V_get 67 = .ok (.istore 4, 2) := by decide +kernel
theorem d_V_get_69 : decode b_V_get 69 = .ok (.aload_n 0, 1) := by decide +kernel
theorem d_V_get_70 : decode b_V_get 70 = .ok (.getfield 49, 3) := by decide +kernel
theorem d_V_get_73 : decode b_V_get 73 = .ok (.iload_n 3, 1) := by decide +kernel
theorem d_V_get_74 : decode b_V_get 74 = .ok (.aaload, 1) := by decide +kernel
theorem d_V_get_75 : decode b_V_get 75 = .ok (.iload_n 2, 1) := by decide +kernel
theorem d_V_get_76 : decode b_V_get 76 = .ok (.aload_n 0, 1) := by decide +kernel
theorem d_V_get_77 : decode b_V_get 77 = .ok (.getfield 58, 3) := by decide +kernel
theorem d_V_get_80 : decode b_V_get 80 = .ok (.aload_n 0, 1) := by decide +kernel
theorem d_V_get_81 : decode b_V_get 81 = .ok (.getfield 34, 3) := by decide +kernel
theorem d_V_get_84 : decode b_V_get 84 = .ok (.invokevirtual 140, 3) := by decide +kernel
theorem d_V_get_87 : decode b_V_get 87 = .ok (.aload_n 0, 1) := by decide +kernel
theorem d_V_get_88 : decode b_V_get 88 = .ok (.iconst 0, 1) := by decide +kernel
theorem d_V_get_89 : decode b_V_get 89 = .ok (.putfield 144, 3) := by decide +kernel
theorem d_V_get_92 : decode b_V_get 92 = .ok (.iconst 0, 1) := by decide +kernel
theorem d_V_get_93 : decode b_V_get 93 = .ok (.istore 5, 2) := by decide +kernel
theorem d_V_get_95 : decode b_V_get 95 = .ok (.iload 5, 2) := by decide +kernel
theorem d_V_get_97 : decode b_V_get 97 = .ok (.aload_n 0, 1) := by decide +kernel
theorem d_V_get_98 : decode b_V_get 98 = .ok (.getfield 147, 3) := by decide +kernel
theorem d_V_get_101 : decode b_V_get 101 = .ok (.if_icmp .ge 37, 3) := by decide +kernel
theorem d_V_get_104 : decode b_V_get 104 = .ok (.aload_n 0, 1) := by decide +kernel
theorem d_V_get_105 : decode b_V_get 105 = .ok (.dup, 1) := by decide +kernel
theorem d_V_get_106 : decode b_V_get 106 = .ok (.getfield 144, 3) := by decide +kernel
theorem d_V_get_109 : decode b_V_get 109 = .ok (.aload_n 0, 1) := by decide +kernel
theorem d_V_get_110 : decode b_V_get 110 = .ok (.getfield 40, 3) := by decide +kernel
theorem d_V_get_113 : decode b_V_get 113 = .ok (.aload_n 0, 1) := by decide +kernel
theorem d_V_get_114 : decode b_V_get 114 = .ok (.getfield 61, 3) := by decide +kernel
theorem d_V_get_117 : decode b_V_get 117 = .ok (.iload 5, 2) := by decide +kernel
theorem d_V_get_119 : decode b_V_get 119 = .ok (.iaload, 1) := by decide +kernel
theorem d_V_get_120 : decode b_V_get 120 = .ok (.aaload, 1) := by decide +kernel
theorem d_V_get_121 : decode b_V_get 121 = .ok (.aload_n 0, 1) := by decide +kernel
theorem d_V_get_122 : decode b_V_get 122 = .ok (.getfield 58, 3) := by decide +kernel
theorem d_V_get_125 : decode b_V_get 125 = .ok (.invokevirtual 150, 3) := by decide +kernel
theorem d_V_get_128 : decode b_V_get 128 = .ok (.iadd, 1) := by decide +kernel
theorem d_V_get_129 : decode b_V_get 129 = .ok (.putfield 144, 3) := by decide +kernel
theorem d_V_get_132 : decode b_V_get 132 = .ok (.iinc 5 1, 3) := by decide +kernel
theorem d_V_get_135 : decode b_V_get 135 = .ok (.goto (-40), 3) := by decide +kernel
theorem d_V_get_138 : decode b_V_get 138 = .ok (.iload 4, 2) := by decide +kernel
theorem d_V_get_140 : decode b_V_get 140 = .ok (.ireturn, 1) := by decide +kernel
theorem d_V_found_0 : decode b_V_found 0 = .ok (.iconst 0, 1) := by decide +kernel
theorem d_V_found_1 : decode b_V_found 1 = .ok (.istore_n 2, 1) := by decide +kernel
theorem d_V_found_2 : decode b_V_found 2 = .ok (.iconst 0, 1) := by decide +kernel
theorem d_V_found_3 : decode b_V_found 3 = .ok (.istore_n 3, 1) := by decide +kernel
theorem d_V_found_4 : decode b_V_found 4 = .ok (.iload_n 3, 1) := by decide +kernel
theorem d_V_found_5 : decode b_V_found 5 = .ok (.aload_n 0, 1) := by decide +kernel
theorem d_V_found_6 : decode b_V_found 6 = .ok (.getfield 34, 3) := by decide +kernel
theorem d_V_found_9 : decode b_V_found 9 = .ok (.getfield 104, 3) := by decide +kernel
theorem d_V_found_12 : decode b_V_found 12 = .ok (.if_icmp .ge 28, 3) := by decide +kernel
theorem d_V_found_15 : decode b_V_found 15 = .ok (.aload_n 0, 1) := by decide +kernel
theorem d_V_found_16 : decode b_V_found 16 = .ok (.getfield 58, 3) := by decide +kernel
theorem d_V_found_19 : decode b_V_found 19 = .ok (.iload_n 3, 1) := by decide +kernel
theorem d_V_found_20 : decode b_V_found 20 = .ok (.baload, 1) := by decide +kernel
theorem d_V_found_21 : decode b_V_found 21 = .ok (.ifCond .eq 13, 3) := by decide +kernel
theorem d_V_found_24 : decode b_V_found 24 = .ok (.iload_n 2, 1) := by decide +kernel
theorem d_V_found_25 : decode b_V_found 25 = .ok (.iload_n 1, 1) := by decide +kernel
theorem d_V_found_26 : decode b_V_found 26 = .ok (.if_icmp .ne 5, 3) := by decide +kernel
theorem d_V_found_29 : decode b_V_found 29 = .ok (.iload_n 3, 1) := by decide +kernel
theorem d_V_found_30 : decode b_V_found 30 = .ok (.ireturn, 1) := by decide +kernel
theorem d_V_found_31 : decode b_V_found 31 = .ok (.iinc 2 1, 3) := by decide +kernel
theorem d_V_found_34 : decode b_V_found 34 = .ok (.iinc 3 1, 3) := by decide +kernel
theorem d_V_found_37 : decode b_V_found 37 = .ok (.goto (-33), 3) := by decide +kernel
theorem d_V_found_40 : decode b_V_found 40 = .ok (.iconst (-1), 1) := by decide +kernel
theorem d_V_found_41 : decode b_V_found 41 = .ok (.ireturn, 1) := by decide +kernel
theorem d_V_repaired_0 : decode b_V_repaired 0 = .ok (.aload_n 0, 1) := by decide +kernel
theorem d_V_repaired_1 : decode b_V_repaired 1 = .ok (.getfield 144, 3) := by decide +kernel
theorem d_V_repaired_4 : decode b_V_repaired 4 = .ok (.ireturn, 1) := by decide +kernel
theorem d_V_handOver_0 : decode b_V_handOver 0 = .ok (.iload_n 1, 1) := by decide +kernel
theorem d_V_handOver_1 : decode b_V_handOver 1 = .ok (.invokestatic 77, 3) := by decide +kernel
theorem d_V_handOver_4 : decode b_V_handOver 4 = .ok (.ifCond .ne 5, 3) := by decide +kernel
theorem d_V_handOver_7 : decode b_V_handOver 7 = .ok (.iconst (-1), 1) := by decide +kernel
theorem d_V_handOver_8 : decode b_V_handOver 8 = .ok (.ireturn, 1) := by decide +kernel
theorem d_V_handOver_9 : decode b_V_handOver 9 = .ok (.aload_n 0, 1) := by decide +kernel
theorem d_V_handOver_10 : decode b_V_handOver 10 = .ok (.getfield 40, 3) := by decide +kernel
theorem d_V_handOver_13 : decode b_V_handOver 13 = .ok (.iload_n 1, 1) := by decide +kernel
theorem d_V_handOver_14 : decode b_V_handOver 14 = .ok (.aaload, 1) := by decide +kernel
theorem d_V_handOver_15 : decode b_V_handOver 15 = .ok (.getfield 87, 3) := by decide +kernel
theorem d_V_handOver_18 : decode b_V_handOver 18 = .ok (.ifCond .ne 6, 3) := by decide +kernel
theorem d_V_handOver_21 : decode b_V_handOver 21 = .ok (.bipush (-2), 2) := by decide +kernel
theorem d_V_handOver_23 : decode b_V_handOver 23 = .ok (.ireturn, 1) := by decide +kernel
theorem d_V_handOver_24 : decode b_V_handOver 24 = .ok (.aload_n 0, 1) := by decide +kernel
theorem d_V_handOver_25 : decode b_V_handOver 25 = .ok (.iload_n 1, 1) := by decide +kernel
theorem d_V_handOver_26 : decode b_V_handOver 26 = .ok (.invokevirtual 154, 3) := by decide +kernel
theorem d_V_handOver_29 : decode b_V_handOver 29 = .ok (.istore_n 2, 1) := by decide +kernel
theorem d_V_handOver_30 : decode b_V_handOver 30 = .ok (.iconst 0, 1) := by decide +kernel
theorem d_V_handOver_31 : decode b_V_handOver 31 = .ok (.istore_n 3, 1) := by decide +kernel
theorem d_V_handOver_32 : decode b_V_handOver 32 = .ok (.iload_n 3, 1) := by decide +kernel
theorem d_V_handOver_33 : decode b_V_handOver 33 = .ok (.bipush 32, 2) := by decide +kernel
theorem d_V_handOver_35 : decode b_V_handOver 35 = .ok (.if_icmp .ge 18, 3) := by decide +kernel
theorem d_V_handOver_38 : decode b_V_handOver 38 = .ok (.iload_n 2, 1) := by decide +kernel
theorem d_V_handOver_39 : decode b_V_handOver 39 = .ok (.aload_n 0, 1) := by decide +kernel
theorem d_V_handOver_40 : decode b_V_handOver 40 = .ok (.iload_n 1, 1) := by decide +kernel
theorem d_V_handOver_41 : decode b_V_handOver 41 = .ok (.iload_n 3, 1) := by decide +kernel
theorem d_V_handOver_42 : decode b_V_handOver 42 = .ok (.invokevirtual 158, 3) := by decide +kernel
theorem d_V_handOver_45 : decode b_V_handOver 45 = .ok (.iadd, 1) := by decide +kernel
theorem d_V_handOver_46 : decode b_V_handOver 46 = .ok (.istore_n 2, 1) := by decide +kernel
theorem d_V_handOver_47 : decode b_V_handOver 47 = .ok (.iinc 3 1, 3) := by decide +kernel
theorem d_V_handOver_50 : decode b_V_handOver 50 = .ok (.goto (-18), 3) := by decide +kernel
theorem d_V_handOver_53 : decode b_V_handOver 53 = .ok (.iload_n 2, 1) := by decide +kernel
theorem d_V_handOver_54 : decode b_V_handOver 54 = .ok (.ireturn, 1) := by decide +kernel
theorem d_V_compare_0 : decode b_V_compare 0 = .ok (.iload_n 1, 1) := by decide +kernel
theorem d_V_compare_1 : decode b_V_compare 1 = .ok (.iload_n 2, 1) := by decide +kernel
theorem d_V_compare_2 : decode b_V_compare 2 = .ok (.invokestatic 91, 3) := by decide +kernel
theorem d_V_compare_5 : decode b_V_compare 5 = .ok (.ifCond .ne 5, 3) := by decide +kernel
theorem d_V_compare_8 : decode b_V_compare 8 = .ok (.iconst (-1), 1) := by decide +kernel
theorem d_V_compare_9 : decode b_V_compare 9 = .ok (.ireturn, 1) := by decide +kernel
theorem d_V_compare_10 : decode b_V_compare 10 = .ok (.aload_n 0, 1) := by decide +kernel
theorem d_V_compare_11 : decode b_V_compare 11 = .ok (.iload_n 1, 1) := by decide +kernel
theorem d_V_compare_12 : decode b_V_compare 12 = .ok (.iload_n 2, 1) := by decide +kernel
theorem d_V_compare_13 : decode b_V_compare 13 = .ok (.invokevirtual 161, 3) := by decide +kernel
theorem d_V_compare_16 : decode b_V_compare 16 = .ok (.ifCond .ne 6, 3) := by decide +kernel
theorem d_V_compare_19 : decode b_V_compare 19 = .ok (.bipush (-2), 2) := by decide +kernel
theorem d_V_compare_21 : decode b_V_compare 21 = .ok (.ireturn, 1) := by decide +kernel
theorem d_V_compare_22 : decode b_V_compare 22 = .ok (.iconst 0, 1) := by decide +kernel
theorem d_V_compare_23 : decode b_V_compare 23 = .ok (.istore_n 3, 1) := by decide +kernel
theorem d_V_compare_24 : decode b_V_compare 24 = .ok (.iload_n 3, 1) := by decide +kernel
theorem d_V_compare_25 : decode b_V_compare 25 = .ok (.bipush 32, 2) := by decide +kernel
theorem d_V_compare_27 : decode b_V_compare 27 = .ok (.if_icmp .ge 56, 3) := by decide +kernel
theorem d_V_compare_30 : decode b_V_compare 30 = .ok (.aload_n 0, 1) := by decide +kernel
theorem d_V_compare_31 : decode b_V_compare 31 = .ok (.getfield 74, 3) := by decide +kernel
theorem d_V_compare_34 : decode b_V_compare 34 = .ok (.iload_n 3, 1) := by decide +kernel
theorem d_V_compare_35 : decode b_V_compare 35 = .ok (.aload_n 0, 1) := by decide +kernel
theorem d_V_compare_36 : decode b_V_compare 36 = .ok (.iload_n 1, 1) := by decide +kernel
theorem d_V_compare_37 : decode b_V_compare 37 = .ok (.iload_n 2, 1) := by decide +kernel
theorem d_V_compare_38 : decode b_V_compare 38 = .ok (.iload_n 3, 1) := by decide +kernel
theorem d_V_compare_39 : decode b_V_compare 39 = .ok (.invokevirtual 164, 3) := by decide +kernel
theorem d_V_compare_42 : decode b_V_compare 42 = .ok (.ifCond .eq 17, 3) := by decide +kernel
theorem d_V_compare_45 : decode b_V_compare 45 = .ok (.aload_n 0, 1) := by decide +kernel
theorem d_V_compare_46 : decode b_V_compare 46 = .ok (.iload_n 1, 1) := by decide +kernel
theorem d_V_compare_47 : decode b_V_compare 47 = .ok (.iload_n 2, 1) := by decide +kernel
theorem d_V_compare_48 : decode b_V_compare 48 = .ok (.iload_n 3, 1) := by decide +kernel
theorem d_V_compare_49 : decode b_V_compare 49 = .ok (.invokevirtual 168, 3) := by decide +kernel
theorem d_V_compare_52 : decode b_V_compare 52 = .ok (.ifCond .eq 7, 3) := by decide +kernel
theorem d_V_compare_55 : decode b_V_compare 55 = .ok (.iconst 1, 1) := by decide +kernel
theorem d_V_compare_56 : decode b_V_compare 56 = .ok (.goto 4, 3) := by decide +kernel
theorem d_V_compare_59 : decode b_V_compare 59 = .ok (.iconst 0, 1) := by decide +kernel
theorem d_V_compare_60 : decode b_V_compare 60 = .ok (.bastore, 1) := by decide +kernel
theorem d_V_compare_61 : decode b_V_compare 61 = .ok (.aload_n 0, 1) := by decide +kernel
theorem d_V_compare_62 : decode b_V_compare 62 = .ok (.getfield 74, 3) := by decide +kernel
theorem d_V_compare_65 : decode b_V_compare 65 = .ok (.iload_n 3, 1) := by decide +kernel
theorem d_V_compare_66 : decode b_V_compare 66 = .ok (.baload, 1) := by decide +kernel
theorem d_V_compare_67 : decode b_V_compare 67 = .ok (.ifCond .eq 10, 3) := by decide +kernel
theorem d_V_compare_70 : decode b_V_compare 70 = .ok (.aload_n 0, 1) := by decide +kernel
theorem d_V_compare_71 : decode b_V_compare 71 = .ok (.iload_n 1, 1) := by decide +kernel
theorem d_V_compare_72 : decode b_V_compare 72 = .ok (.iload_n 2, 1) := by decide +kernel
theorem d_V_compare_73 : decode b_V_compare 73 = .ok (.iload_n 3, 1) := by decide +kernel
theorem d_V_compare_74 : decode b_V_compare 74 = .ok (.invokevirtual 171, 3) := by decide +kernel
theorem d_V_compare_77 : decode b_V_compare 77 = .ok (.iinc 3 1, 3) := by decide +kernel
theorem d_V_compare_80 : decode b_V_compare 80 = .ok (.goto (-56), 3) := by decide +kernel
theorem d_V_compare_83 : decode b_V_compare 83 = .ok (.aload_n 0, 1) := by decide +kernel
theorem d_V_compare_84 : decode b_V_compare 84 = .ok (.invokevirtual 175, 3) := by decide +kernel
theorem d_V_compare_87 : decode b_V_compare 87 = .ok (.ireturn, 1) := by decide +kernel
theorem d_V_home_0 : decode b_V_home 0 = .ok (.iload_n 1, 1) := by decide +kernel
theorem d_V_home_1 : decode b_V_home 1 = .ok (.invokestatic 98, 3) := by decide +kernel
theorem d_V_home_4 : decode b_V_home 4 = .ok (.ifCond .eq 7, 3) := by decide +kernel
theorem d_V_home_7 : decode b_V_home 7 = .ok (.iload_n 2, 1) := by decide +kernel
theorem d_V_home_8 : decode b_V_home 8 = .ok (.ifCond .ge 5, 3) := by decide +kernel
