theorem d_M_exchange_97 : decode b_M_exchange 97 = .ok (.iconst 0, 1) := by decide +kernel
theorem d_M_exchange_98 : decode b_M_exchange 98 = .ok (.istore 4, 2) := by decide +kernel
theorem d_M_exchange_100 : decode b_M_exchange 100 = .ok (.iload 4, 2) := by decide +kernel
theorem d_M_exchange_102 : decode b_M_exchange 102 = .ok (.aload_n 0, 1) := by decide +kernel
theorem d_M_exchange_103 : decode b_M_exchange 103 = .ok (.getfield 102, 3) := by decide +kernel
theorem d_M_exchange_106 : decode b_M_exchange 106 = .ok (.if_icmp .ge 46, 3) := by decide +kernel
theorem d_M_exchange_109 : decode b_M_exchange 109 = .ok (.aload_n 0, 1) := by decide +kernel
theorem d_M_exchange_110 : decode b_M_exchange 110 = .ok (.getfield 38, 3) := by decide +kernel
theorem d_M_exchange_113 : decode b_M_exchange 113 = .ok (.bipush 40, 2) := by decide +kernel
theorem d_M_exchange_115 : decode b_M_exchange 115 = .ok (.iload 4, 2) := by decide +kernel
theorem d_M_exchange_117 : decode b_M_exchange 117 = .ok (.iadd, 1) := by decide +kernel
theorem d_M_exchange_118 : decode b_M_exchange 118 = .ok (.baload, 1) := by decide +kernel
theorem d_M_exchange_119 : decode b_M_exchange 119 = .ok (.ifCond .eq 10, 3) := by decide +kernel
theorem d_M_exchange_122 : decode b_M_exchange 122 = .ok (.aload_n 0, 1) := by decide +kernel
theorem d_M_exchange_123 : decode b_M_exchange 123 = .ok (.iload_n 1, 1) := by decide +kernel
theorem d_M_exchange_124 : decode b_M_exchange 124 = .ok (.iload 4, 2) := by decide +kernel
theorem d_M_exchange_126 : decode b_M_exchange 126 = .ok (.invokevirtual 112, 3) := by decide +kernel
theorem d_M_exchange_129 : decode b_M_exchange 129 = .ok (.aload_n 0, 1) := by decide +kernel
theorem d_M_exchange_130 : decode b_M_exchange 130 = .ok (.getfield 38, 3) := by decide +kernel
theorem d_M_exchange_133 : decode b_M_exchange 133 = .ok (.iload 4, 2) := by decide +kernel
theorem d_M_exchange_135 : decode b_M_exchange 135 = .ok (.baload, 1) := by decide +kernel
theorem d_M_exchange_136 : decode b_M_exchange 136 = .ok (.ifCond .eq 10, 3) := by decide +kernel
theorem d_M_exchange_139 : decode b_M_exchange 139 = .ok (.aload_n 0, 1) := by decide +kernel
theorem d_M_exchange_140 : decode b_M_exchange 140 = .ok (.iload_n 2, 1) := by decide +kernel
theorem d_M_exchange_141 : decode b_M_exchange 141 = .ok (.iload 4, 2) := by decide +kernel
theorem d_M_exchange_143 : decode b_M_exchange 143 = .ok (.invokevirtual 112, 3) := by decide +kernel
theorem d_M_exchange_146 : decode b_M_exchange 146 = .ok (.iinc 4 1, 3) := by decide +kernel
theorem d_M_exchange_149 : decode b_M_exchange 149 = .ok (.goto (-49), 3) := by decide +kernel
theorem d_M_exchange_152 : decode b_M_exchange 152 = .ok (.return_, 1) := by decide +kernel
theorem d_M_compare_0 : decode b_M_compare 0 = .ok (.iload_n 1, 1) := by decide +kernel
theorem d_M_compare_1 : decode b_M_compare 1 = .ok (.invokestatic 69, 3) := by decide +kernel
theorem d_M_compare_4 : decode b_M_compare 4 = .ok (.ifCond .eq 15, 3) := by decide +kernel
theorem d_M_compare_7 : decode b_M_compare 7 = .ok (.iload_n 2, 1) := by decide +kernel
theorem d_M_compare_8 : decode b_M_compare 8 = .ok (.invokestatic 69, 3) := by decide +kernel
theorem d_M_compare_11 : decode b_M_compare 11 = .ok (.ifCond .eq 8, 3) := by decide +kernel
theorem d_M_compare_14 : decode b_M_compare 14 = .ok (.iload_n 1, 1) := by decide +kernel
theorem d_M_compare_15 : decode b_M_compare 15 = .ok (.iload_n 2, 1) := by decide +kernel
theorem d_M_compare_16 : decode b_M_compare 16 = .ok (.if_icmp .ne 5, 3) := by decide +kernel
theorem d_M_compare_19 : decode b_M_compare 19 = .ok (.iconst (-1), 1) := by decide +kernel
theorem d_M_compare_20 : decode b_M_compare 20 = .ok (.ireturn, 1) := by decide +kernel
theorem d_M_compare_21 : decode b_M_compare 21 = .ok (.aload_n 0, 1) := by decide +kernel
theorem d_M_compare_22 : decode b_M_compare 22 = .ok (.iload_n 1, 1) := by decide +kernel
theorem d_M_compare_23 : decode b_M_compare 23 = .ok (.iload_n 2, 1) := by decide +kernel
theorem d_M_compare_24 : decode b_M_compare 24 = .ok (.invokevirtual 94, 3) := by decide +kernel
theorem d_M_compare_27 : decode b_M_compare 27 = .ok (.ifCond .ne 6, 3) := by decide +kernel
theorem d_M_compare_30 : decode b_M_compare 30 = .ok (.bipush (-2), 2) := by decide +kernel
theorem d_M_compare_32 : decode b_M_compare 32 = .ok (.ireturn, 1) := by decide +kernel
theorem d_M_compare_33 : decode b_M_compare 33 = .ok (.iconst 1, 1) := by decide +kernel
theorem d_M_compare_34 : decode b_M_compare 34 = .ok (.istore_n 3, 1) := by decide +kernel
theorem d_M_compare_35 : decode b_M_compare 35 = .ok (.bipush 32, 2) := by decide +kernel
theorem d_M_compare_37 : decode b_M_compare 37 = .ok (.istore 4, 2) := by decide +kernel
theorem d_M_compare_39 : decode b_M_compare 39 = .ok (.iload 4, 2) := by decide +kernel
theorem d_M_compare_41 : decode b_M_compare 41 = .ok (.iconst 1, 1) := by decide +kernel
theorem d_M_compare_42 : decode b_M_compare 42 = .ok (.if_icmp .le 91, 3) := by decide +kernel
theorem d_M_compare_45 : decode b_M_compare 45 = .ok (.iconst 0, 1) := by decide +kernel
theorem d_M_compare_46 : decode b_M_compare 46 = .ok (.istore 5, 2) := by decide +kernel
theorem d_M_compare_48 : decode b_M_compare 48 = .ok (.iload 5, 2) := by decide +kernel
theorem d_M_compare_50 : decode b_M_compare 50 = .ok (.bipush 32, 2) := by decide +kernel
theorem d_M_compare_52 : decode b_M_compare 52 = .ok (.if_icmp .ge 72, 3) := by decide +kernel
theorem d_M_compare_55 : decode b_M_compare 55 = .ok (.iconst 0, 1) := by decide +kernel
theorem d_M_compare_56 : decode b_M_compare 56 = .ok (.istore 6, 2) := by decide +kernel
theorem d_M_compare_58 : decode b_M_compare 58 = .ok (.iload 5, 2) := by decide +kernel
theorem d_M_compare_60 : decode b_M_compare 60 = .ok (.istore 7, 2) := by decide +kernel
theorem d_M_compare_62 : decode b_M_compare 62 = .ok (.iload 7, 2) := by decide +kernel
theorem d_M_compare_64 : decode b_M_compare 64 = .ok (.iload 5, 2) := by decide +kernel
theorem d_M_compare_66 : decode b_M_compare 66 = .ok (.iload 4, 2) := by decide +kernel
theorem d_M_compare_68 : decode b_M_compare 68 = .ok (.iadd, 1) := by decide +kernel
theorem d_M_compare_69 : decode b_M_compare 69 = .ok (.if_icmp .ge 32, 3) := by decide +kernel
theorem d_M_compare_72 : decode b_M_compare 72 = .ok (.iload 6, 2) := by decide +kernel
theorem d_M_compare_74 : decode b_M_compare 74 = .ok (.ifCond .ne 14, 3) := by decide +kernel
theorem d_M_compare_77 : decode b_M_compare 77 = .ok (.aload_n 0, 1) := by decide +kernel
theorem d_M_compare_78 : decode b_M_compare 78 = .ok (.iload_n 1, 1) := by decide +kernel
theorem d_M_compare_79 : decode b_M_compare 79 = .ok (.iload_n 2, 1) := by decide +kernel
theorem d_M_compare_80 : decode b_M_compare 80 = .ok (.iload 7, 2) := by decide +kernel
theorem d_M_compare_82 : decode b_M_compare 82 = .ok (.invokevirtual 139, 3) := by decide +kernel
theorem d_M_compare_85 : decode b_M_compare 85 = .ok (.ifCond .eq 7, 3) := by decide +kernel
theorem d_M_compare_88 : decode b_M_compare 88 = .ok (.iconst 1, 1) := by decide +kernel
theorem d_M_compare_89 : decode b_M_compare 89 = .ok (.goto 4, 3) := by decide +kernel
theorem d_M_compare_92 : decode b_M_compare 92 = .ok (.iconst 0, 1) := by decide +kernel
theorem d_M_compare_93 : decode b_M_compare 93 = .ok (.istore 6, 2) := by decide +kernel
theorem d_M_compare_95 : decode b_M_compare 95 = .ok (.iinc 7 1, 3) := by decide +kernel
theorem d_M_compare_98 : decode b_M_compare 98 = .ok (.goto (-36), 3) := by decide +kernel
theorem d_M_compare_101 : decode b_M_compare 101 = .ok (.iload 6, 2) := by decide +kernel
theorem d_M_compare_103 : decode b_M_compare 103 = .ok (.ifCond .eq 9, 3) := by decide +kernel
theorem d_M_compare_106 : decode b_M_compare 106 = .ok (.iload_n 3, 1) := by decide +kernel
theorem d_M_compare_107 : decode b_M_compare 107 = .ok (.iconst 2, 1) := by decide +kernel
theorem d_M_compare_108 : decode b_M_compare 108 = .ok (.iadd, 1) := by decide +kernel
theorem d_M_compare_109 : decode b_M_compare 109 = .ok (.goto 4, 3) := by decide +kernel
theorem d_M_compare_112 : decode b_M_compare 112 = .ok (.iload_n 3, 1) := by decide +kernel
theorem d_M_compare_113 : decode b_M_compare 113 = .ok (.istore_n 3, 1) := by decide +kernel
theorem d_M_compare_114 : decode b_M_compare 114 = .ok (.iload 5, 2) := by decide +kernel
theorem d_M_compare_116 : decode b_M_compare 116 = .ok (.iload 4, 2) := by decide +kernel
theorem d_M_compare_118 : decode b_M_compare 118 = .ok (.iadd, 1) := by decide +kernel
theorem d_M_compare_119 : decode b_M_compare 119 = .ok (.istore 5, 2) := by decide +kernel
theorem d_M_compare_121 : decode b_M_compare 121 = .ok (.goto (-73), 3) := by decide +kernel
theorem d_M_compare_124 : decode b_M_compare 124 = .ok (.iload 4, 2) := by decide +kernel
theorem d_M_compare_126 : decode b_M_compare 126 = .ok (.iconst 2, 1) := by decide +kernel
theorem d_M_compare_127 : decode b_M_compare 127 = .ok (.idiv, 1) := by decide +kernel
theorem d_M_compare_128 : decode b_M_compare 128 = .ok (.istore 4, 2) := by decide +kernel
theorem d_M_compare_130 : decode b_M_compare 130 = .ok (.goto (-91), 3) := by decide +kernel
theorem d_M_compare_133 : decode b_M_compare 133 = .ok (.iconst 0, 1) := by decide +kernel
theorem d_M_compare_134 : decode b_M_compare 134 = .ok (.istore 4, 2) := by decide +kernel
theorem d_M_compare_136 : decode b_M_compare 136 = .ok (.iload 4, 2) := by decide +kernel
theorem d_M_compare_138 : decode b_M_compare 138 = .ok (.bipush 32, 2) := by decide +kernel
theorem d_M_compare_140 : decode b_M_compare 140 = .ok (.if_icmp .ge 28, 3) := by decide +kernel
theorem d_M_compare_143 : decode b_M_compare 143 = .ok (.aload_n 0, 1) := by decide +kernel
theorem d_M_compare_144 : decode b_M_compare 144 = .ok (.iload_n 1, 1) := by decide +kernel
theorem d_M_compare_145 : decode b_M_compare 145 = .ok (.iload_n 2, 1) := by decide +kernel
theorem d_M_compare_146 : decode b_M_compare 146 = .ok (.iload 4, 2) := by decide +kernel
theorem d_M_compare_148 : decode b_M_compare 148 = .ok (.invokevirtual 139, 3) := by decide +kernel
theorem d_M_compare_151 : decode b_M_compare 151 = .ok (.ifCond .eq 11, 3) := by decide +kernel
theorem d_M_compare_154 : decode b_M_compare 154 = .ok (.aload_n 0, 1) := by decide +kernel
theorem d_M_compare_155 : decode b_M_compare 155 = .ok (.iload_n 1, 1) := by decide +kernel
theorem d_M_compare_156 : decode b_M_compare 156 = .ok (.iload_n 2, 1) := by decide +kernel
theorem d_M_compare_157 : decode b_M_compare 157 = .ok (.iload 4, 2) := by decide +kernel
theorem d_M_compare_159 : decode b_M_compare 159 = .ok (.invokevirtual 143, 3) := by decide +kernel
theorem d_M_compare_162 : decode b_M_compare 162 = .ok (.iinc 4 1, 3) := by decide +kernel
theorem d_M_compare_165 : decode b_M_compare 165 = .ok (.goto (-29), 3) := by decide +kernel
theorem d_M_compare_168 : decode b_M_compare 168 = .ok (.iload_n 3, 1) := by decide +kernel
theorem d_M_compare_169 : decode b_M_compare 169 = .ok (.ireturn, 1) := by decide +kernel
theorem d_M_holds_0 : decode b_M_holds 0 = .ok (.iload_n 1, 1) := by decide +kernel
theorem d_M_holds_1 : decode b_M_holds 1 = .ok (.invokestatic 69, 3) := by decide +kernel
theorem d_M_holds_4 : decode b_M_holds 4 = .ok (.ifCond .eq 15, 3) := by decide +kernel
theorem d_M_holds_7 : decode b_M_holds 7 = .ok (.iload_n 2, 1) := by decide +kernel
theorem d_M_holds_8 : decode b_M_holds 8 = .ok (.ifCond .lt 11, 3) := by decide +kernel
theorem d_M_holds_11 : decode b_M_holds 11 = .ok (.iload_n 2, 1) := by decide +kernel
theorem d_M_holds_12 : decode b_M_holds 12 = .ok (.aload_n 0, 1) := by decide +kernel
theorem d_M_holds_13 : decode b_M_holds 13 = .ok (.getfield 102, 3) := by decide +kernel
theorem d_M_holds_16 : decode b_M_holds 16 = .ok (.if_icmp .lt 5, 3) := by decide +kernel
theorem d_M_holds_19 : decode b_M_holds 19 = .ok (.iconst (-1), 1) := by decide +kernel
theorem d_M_holds_20 : decode b_M_holds 20 = .ok (.ireturn, 1) := by decide +kernel
theorem d_M_holds_21 : decode b_M_holds 21 = .ok (.aload_n 0, 1) := by decide +kernel
theorem d_M_holds_22 : decode b_M_holds 22 = .ok (.getfield 32, 3) := by decide +kernel
theorem d_M_holds_25 : decode b_M_holds 25 = .ok (.bipush 40, 2) := by decide +kernel
theorem d_M_holds_27 : decode b_M_holds 27 = .ok (.iload_n 1, 1) := by decide +kernel
theorem d_M_holds_28 : decode b_M_holds 28 = .ok (.imul, 1) := by decide +kernel
theorem d_M_holds_29 : decode b_M_holds 29 = .ok (.iload_n 2, 1) := by decide +kernel
theorem d_M_holds_30 : decode b_M_holds 30 = .ok (.iadd, 1) := by decide +kernel
theorem d_M_holds_31 : decode b_M_holds 31 = .ok (.baload, 1) := by decide +kernel
theorem d_M_holds_32 : decode b_M_holds 32 = .ok (.ifCond .eq 7, 3) := by decide +kernel
theorem d_M_holds_35 : decode b_M_holds 35 = .ok (.iconst 1, 1) := by decide +kernel
theorem d_M_holds_36 : decode b_M_holds 36 = .ok (.goto 4, 3) := by decide +kernel
theorem d_M_holds_39 : decode b_M_holds 39 = .ok (.iconst 0, 1) := by decide +kernel
theorem d_M_holds_40 : decode b_M_holds 40 = .ok (.aload_n 0, 1) := by decide +kernel
theorem d_M_holds_41 : decode b_M_holds 41 = .ok (.getfield 35, 3) := by decide +kernel
theorem d_M_holds_44 : decode b_M_holds 44 = .ok (.bipush 40, 2) := by decide +kernel
theorem d_M_holds_46 : decode b_M_holds 46 = .ok (.iload_n 1, 1) := by decide +kernel
theorem d_M_holds_47 : decode b_M_holds 47 = .ok (.imul, 1) := by decide +kernel
theorem d_M_holds_48 : decode b_M_holds 48 = .ok (.iload_n 2, 1) := by decide +kernel
theorem d_M_holds_49 : decode b_M_holds 49 = .ok (.iadd, 1) := by decide +kernel
theorem d_M_holds_50 : decode b_M_holds 50 = .ok (.iaload, 1) := by decide +kernel
theorem d_M_holds_51 : decode b_M_holds 51 = .ok (.ifCond .le 7, 3) := by decide +kernel
theorem d_M_holds_54 : decode b_M_holds 54 = .ok (.iconst 2, 1) := by decide +kernel
theorem d_M_holds_55 : decode b_M_holds 55 = .ok (.goto 4, 3) := by decide +kernel
theorem d_M_holds_58 : decode b_M_holds 58 = .ok (.iconst 0, 1) := by decide +kernel
theorem d_M_holds_59 : decode b_M_holds 59 = .ok (.iadd, 1) := by decide +kernel
theorem d_M_holds_60 : decode b_M_holds 60 = .ok (.ireturn, 1) := by decide +kernel
theorem d_M_count_0 : decode b_M_count 0 = .ok (.iload_n 1, 1) := by decide +kernel
theorem d_M_count_1 : decode b_M_count 1 = .ok (.invokestatic 69, 3) := by decide +kernel
theorem d_M_count_4 : decode b_M_count 4 = .ok (.ifCond .eq 10, 3) := by decide +kernel
theorem d_M_count_7 : decode b_M_count 7 = .ok (.iload_n 2, 1) := by decide +kernel
theorem d_M_count_8 : decode b_M_count 8 = .ok (.invokestatic 84, 3) := by decide +kernel
theorem d_M_count_11 : decode b_M_count 11 = .ok (.ifCond .ne 5, 3) := by decide +kernel
theorem d_M_count_14 : decode b_M_count 14 = .ok (.iconst (-1), 1) := by decide +kernel
theorem d_M_count_15 : decode b_M_count 15 = .ok (.ireturn, 1) := by decide +kernel
theorem d_M_count_16 : decode b_M_count 16 = .ok (.iconst 0, 1) := by decide +kernel
theorem d_M_count_17 : decode b_M_count 17 = .ok (.istore_n 3, 1) := by decide +kernel
theorem d_M_count_18 : decode b_M_count 18 = .ok (.iconst 0, 1) := by decide +kernel
theorem d_M_count_19 : decode b_M_count 19 = .ok (.istore 4, 2) := by decide +kernel
theorem d_M_count_21 : decode b_M_count 21 = .ok (.iload 4, 2) := by decide +kernel
theorem d_M_count_23 : decode b_M_count 23 = .ok (.aload_n 0, 1) := by decide +kernel
theorem d_M_count_24 : decode b_M_count 24 = .ok (.getfield 102, 3) := by decide +kernel
theorem d_M_count_27 : decode b_M_count 27 = .ok (.if_icmp .ge 43, 3) := by decide +kernel
theorem d_M_count_30 : decode b_M_count 30 = .ok (.aload_n 0, 1) := by decide +kernel
theorem d_M_count_31 : decode b_M_count 31 = .ok (.getfield 32, 3) := by decide +kernel
theorem d_M_count_34 : decode b_M_count 34 = .ok (.bipush 40, 2) := by decide +kernel
theorem d_M_count_36 : decode b_M_count 36 = .ok (.iload_n 1, 1) := by decide +kernel
theorem d_M_count_37 : decode b_M_count 37 = .ok (.imul, 1) := by decide +kernel
theorem d_M_count_38 : decode b_M_count 38 = .ok (.iload 4, 2) := by decide +kernel
theorem d_M_count_40 : decode b_M_count 40 = .ok (.iadd, 1) := by decide +kernel
theorem d_M_count_41 : decode b_M_count 41 = .ok (.baload, 1) := by decide +kernel
theorem d_M_count_42 : decode b_M_count 42 = .ok (.ifCond .eq 20, 3) := by decide +kernel
theorem d_M_count_45 : decode b_M_count 45 = .ok (.aload_n 0, 1) := by decide +kernel
theorem d_M_count_46 : decode b_M_count 46 = .ok (.getfield 20, 3) := by decide +kernel
theorem d_M_count_49 : decode b_M_count 49 = .ok (.iload 4, 2) := by decide +kernel
theorem d_M_count_51 : decode b_M_count 51 = .ok (.iaload, 1) := by decide +kernel
theorem d_M_count_52 : decode b_M_count 52 = .ok (.iload_n 2, 1) := by decide +kernel
theorem d_M_count_53 : decode b_M_count 53 = .ok (.if_icmp .ne 9, 3) := by decide +kernel
theorem d_M_count_56 : decode b_M_count 56 = .ok (.iload_n 3, 1) := by decide +kernel
theorem d_M_count_57 : decode b_M_count 57 = .ok (.iconst 1, 1) := by decide +kernel
theorem d_M_count_58 : decode b_M_count 58 = .ok (.iadd, 1) := by decide +kernel
theorem d_M_count_59 : decode b_M_count 59 = .ok (.goto 4, 3) := by decide +kernel
theorem d_M_count_62 : decode b_M_count 62 = .ok (.iload_n 3, 1) := by decide +kernel
theorem d_M_count_63 : decode b_M_count 63 = .ok (.istore_n 3, 1) := by decide +kernel
theorem d_M_count_64 : decode b_M_count 64 = .ok (.iinc 4 1, 3) := by decide +kernel
theorem d_M_count_67 : decode b_M_count 67 = .ok (.goto (-46), 3) := by decide +kernel
theorem d_M_count_70 : decode b_M_count 70 = .ok (.iload_n 3, 1) := by decide +kernel
theorem d_M_count_71 : decode b_M_count 71 = .ok (.ireturn, 1) := by decide +kernel
theorem d_M_hints_0 : decode b_M_hints 0 = .ok (.iload_n 1, 1) := by decide +kernel
theorem d_M_hints_1 : decode b_M_hints 1 = .ok (.invokestatic 69, 3) := by decide +kernel
theorem d_M_hints_4 : decode b_M_hints 4 = .ok (.ifCond .ne 5, 3) := by decide +kernel
theorem d_M_hints_7 : decode b_M_hints 7 = .ok (.iconst (-1), 1) := by decide +kernel
theorem d_M_hints_8 : decode b_M_hints 8 = .ok (.ireturn, 1) := by decide +kernel
theorem d_M_hints_9 : decode b_M_hints 9 = .ok (.iconst 0, 1) := by decide +kernel
theorem d_M_hints_10 : decode b_M_hints 10 = .ok (.istore_n 2, 1) := by decide +kernel
theorem d_M_hints_11 : decode b_M_hints 11 = .ok (.iconst 0, 1) := by decide +kernel
theorem d_M_hints_12 : decode b_M_hints 12 = .ok (.istore_n 3, 1) := by decide +kernel
theorem d_M_hints_13 : decode b_M_hints 13 = .ok (.iload_n 3, 1) := by decide +kernel
theorem d_M_hints_14 : decode b_M_hints 14 = .ok (.aload_n 0, 1) := by decide +kernel
theorem d_M_hints_15 : decode b_M_hints 15 = .ok (.getfield 102, 3) := by decide +kernel
theorem d_M_hints_18 : decode b_M_hints 18 = .ok (.if_icmp .ge 31, 3) := by decide +kernel
theorem d_M_hints_21 : decode b_M_hints 21 = .ok (.aload_n 0, 1) := by decide +kernel
theorem d_M_hints_22 : decode b_M_hints 22 = .ok (.getfield 35, 3) := by decide +kernel
theorem d_M_hints_25 : decode b_M_hints 25 = .ok (.bipush 40, 2) := by decide +kernel
theorem d_M_hints_27 : decode b_M_hints 27 = .ok (.iload_n 1, 1) := by decide +kernel
theorem d_M_hints_28 : decode b_M_hints 28 = .ok (.imul, 1) := by decide +kernel
theorem d_M_hints_29 : decode b_M_hints 29 = .ok (.iload_n 3, 1) := by decide +kernel
theorem d_M_hints_30 : decode b_M_hints 30 = .ok (.iadd, 1) := by decide +kernel
theorem d_M_hints_31 : decode b_M_hints 31 = .ok (.iaload, 1) := by decide +kernel
theorem d_M_hints_32 : decode b_M_hints 32 = .ok (.ifCond .le 9, 3) := by decide +kernel
theorem d_M_hints_35 : decode b_M_hints 35 = .ok (.iload_n 2, 1) := by decide +kernel
theorem d_M_hints_36 : decode b_M_hints 36 = .ok (.iconst 1, 1) := by decide +kernel
theorem d_M_hints_37 : decode b_M_hints 37 = .ok (.iadd, 1) := by decide +kernel
theorem d_M_hints_38 : decode b_M_hints 38 = .ok (.goto 4, 3) := by decide +kernel
theorem d_M_hints_41 : decode b_M_hints 41 = .ok (.iload_n 2, 1) := by decide +kernel
theorem d_M_hints_42 : decode b_M_hints 42 = .ok (.istore_n 2, 1) := by decide +kernel
theorem d_M_hints_43 : decode b_M_hints 43 = .ok (.iinc 3 1, 3) := by decide +kernel
theorem d_M_hints_46 : decode b_M_hints 46 = .ok (.goto (-33), 3) := by decide +kernel
theorem d_M_hints_49 : decode b_M_hints 49 = .ok (.iload_n 2, 1) := by decide +kernel
theorem d_M_hints_50 : decode b_M_hints 50 = .ok (.ireturn, 1) := by decide +kernel
theorem d_M_versions_0 : decode b_M_versions 0 = .ok (.aload_n 0, 1) := by decide +kernel
theorem d_M_versions_1 : decode b_M_versions 1 = .ok (.getfield 102, 3) := by decide +kernel
theorem d_M_versions_4 : decode b_M_versions 4 = .ok (.ireturn, 1) := by decide +kernel
theorem d_M_version_0 : decode b_M_version 0 = .ok (.iload_n 1, 1) := by decide +kernel
theorem d_M_version_1 : decode b_M_version 1 = .ok (.ifCond .lt 21, 3) := by decide +kernel
theorem d_M_version_4 : decode b_M_version 4 = .ok (.iload_n 1, 1) := by decide +kernel
theorem d_M_version_5 : decode b_M_version 5 = .ok (.aload_n 0, 1) := by decide +kernel
theorem d_M_version_6 : decode b_M_version 6 = .ok (.getfield 102, 3) := by decide +kernel
theorem d_M_version_9 : decode b_M_version 9 = .ok (.if_icmp .ge 13, 3) := by decide +kernel
theorem d_M_version_12 : decode b_M_version 12 = .ok (.iload_n 2, 1) := by decide +kernel
theorem d_M_version_13 : decode b_M_version 13 = .ok (.ifCond .lt 9, 3) := by decide +kernel
theorem d_M_version_16 : decode b_M_version 16 = .ok (.iload_n 2, 1) := by decide +kernel
theorem d_M_version_17 : decode b_M_version 17 = .ok (.bipush 6, 2) := by decide +kernel
theorem d_M_version_19 : decode b_M_version 19 = .ok (.if_icmp .le 5, 3) := by decide +kernel
theorem d_M_version_22 : decode b_M_version 22 = .ok (.iconst 0, 1) := by decide +kernel
theorem d_M_version_23 : decode b_M_version 23 = .ok (.ireturn, 1) := by decide +kernel
theorem d_M_version_24 : decode b_M_version 24 = .ok (.iload_n 2, 1) := by decide +kernel
theorem d_M_version_25 : decode b_M_version 25 = .ok (.iconst 5, 1) := by decide +kernel
theorem d_M_version_26 : decode b_M_version 26 = .ok (.if_icmp .ne 12, 3) := by decide +kernel
theorem d_M_version_29 : decode b_M_version 29 = .ok (.aload_n 0, 1) := by decide +kernel
theorem d_M_version_30 : decode b_M_version 30 = .ok (.getfield 20, 3) := by decide +kernel
theorem d_M_version_33 : decode b_M_version 33 = .ok (.iload_n 1, 1) := by decide +kernel
theorem d_M_version_34 : decode b_M_version 34 = .ok (.iaload, 1) := by decide +kernel
theorem d_M_version_35 : decode b_M_version 35 = .ok (.goto 28, 3) := by decide +kernel
theorem d_M_version_38 : decode b_M_version 38 = .ok (.iload_n 2, 1) := by decide +kernel
theorem d_M_version_39 : decode b_M_version 39 = .ok (.bipush 6, 2) := by decide +kernel
theorem d_M_version_41 : decode b_M_version 41 = .ok (.if_icmp .ne 12, 3) := by decide +kernel
theorem d_M_version_44 : decode b_M_version 44 = .ok (.aload_n 0, 1) := by decide +kernel
theorem d_M_version_45 : decode b_M_version 45 = .ok (.getfield 23, 3) := by decide +kernel
theorem d_M_version_48 : decode b_M_version 48 = .ok (.iload_n 1, 1) := by decide +kernel
theorem d_M_version_49 : decode b_M_version 49 = .ok (.iaload, 1) := by decide +kernel
theorem d_M_version_50 : decode b_M_version 50 = .ok (.goto 13, 3) := by decide +kernel
theorem d_M_version_53 : decode b_M_version 53 = .ok (.aload_n 0, 1) := by decide +kernel
theorem d_M_version_54 : decode b_M_version 54 = .ok (.getfield 29, 3) := by decide +kernel
theorem d_M_version_57 : decode b_M_version 57 = .ok (.iconst 5, 1) := by decide +kernel
theorem d_M_version_58 : decode b_M_version 58 = .ok (.iload_n 1, 1) := by decide +kernel
theorem d_M_version_59 : decode b_M_version 59 = .ok (.imul, 1) := by decide +kernel
theorem d_M_version_60 : decode b_M_version 60 = .ok (.iload_n 2, 1) := by decide +kernel
theorem d_M_version_61 : decode b_M_version 61 = .ok (.iadd, 1) := by decide +kernel
theorem d_M_version_62 : decode b_M_version 62 = .ok (.iaload, 1) := by decide +kernel
theorem d_M_version_63 : decode b_M_version 63 = .ok (.ireturn, 1) := by decide +kernel
theorem d_M_context_0 : decode b_M_context 0 = .ok (.iload_n 1, 1) := by decide +kernel
theorem d_M_context_1 : decode b_M_context 1 = .ok (.ifCond .lt 24, 3) := by decide +kernel
theorem d_M_context_4 : decode b_M_context 4 = .ok (.iload_n 1, 1) := by decide +kernel
theorem d_M_context_5 : decode b_M_context 5 = .ok (.iconst 3, 1) := by decide +kernel
theorem d_M_context_6 : decode b_M_context 6 = .ok (.if_icmp .gt 19, 3) := by decide +kernel
theorem d_M_context_9 : decode b_M_context 9 = .ok (.aload_n 0, 1) := by decide +kernel
theorem d_M_context_10 : decode b_M_context 10 = .ok (.getfield 44, 3) := by decide +kernel
theorem d_M_context_13 : decode b_M_context 13 = .ok (.iload_n 1, 1) := by decide +kernel
theorem d_M_context_14 : decode b_M_context 14 = .ok (.baload, 1) := by decide +kernel
theorem d_M_context_15 : decode b_M_context 15 = .ok (.ifCond .eq 10, 3) := by decide +kernel
theorem d_M_context_18 : decode b_M_context 18 = .ok (.iload_n 2, 1) := by decide +kernel
theorem d_M_context_19 : decode b_M_context 19 = .ok (.invokestatic 69, 3) := by decide +kernel
theorem d_M_context_22 : decode b_M_context 22 = .ok (.ifCond .ne 7, 3) := by decide +kernel
theorem d_M_context_25 : decode b_M_context 25 = .ok (.iconst (-1), 1) := by decide +kernel
theorem d_M_context_26 : decode b_M_context 26 = .ok (.goto 13, 3) := by decide +kernel
theorem d_M_context_29 : decode b_M_context 29 = .ok (.aload_n 0, 1) := by decide +kernel
theorem d_M_context_30 : decode b_M_context 30 = .ok (.getfield 47, 3) := by decide +kernel
theorem d_M_context_33 : decode b_M_context 33 = .ok (.iconst 5, 1) := by decide +kernel
theorem d_M_context_34 : decode b_M_context 34 = .ok (.iload_n 1, 1) := by decide +kernel
theorem d_M_context_35 : decode b_M_context 35 = .ok (.imul, 1) := by decide +kernel
theorem d_M_context_36 : decode b_M_context 36 = .ok (.iload_n 2, 1) := by decide +kernel
theorem d_M_context_37 : decode b_M_context 37 = .ok (.iadd, 1) := by decide +kernel
theorem d_M_context_38 : decode b_M_context 38 = .ok (.iaload, 1) := by decide +kernel
theorem d_M_context_39 : decode b_M_context 39 = .ok (.ireturn, 1) := by decide +kernel
