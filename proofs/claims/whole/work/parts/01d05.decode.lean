theorem d_V_isAtSomeTarget_28 : decode b_V_isAtSomeTarget 28 = .ok (.ifCond .ne 11, 3) := by decide +kernel
theorem d_V_isAtSomeTarget_31 : decode b_V_isAtSomeTarget 31 = .ok (.aload_n 3, 1) := by decide +kernel
theorem d_V_isAtSomeTarget_32 : decode b_V_isAtSomeTarget 32 = .ok (.iload_n 1, 1) := by decide +kernel
theorem d_V_isAtSomeTarget_33 : decode b_V_isAtSomeTarget 33 = .ok (.invokevirtual 193, 3) := by decide +kernel
theorem d_V_isAtSomeTarget_36 : decode b_V_isAtSomeTarget 36 = .ok (.ifCond .eq 5, 3) := by decide +kernel
theorem d_V_isAtSomeTarget_39 : decode b_V_isAtSomeTarget 39 = .ok (.iconst 1, 1) := by decide +kernel
theorem d_V_isAtSomeTarget_40 : decode b_V_isAtSomeTarget 40 = .ok (.ireturn, 1) := by decide +kernel
theorem d_V_isAtSomeTarget_41 : decode b_V_isAtSomeTarget 41 = .ok (.iinc 2 1, 3) := by decide +kernel
theorem d_V_isAtSomeTarget_44 : decode b_V_isAtSomeTarget 44 = .ok (.goto (-42), 3) := by decide +kernel
theorem d_V_isAtSomeTarget_47 : decode b_V_isAtSomeTarget 47 = .ok (.iconst 0, 1) := by decide +kernel
theorem d_V_isAtSomeTarget_48 : decode b_V_isAtSomeTarget 48 = .ok (.ireturn, 1) := by decide +kernel
theorem d_V_keepLatest_0 : decode b_V_keepLatest 0 = .ok (.iconst 0, 1) := by decide +kernel
theorem d_V_keepLatest_1 : decode b_V_keepLatest 1 = .ok (.istore_n 1, 1) := by decide +kernel
theorem d_V_keepLatest_2 : decode b_V_keepLatest 2 = .ok (.iconst 0, 1) := by decide +kernel
theorem d_V_keepLatest_3 : decode b_V_keepLatest 3 = .ok (.istore_n 2, 1) := by decide +kernel
theorem d_V_keepLatest_4 : decode b_V_keepLatest 4 = .ok (.iload_n 2, 1) := by decide +kernel
theorem d_V_keepLatest_5 : decode b_V_keepLatest 5 = .ok (.aload_n 0, 1) := by decide +kernel
theorem d_V_keepLatest_6 : decode b_V_keepLatest 6 = .ok (.getfield 34, 3) := by decide +kernel
theorem d_V_keepLatest_9 : decode b_V_keepLatest 9 = .ok (.getfield 104, 3) := by decide +kernel
theorem d_V_keepLatest_12 : decode b_V_keepLatest 12 = .ok (.if_icmp .ge 49, 3) := by decide +kernel
theorem d_V_keepLatest_15 : decode b_V_keepLatest 15 = .ok (.aload_n 0, 1) := by decide +kernel
theorem d_V_keepLatest_16 : decode b_V_keepLatest 16 = .ok (.getfield 58, 3) := by decide +kernel
theorem d_V_keepLatest_19 : decode b_V_keepLatest 19 = .ok (.iload_n 2, 1) := by decide +kernel
theorem d_V_keepLatest_20 : decode b_V_keepLatest 20 = .ok (.aload_n 0, 1) := by decide +kernel
theorem d_V_keepLatest_21 : decode b_V_keepLatest 21 = .ok (.getfield 65, 3) := by decide +kernel
theorem d_V_keepLatest_24 : decode b_V_keepLatest 24 = .ok (.iload_n 2, 1) := by decide +kernel
theorem d_V_keepLatest_25 : decode b_V_keepLatest 25 = .ok (.baload, 1) := by decide +kernel
theorem d_V_keepLatest_26 : decode b_V_keepLatest 26 = .ok (.ifCond .eq 15, 3) := by decide +kernel
theorem d_V_keepLatest_29 : decode b_V_keepLatest 29 = .ok (.aload_n 0, 1) := by decide +kernel
theorem d_V_keepLatest_30 : decode b_V_keepLatest 30 = .ok (.iload_n 2, 1) := by decide +kernel
theorem d_V_keepLatest_31 : decode b_V_keepLatest 31 = .ok (.invokevirtual 234, 3) := by decide +kernel
theorem d_V_keepLatest_34 : decode b_V_keepLatest 34 = .ok (.ifCond .ne 7, 3) := by decide +kernel
theorem d_V_keepLatest_37 : decode b_V_keepLatest 37 = .ok (.iconst 1, 1) := by decide +kernel
theorem d_V_keepLatest_38 : decode b_V_keepLatest 38 = .ok (.goto 4, 3) := by decide +kernel
theorem d_V_keepLatest_41 : decode b_V_keepLatest 41 = .ok (.iconst 0, 1) := by decide +kernel
theorem d_V_keepLatest_42 : decode b_V_keepLatest 42 = .ok (.bastore, 1) := by decide +kernel
theorem d_V_keepLatest_43 : decode b_V_keepLatest 43 = .ok (.aload_n 0, 1) := by decide +kernel
theorem d_V_keepLatest_44 : decode b_V_keepLatest 44 = .ok (.getfield 58, 3) := by decide +kernel
theorem d_V_keepLatest_47 : decode b_V_keepLatest 47 = .ok (.iload_n 2, 1) := by decide +kernel
theorem d_V_keepLatest_48 : decode b_V_keepLatest 48 = .ok (.baload, 1) := by decide +kernel
theorem d_V_keepLatest_49 : decode b_V_keepLatest 49 = .ok (.ifCond .eq 6, 3) := by decide +kernel
theorem d_V_keepLatest_52 : decode b_V_keepLatest 52 = .ok (.iinc 1 1, 3) := by decide +kernel
theorem d_V_keepLatest_55 : decode b_V_keepLatest 55 = .ok (.iinc 2 1, 3) := by decide +kernel
theorem d_V_keepLatest_58 : decode b_V_keepLatest 58 = .ok (.goto (-54), 3) := by decide +kernel
theorem d_V_keepLatest_61 : decode b_V_keepLatest 61 = .ok (.iload_n 1, 1) := by decide +kernel
theorem d_V_keepLatest_62 : decode b_V_keepLatest 62 = .ok (.ireturn, 1) := by decide +kernel
theorem d_V_isPassedBySeen_0 : decode b_V_isPassedBySeen 0 = .ok (.iconst 0, 1) := by decide +kernel
theorem d_V_isPassedBySeen_1 : decode b_V_isPassedBySeen 1 = .ok (.istore_n 2, 1) := by decide +kernel
theorem d_V_isPassedBySeen_2 : decode b_V_isPassedBySeen 2 = .ok (.iload_n 2, 1) := by decide +kernel
theorem d_V_isPassedBySeen_3 : decode b_V_isPassedBySeen 3 = .ok (.aload_n 0, 1) := by decide +kernel
theorem d_V_isPassedBySeen_4 : decode b_V_isPassedBySeen 4 = .ok (.getfield 34, 3) := by decide +kernel
theorem d_V_isPassedBySeen_7 : decode b_V_isPassedBySeen 7 = .ok (.getfield 104, 3) := by decide +kernel
theorem d_V_isPassedBySeen_10 : decode b_V_isPassedBySeen 10 = .ok (.if_icmp .ge 37, 3) := by decide +kernel
theorem d_V_isPassedBySeen_13 : decode b_V_isPassedBySeen 13 = .ok (.iload_n 2, 1) := by decide +kernel
theorem d_V_isPassedBySeen_14 : decode b_V_isPassedBySeen 14 = .ok (.iload_n 1, 1) := by decide +kernel
theorem d_V_isPassedBySeen_15 : decode b_V_isPassedBySeen 15 = .ok (.if_icmp .eq 26, 3) := by decide +kernel
theorem d_V_isPassedBySeen_18 : decode b_V_isPassedBySeen 18 = .ok (.aload_n 0, 1) := by decide +kernel
theorem d_V_isPassedBySeen_19 : decode b_V_isPassedBySeen 19 = .ok (.getfield 65, 3) := by decide +kernel
theorem d_V_isPassedBySeen_22 : decode b_V_isPassedBySeen 22 = .ok (.iload_n 2, 1) := by decide +kernel
theorem d_V_isPassedBySeen_23 : decode b_V_isPassedBySeen 23 = .ok (.baload, 1) := by decide +kernel
theorem d_V_isPassedBySeen_24 : decode b_V_isPassedBySeen 24 = .ok (.ifCond .eq 17, 3) := by decide +kernel
theorem d_V_isPassedBySeen_27 : decode b_V_isPassedBySeen 27 = .ok (.aload_n 0, 1) := by decide +kernel
theorem d_V_isPassedBySeen_28 : decode b_V_isPassedBySeen 28 = .ok (.getfield 34, 3) := by decide +kernel
theorem d_V_isPassedBySeen_31 : decode b_V_isPassedBySeen 31 = .ok (.iload_n 1, 1) := by decide +kernel
theorem d_V_isPassedBySeen_32 : decode b_V_isPassedBySeen 32 = .ok (.iload_n 2, 1) := by decide +kernel
theorem d_V_isPassedBySeen_33 : decode b_V_isPassedBySeen 33 = .ok (.invokevirtual 237, 3) := by decide +kernel
theorem d_V_isPassedBySeen_36 : decode b_V_isPassedBySeen 36 = .ok (.ifCond .eq 5, 3) := by decide +kernel
theorem d_V_isPassedBySeen_39 : decode b_V_isPassedBySeen 39 = .ok (.iconst 1, 1) := by decide +kernel
theorem d_V_isPassedBySeen_40 : decode b_V_isPassedBySeen 40 = .ok (.ireturn, 1) := by decide +kernel
theorem d_V_isPassedBySeen_41 : decode b_V_isPassedBySeen 41 = .ok (.iinc 2 1, 3) := by decide +kernel
theorem d_V_isPassedBySeen_44 : decode b_V_isPassedBySeen 44 = .ok (.goto (-42), 3) := by decide +kernel
theorem d_V_isPassedBySeen_47 : decode b_V_isPassedBySeen 47 = .ok (.iconst 0, 1) := by decide +kernel
theorem d_V_isPassedBySeen_48 : decode b_V_isPassedBySeen 48 = .ok (.ireturn, 1) := by decide +kernel
theorem d_V_handOverHints_0 : decode b_V_handOverHints 0 = .ok (.aload_n 0, 1) := by decide +kernel
theorem d_V_handOverHints_1 : decode b_V_handOverHints 1 = .ok (.getfield 40, 3) := by decide +kernel
theorem d_V_handOverHints_4 : decode b_V_handOverHints 4 = .ok (.iload_n 1, 1) := by decide +kernel
theorem d_V_handOverHints_5 : decode b_V_handOverHints 5 = .ok (.aaload, 1) := by decide +kernel
theorem d_V_handOverHints_6 : decode b_V_handOverHints 6 = .ok (.astore_n 2, 1) := by decide +kernel
theorem d_V_handOverHints_7 : decode b_V_handOverHints 7 = .ok (.iconst 0, 1) := by decide +kernel
theorem d_V_handOverHints_8 : decode b_V_handOverHints 8 = .ok (.istore_n 3, 1) := by decide +kernel
theorem d_V_handOverHints_9 : decode b_V_handOverHints 9 = .ok (.iconst 0, 1) := by decide +kernel
theorem d_V_handOverHints_10 : decode b_V_handOverHints 10 = .ok (.istore 4, 2) := by decide +kernel
theorem d_V_handOverHints_12 : decode b_V_handOverHints 12 = .ok (.iload 4, 2) := by decide +kernel
theorem d_V_handOverHints_14 : decode b_V_handOverHints 14 = .ok (.aload_n 0, 1) := by decide +kernel
theorem d_V_handOverHints_15 : decode b_V_handOverHints 15 = .ok (.getfield 34, 3) := by decide +kernel
theorem d_V_handOverHints_18 : decode b_V_handOverHints 18 = .ok (.getfield 104, 3) := by decide +kernel
theorem d_V_handOverHints_21 : decode b_V_handOverHints 21 = .ok (.if_icmp .ge 62, 3) := by decide +kernel
theorem d_V_handOverHints_24 : decode b_V_handOverHints 24 = .ok (.aload_n 2, 1) := by decide +kernel
theorem d_V_handOverHints_25 : decode b_V_handOverHints 25 = .ok (.iload 4, 2) := by decide +kernel
theorem d_V_handOverHints_27 : decode b_V_handOverHints 27 = .ok (.invokevirtual 193, 3) := by decide +kernel
theorem d_V_handOverHints_30 : decode b_V_handOverHints 30 = .ok (.ifCond .eq 47, 3) := by decide +kernel
theorem d_V_handOverHints_33 : decode b_V_handOverHints 33 = .ok (.aload_n 0, 1) := by decide +kernel
theorem d_V_handOverHints_34 : decode b_V_handOverHints 34 = .ok (.iload_n 1, 1) := by decide +kernel
theorem d_V_handOverHints_35 : decode b_V_handOverHints 35 = .ok (.aload_n 2, 1) := by decide +kernel
theorem d_V_handOverHints_36 : decode b_V_handOverHints 36 = .ok (.getfield 228, 3) := by decide +kernel
theorem d_V_handOverHints_39 : decode b_V_handOverHints 39 = .ok (.iload 4, 2) := by decide +kernel
theorem d_V_handOverHints_41 : decode b_V_handOverHints 41 = .ok (.iaload, 1) := by decide +kernel
theorem d_V_handOverHints_42 : decode b_V_handOverHints 42 = .ok (.invokevirtual 161, 3) := by decide +kernel
theorem d_V_handOverHints_45 : decode b_V_handOverHints 45 = .ok (.ifCond .eq 32, 3) := by decide +kernel
theorem d_V_handOverHints_48 : decode b_V_handOverHints 48 = .ok (.aload_n 0, 1) := by decide +kernel
theorem d_V_handOverHints_49 : decode b_V_handOverHints 49 = .ok (.getfield 40, 3) := by decide +kernel
theorem d_V_handOverHints_52 : decode b_V_handOverHints 52 = .ok (.aload_n 2, 1) := by decide +kernel
theorem d_V_handOverHints_53 : decode b_V_handOverHints 53 = .ok (.getfield 228, 3) := by decide +kernel
theorem d_V_handOverHints_56 : decode b_V_handOverHints 56 = .ok (.iload 4, 2) := by decide +kernel
theorem d_V_handOverHints_58 : decode b_V_handOverHints 58 = .ok (.iaload, 1) := by decide +kernel
theorem d_V_handOverHints_59 : decode b_V_handOverHints 59 = .ok (.aaload, 1) := by decide +kernel
theorem d_V_handOverHints_60 : decode b_V_handOverHints 60 = .ok (.iload 4, 2) := by decide +kernel
theorem d_V_handOverHints_62 : decode b_V_handOverHints 62 = .ok (.invokevirtual 225, 3) := by decide +kernel
theorem d_V_handOverHints_65 : decode b_V_handOverHints 65 = .ok (.pop, 1) := by decide +kernel
theorem d_V_handOverHints_66 : decode b_V_handOverHints 66 = .ok (.aload_n 2, 1) := by decide +kernel
theorem d_V_handOverHints_67 : decode b_V_handOverHints 67 = .ok (.getfield 228, 3) := by decide +kernel
theorem d_V_handOverHints_70 : decode b_V_handOverHints 70 = .ok (.iload 4, 2) := by decide +kernel
theorem d_V_handOverHints_72 : decode b_V_handOverHints 72 = .ok (.iconst (-1), 1) := by decide +kernel
theorem d_V_handOverHints_73 : decode b_V_handOverHints 73 = .ok (.iastore, 1) := by decide +kernel
theorem d_V_handOverHints_74 : decode b_V_handOverHints 74 = .ok (.iinc 3 1, 3) := by decide +kernel
theorem d_V_handOverHints_77 : decode b_V_handOverHints 77 = .ok (.iinc 4 1, 3) := by decide +kernel
theorem d_V_handOverHints_80 : decode b_V_handOverHints 80 = .ok (.goto (-68), 3) := by decide +kernel
theorem d_V_handOverHints_83 : decode b_V_handOverHints 83 = .ok (.iload_n 3, 1) := by decide +kernel
theorem d_V_handOverHints_84 : decode b_V_handOverHints 84 = .ok (.ireturn, 1) := by decide +kernel
theorem d_V_handOverKey_0 : decode b_V_handOverKey 0 = .ok (.aload_n 0, 1) := by decide +kernel
theorem d_V_handOverKey_1 : decode b_V_handOverKey 1 = .ok (.getfield 40, 3) := by decide +kernel
theorem d_V_handOverKey_4 : decode b_V_handOverKey 4 = .ok (.iload_n 1, 1) := by decide +kernel
theorem d_V_handOverKey_5 : decode b_V_handOverKey 5 = .ok (.aaload, 1) := by decide +kernel
theorem d_V_handOverKey_6 : decode b_V_handOverKey 6 = .ok (.iload_n 2, 1) := by decide +kernel
theorem d_V_handOverKey_7 : decode b_V_handOverKey 7 = .ok (.aload_n 0, 1) := by decide +kernel
theorem d_V_handOverKey_8 : decode b_V_handOverKey 8 = .ok (.getfield 68, 3) := by decide +kernel
theorem d_V_handOverKey_11 : decode b_V_handOverKey 11 = .ok (.invokevirtual 196, 3) := by decide +kernel
theorem d_V_handOverKey_14 : decode b_V_handOverKey 14 = .ok (.istore_n 3, 1) := by decide +kernel
theorem d_V_handOverKey_15 : decode b_V_handOverKey 15 = .ok (.iload_n 3, 1) := by decide +kernel
theorem d_V_handOverKey_16 : decode b_V_handOverKey 16 = .ok (.ifCond .ne 5, 3) := by decide +kernel
theorem d_V_handOverKey_19 : decode b_V_handOverKey 19 = .ok (.iconst 0, 1) := by decide +kernel
theorem d_V_handOverKey_20 : decode b_V_handOverKey 20 = .ok (.ireturn, 1) := by decide +kernel
theorem d_V_handOverKey_21 : decode b_V_handOverKey 21 = .ok (.aload_n 0, 1) := by decide +kernel
theorem d_V_handOverKey_22 : decode b_V_handOverKey 22 = .ok (.getfield 18, 3) := by decide +kernel
theorem d_V_handOverKey_25 : decode b_V_handOverKey 25 = .ok (.iload_n 2, 1) := by decide +kernel
theorem d_V_handOverKey_26 : decode b_V_handOverKey 26 = .ok (.invokevirtual 178, 3) := by decide +kernel
theorem d_V_handOverKey_29 : decode b_V_handOverKey 29 = .ok (.aload_n 0, 1) := by decide +kernel
theorem d_V_handOverKey_30 : decode b_V_handOverKey 30 = .ok (.getfield 18, 3) := by decide +kernel
theorem d_V_handOverKey_33 : decode b_V_handOverKey 33 = .ok (.getfield 181, 3) := by decide +kernel
theorem d_V_handOverKey_36 : decode b_V_handOverKey 36 = .ok (.ifCond .eq 22, 3) := by decide +kernel
theorem d_V_handOverKey_39 : decode b_V_handOverKey 39 = .ok (.aload_n 0, 1) := by decide +kernel
theorem d_V_handOverKey_40 : decode b_V_handOverKey 40 = .ok (.getfield 18, 3) := by decide +kernel
theorem d_V_handOverKey_43 : decode b_V_handOverKey 43 = .ok (.iload_n 1, 1) := by decide +kernel
theorem d_V_handOverKey_44 : decode b_V_handOverKey 44 = .ok (.invokevirtual 240, 3) := by decide +kernel
theorem d_V_handOverKey_47 : decode b_V_handOverKey 47 = .ok (.ifCond .ne 11, 3) := by decide +kernel
theorem d_V_handOverKey_50 : decode b_V_handOverKey 50 = .ok (.aload_n 0, 1) := by decide +kernel
theorem d_V_handOverKey_51 : decode b_V_handOverKey 51 = .ok (.iload_n 1, 1) := by decide +kernel
theorem d_V_handOverKey_52 : decode b_V_handOverKey 52 = .ok (.invokevirtual 243, 3) := by decide +kernel
theorem d_V_handOverKey_55 : decode b_V_handOverKey 55 = .ok (.ifCond .ne 5, 3) := by decide +kernel
theorem d_V_handOverKey_58 : decode b_V_handOverKey 58 = .ok (.iconst 0, 1) := by decide +kernel
theorem d_V_handOverKey_59 : decode b_V_handOverKey 59 = .ok (.ireturn, 1) := by decide +kernel
theorem d_V_handOverKey_60 : decode b_V_handOverKey 60 = .ok (.iconst 0, 1) := by decide +kernel
theorem d_V_handOverKey_61 : decode b_V_handOverKey 61 = .ok (.istore 4, 2) := by decide +kernel
theorem d_V_handOverKey_63 : decode b_V_handOverKey 63 = .ok (.iload 4, 2) := by decide +kernel
theorem d_V_handOverKey_65 : decode b_V_handOverKey 65 = .ok (.aload_n 0, 1) := by decide +kernel
theorem d_V_handOverKey_66 : decode b_V_handOverKey 66 = .ok (.getfield 18, 3) := by decide +kernel
theorem d_V_handOverKey_69 : decode b_V_handOverKey 69 = .ok (.getfield 181, 3) := by decide +kernel
theorem d_V_handOverKey_72 : decode b_V_handOverKey 72 = .ok (.if_icmp .ge 32, 3) := by decide +kernel
theorem d_V_handOverKey_75 : decode b_V_handOverKey 75 = .ok (.aload_n 0, 1) := by decide +kernel
theorem d_V_handOverKey_76 : decode b_V_handOverKey 76 = .ok (.getfield 40, 3) := by decide +kernel
theorem d_V_handOverKey_79 : decode b_V_handOverKey 79 = .ok (.aload_n 0, 1) := by decide +kernel
theorem d_V_handOverKey_80 : decode b_V_handOverKey 80 = .ok (.getfield 18, 3) := by decide +kernel
theorem d_V_handOverKey_83 : decode b_V_handOverKey 83 = .ok (.getfield 184, 3) := by decide +kernel
theorem d_V_handOverKey_86 : decode b_V_handOverKey 86 = .ok (.iload 4, 2) := by decide +kernel
theorem d_V_handOverKey_88 : decode b_V_handOverKey 88 = .ok (.iaload, 1) := by decide +kernel
theorem d_V_handOverKey_89 : decode b_V_handOverKey 89 = .ok (.aaload, 1) := by decide +kernel
theorem d_V_handOverKey_90 : decode b_V_handOverKey 90 = .ok (.aload_n 0, 1) := by decide +kernel
theorem d_V_handOverKey_91 : decode b_V_handOverKey 91 = .ok (.getfield 68, 3) := by decide +kernel
theorem d_V_handOverKey_94 : decode b_V_handOverKey 94 = .ok (.invokevirtual 150, 3) := by decide +kernel
theorem d_V_handOverKey_97 : decode b_V_handOverKey 97 = .ok (.pop, 1) := by decide +kernel
theorem d_V_handOverKey_98 : decode b_V_handOverKey 98 = .ok (.iinc 4 1, 3) := by decide +kernel
theorem d_V_handOverKey_101 : decode b_V_handOverKey 101 = .ok (.goto (-38), 3) := by decide +kernel
theorem d_V_handOverKey_104 : decode b_V_handOverKey 104 = .ok (.aload_n 0, 1) := by decide +kernel
theorem d_V_handOverKey_105 : decode b_V_handOverKey 105 = .ok (.getfield 40, 3) := by decide +kernel
theorem d_V_handOverKey_108 : decode b_V_handOverKey 108 = .ok (.iload_n 1, 1) := by decide +kernel
theorem d_V_handOverKey_109 : decode b_V_handOverKey 109 = .ok (.aaload, 1) := by decide +kernel
theorem d_V_handOverKey_110 : decode b_V_handOverKey 110 = .ok (.aload_n 0, 1) := by decide +kernel
theorem d_V_handOverKey_111 : decode b_V_handOverKey 111 = .ok (.getfield 68, 3) := by decide +kernel
theorem d_V_handOverKey_114 : decode b_V_handOverKey 114 = .ok (.invokevirtual 246, 3) := by decide +kernel
theorem d_V_handOverKey_117 : decode b_V_handOverKey 117 = .ok (.iload_n 3, 1) := by decide +kernel
theorem d_V_handOverKey_118 : decode b_V_handOverKey 118 = .ok (.ireturn, 1) := by decide +kernel
theorem d_V_reachesAllHomes_0 : decode b_V_reachesAllHomes 0 = .ok (.iconst 0, 1) := by decide +kernel
theorem d_V_reachesAllHomes_1 : decode b_V_reachesAllHomes 1 = .ok (.istore_n 2, 1) := by decide +kernel
theorem d_V_reachesAllHomes_2 : decode b_V_reachesAllHomes 2 = .ok (.iload_n 2, 1) := by decide +kernel
theorem d_V_reachesAllHomes_3 : decode b_V_reachesAllHomes 3 = .ok (.aload_n 0, 1) := by decide +kernel
theorem d_V_reachesAllHomes_4 : decode b_V_reachesAllHomes 4 = .ok (.getfield 18, 3) := by decide +kernel
theorem d_V_reachesAllHomes_7 : decode b_V_reachesAllHomes 7 = .ok (.getfield 181, 3) := by decide +kernel
theorem d_V_reachesAllHomes_10 : decode b_V_reachesAllHomes 10 = .ok (.if_icmp .ge 28, 3) := by decide +kernel
theorem d_V_reachesAllHomes_13 : decode b_V_reachesAllHomes 13 = .ok (.aload_n 0, 1) := by decide +kernel
theorem d_V_reachesAllHomes_14 : decode b_V_reachesAllHomes 14 = .ok (.iload_n 1, 1) := by decide +kernel
theorem d_V_reachesAllHomes_15 : decode b_V_reachesAllHomes 15 = .ok (.aload_n 0, 1) := by decide +kernel
theorem d_V_reachesAllHomes_16 : decode b_V_reachesAllHomes 16 = .ok (.getfield 18, 3) := by decide +kernel
theorem d_V_reachesAllHomes_19 : decode b_V_reachesAllHomes 19 = .ok (.getfield 184, 3) := by decide +kernel
theorem d_V_reachesAllHomes_22 : decode b_V_reachesAllHomes 22 = .ok (.iload_n 2, 1) := by decide +kernel
theorem d_V_reachesAllHomes_23 : decode b_V_reachesAllHomes 23 = .ok (.iaload, 1) := by decide +kernel
theorem d_V_reachesAllHomes_24 : decode b_V_reachesAllHomes 24 = .ok (.invokevirtual 161, 3) := by decide +kernel
theorem d_V_reachesAllHomes_27 : decode b_V_reachesAllHomes 27 = .ok (.ifCond .ne 5, 3) := by decide +kernel
theorem d_V_reachesAllHomes_30 : decode b_V_reachesAllHomes 30 = .ok (.iconst 0, 1) := by decide +kernel
theorem d_V_reachesAllHomes_31 : decode b_V_reachesAllHomes 31 = .ok (.ireturn, 1) := by decide +kernel
theorem d_V_reachesAllHomes_32 : decode b_V_reachesAllHomes 32 = .ok (.iinc 2 1, 3) := by decide +kernel
theorem d_V_reachesAllHomes_35 : decode b_V_reachesAllHomes 35 = .ok (.goto (-33), 3) := by decide +kernel
theorem d_V_reachesAllHomes_38 : decode b_V_reachesAllHomes 38 = .ok (.iconst 1, 1) := by decide +kernel
theorem d_V_reachesAllHomes_39 : decode b_V_reachesAllHomes 39 = .ok (.ireturn, 1) := by decide +kernel
theorem d_V_share_0 : decode b_V_share 0 = .ok (.aload_n 0, 1) := by decide +kernel
theorem d_V_share_1 : decode b_V_share 1 = .ok (.getfield 18, 3) := by decide +kernel
theorem d_V_share_4 : decode b_V_share 4 = .ok (.iload_n 3, 1) := by decide +kernel
theorem d_V_share_5 : decode b_V_share 5 = .ok (.invokevirtual 178, 3) := by decide +kernel
theorem d_V_share_8 : decode b_V_share 8 = .ok (.aload_n 0, 1) := by decide +kernel
theorem d_V_share_9 : decode b_V_share 9 = .ok (.getfield 18, 3) := by decide +kernel
theorem d_V_share_12 : decode b_V_share 12 = .ok (.iload_n 1, 1) := by decide +kernel
theorem d_V_share_13 : decode b_V_share 13 = .ok (.invokevirtual 240, 3) := by decide +kernel
theorem d_V_share_16 : decode b_V_share 16 = .ok (.ifCond .eq 18, 3) := by decide +kernel
theorem d_V_share_19 : decode b_V_share 19 = .ok (.aload_n 0, 1) := by decide +kernel
theorem d_V_share_20 : decode b_V_share 20 = .ok (.getfield 18, 3) := by decide +kernel
theorem d_V_share_23 : decode b_V_share 23 = .ok (.iload_n 2, 1) := by decide +kernel
theorem d_V_share_24 : decode b_V_share 24 = .ok (.invokevirtual 240, 3) := by decide +kernel
theorem d_V_share_27 : decode b_V_share 27 = .ok (.ifCond .eq 7, 3) := by decide +kernel
theorem d_V_share_30 : decode b_V_share 30 = .ok (.iconst 1, 1) := by decide +kernel
theorem d_V_share_31 : decode b_V_share 31 = .ok (.goto 4, 3) := by decide +kernel
theorem d_V_share_34 : decode b_V_share 34 = .ok (.iconst 0, 1) := by decide +kernel
theorem d_V_share_35 : decode b_V_share 35 = .ok (.ireturn, 1) := by decide +kernel
theorem d_V_differ_0 : decode b_V_differ 0 = .ok (.iconst 0, 1) := by decide +kernel
theorem d_V_differ_1 : decode b_V_differ 1 = .ok (.istore 4, 2) := by decide +kernel
theorem d_V_differ_3 : decode b_V_differ 3 = .ok (.iload 4, 2) := by decide +kernel
theorem d_V_differ_5 : decode b_V_differ 5 = .ok (.aload_n 0, 1) := by decide +kernel
theorem d_V_differ_6 : decode b_V_differ 6 = .ok (.getfield 34, 3) := by decide +kernel
theorem d_V_differ_9 : decode b_V_differ 9 = .ok (.getfield 104, 3) := by decide +kernel
theorem d_V_differ_12 : decode b_V_differ 12 = .ok (.if_icmp .ge 52, 3) := by decide +kernel
theorem d_V_differ_15 : decode b_V_differ 15 = .ok (.aload_n 0, 1) := by decide +kernel
theorem d_V_differ_16 : decode b_V_differ 16 = .ok (.getfield 34, 3) := by decide +kernel
theorem d_V_differ_19 : decode b_V_differ 19 = .ok (.getfield 200, 3) := by decide +kernel
theorem d_V_differ_22 : decode b_V_differ 22 = .ok (.iload 4, 2) := by decide +kernel
theorem d_V_differ_24 : decode b_V_differ 24 = .ok (.iaload, 1) := by decide +kernel
theorem d_V_differ_25 : decode b_V_differ 25 = .ok (.iload_n 3, 1) := by decide +kernel
theorem d_V_differ_26 : decode b_V_differ 26 = .ok (.if_icmp .ne 32, 3) := by decide +kernel
theorem d_V_differ_29 : decode b_V_differ 29 = .ok (.aload_n 0, 1) := by decide +kernel
theorem d_V_differ_30 : decode b_V_differ 30 = .ok (.getfield 40, 3) := by decide +kernel
theorem d_V_differ_33 : decode b_V_differ 33 = .ok (.iload_n 1, 1) := by decide +kernel
theorem d_V_differ_34 : decode b_V_differ 34 = .ok (.aaload, 1) := by decide +kernel
theorem d_V_differ_35 : decode b_V_differ 35 = .ok (.getfield 190, 3) := by decide +kernel
theorem d_V_differ_38 : decode b_V_differ 38 = .ok (.iload 4, 2) := by decide +kernel
theorem d_V_differ_40 : decode b_V_differ 40 = .ok (.baload, 1) := by decide +kernel
theorem d_V_differ_41 : decode b_V_differ 41 = .ok (.aload_n 0, 1) := by decide +kernel
theorem d_V_differ_42 : decode b_V_differ 42 = .ok (.getfield 40, 3) := by decide +kernel
theorem d_V_differ_45 : decode b_V_differ 45 = .ok (.iload_n 2, 1) := by decide +kernel
theorem d_V_differ_46 : decode b_V_differ 46 = .ok (.aaload, 1) := by decide +kernel
theorem d_V_differ_47 : decode b_V_differ 47 = .ok (.getfield 190, 3) := by decide +kernel
theorem d_V_differ_50 : decode b_V_differ 50 = .ok (.iload 4, 2) := by decide +kernel
theorem d_V_differ_52 : decode b_V_differ 52 = .ok (.baload, 1) := by decide +kernel
theorem d_V_differ_53 : decode b_V_differ 53 = .ok (.if_icmp .eq 5, 3) := by decide +kernel
theorem d_V_differ_56 : decode b_V_differ 56 = .ok (.iconst 1, 1) := by decide +kernel
theorem d_V_differ_57 : decode b_V_differ 57 = .ok (.ireturn, 1) := by decide +kernel
theorem d_V_differ_58 : decode b_V_differ 58 = .ok (.iinc 4 1, 3) := by decide +kernel
theorem d_V_differ_61 : decode b_V_differ 61 = .ok (.goto (-58), 3) := by decide +kernel
theorem d_V_differ_64 : decode b_V_differ 64 = .ok (.iconst 0, 1) := by decide +kernel
theorem d_V_differ_65 : decode b_V_differ 65 = .ok (.ireturn, 1) := by decide +kernel
theorem d_V_exchange_0 : decode b_V_exchange 0 = .ok (.aload_n 0, 1) := by decide +kernel
theorem d_V_exchange_1 : decode b_V_exchange 1 = .ok (.getfield 40, 3) := by decide +kernel
theorem d_V_exchange_4 : decode b_V_exchange 4 = .ok (.iload_n 1, 1) := by decide +kernel
theorem d_V_exchange_5 : decode b_V_exchange 5 = .ok (.aaload, 1) := by decide +kernel
theorem d_V_exchange_6 : decode b_V_exchange 6 = .ok (.iload_n 3, 1) := by decide +kernel
theorem d_V_exchange_7 : decode b_V_exchange 7 = .ok (.aload_n 0, 1) := by decide +kernel
theorem d_V_exchange_8 : decode b_V_exchange 8 = .ok (.getfield 68, 3) := by decide +kernel
theorem d_V_exchange_11 : decode b_V_exchange 11 = .ok (.invokevirtual 196, 3) := by decide +kernel
theorem d_V_exchange_14 : decode b_V_exchange 14 = .ok (.pop, 1) := by decide +kernel
theorem d_V_exchange_15 : decode b_V_exchange 15 = .ok (.aload_n 0, 1) := by decide +kernel
theorem d_V_exchange_16 : decode b_V_exchange 16 = .ok (.getfield 40, 3) := by decide +kernel
theorem d_V_exchange_19 : decode b_V_exchange 19 = .ok (.iload_n 2, 1) := by decide +kernel
theorem d_V_exchange_20 : decode b_V_exchange 20 = .ok (.aaload, 1) := by decide +kernel
theorem d_V_exchange_21 : decode b_V_exchange 21 = .ok (.iload_n 3, 1) := by decide +kernel
theorem d_V_exchange_22 : decode b_V_exchange 22 = .ok (.aload_n 0, 1) := by decide +kernel
theorem d_V_exchange_23 : decode b_V_exchange 23 = .ok (.getfield 71, 3) := by decide +kernel
theorem d_V_exchange_26 : decode b_V_exchange 26 = .ok (.invokevirtual 196, 3) := by decide +kernel
theorem d_V_exchange_29 : decode b_V_exchange 29 = .ok (.pop, 1) := by decide +kernel
theorem d_V_exchange_30 : decode b_V_exchange 30 = .ok (.aload_n 0, 1) := by decide +kernel
theorem d_V_exchange_31 : decode b_V_exchange 31 = .ok (.getfield 40, 3) := by decide +kernel
theorem d_V_exchange_34 : decode b_V_exchange 34 = .ok (.iload_n 1, 1) := by decide +kernel
theorem d_V_exchange_35 : decode b_V_exchange 35 = .ok (.aaload, 1) := by decide +kernel
theorem d_V_exchange_36 : decode b_V_exchange 36 = .ok (.aload_n 0, 1) := by decide +kernel
theorem d_V_exchange_37 : decode b_V_exchange 37 = .ok (.getfield 71, 3) := by decide +kernel
theorem d_V_exchange_40 : decode b_V_exchange 40 = .ok (.invokevirtual 150, 3) := by decide +kernel
theorem d_V_exchange_43 : decode b_V_exchange 43 = .ok (.pop, 1) := by decide +kernel
theorem d_V_exchange_44 : decode b_V_exchange 44 = .ok (.aload_n 0, 1) := by decide +kernel
theorem d_V_exchange_45 : decode b_V_exchange 45 = .ok (.getfield 40, 3) := by decide +kernel
theorem d_V_exchange_48 : decode b_V_exchange 48 = .ok (.iload_n 2, 1) := by decide +kernel
theorem d_V_exchange_49 : decode b_V_exchange 49 = .ok (.aaload, 1) := by decide +kernel
theorem d_V_exchange_50 : decode b_V_exchange 50 = .ok (.aload_n 0, 1) := by decide +kernel
theorem d_V_exchange_51 : decode b_V_exchange 51 = .ok (.getfield 68, 3) := by decide +kernel
theorem d_V_exchange_54 : decode b_V_exchange 54 = .ok (.invokevirtual 150, 3) := by decide +kernel
theorem d_V_exchange_57 : decode b_V_exchange 57 = .ok (.pop, 1) := by decide +kernel
theorem d_V_exchange_58 : decode b_V_exchange 58 = .ok (.return_, 1) := by decide +kernel
theorem d_V_countComparedParts_0 : decode b_V_countComparedParts 0 = .ok (.iconst 1, 1) := by decide +kernel
theorem d_V_countComparedParts_1 : decode b_V_countComparedParts 1 = .ok (.istore_n 1, 1) := by decide +kernel
theorem d_V_countComparedParts_2 : decode b_V_countComparedParts 2 = .ok (.bipush 16, 2) := by decide +kernel
theorem d_V_countComparedParts_4 : decode b_V_countComparedParts 4 = .ok (.istore_n 2, 1) := by decide +kernel
theorem d_V_countComparedParts_5 : decode b_V_countComparedParts 5 = .ok (.iload_n 2, 1) := by decide +kernel
theorem d_V_countComparedParts_6 : decode b_V_countComparedParts 6 = .ok (.ifCond .le 70, 3) := by decide +kernel
theorem d_V_countComparedParts_9 : decode b_V_countComparedParts 9 = .ok (.iconst 0, 1) := by decide +kernel
theorem d_V_countComparedParts_10 : decode b_V_countComparedParts 10 = .ok (.istore_n 3, 1) := by decide +kernel
theorem d_V_countComparedParts_11 : decode b_V_countComparedParts 11 = .ok (.iload_n 3, 1) := by decide +kernel
theorem d_V_countComparedParts_12 : decode b_V_countComparedParts 12 = .ok (.iload_n 2, 1) := by decide +kernel
theorem d_V_countComparedParts_13 : decode b_V_countComparedParts 13 = .ok (.if_icmp .ge 56, 3) := by decide +kernel
theorem d_V_countComparedParts_16 : decode b_V_countComparedParts 16 = .ok (.aload_n 0, 1) := by decide +kernel
theorem d_V_countComparedParts_17 : decode b_V_countComparedParts 17 = .ok (.getfield 74, 3) := by decide +kernel
theorem d_V_countComparedParts_20 : decode b_V_countComparedParts 20 = .ok (.iload_n 3, 1) := by decide +kernel
theorem d_V_countComparedParts_21 : decode b_V_countComparedParts 21 = .ok (.aload_n 0, 1) := by decide +kernel
theorem d_V_countComparedParts_22 : decode b_V_countComparedParts 22 = .ok (.getfield 74, 3) := by decide +kernel
theorem d_V_countComparedParts_25 : decode b_V_countComparedParts 25 = .ok (.iconst 2, 1) := by decide +kernel
theorem d_V_countComparedParts_26 : decode b_V_countComparedParts 26 = .ok (.iload_n 3, 1) := by decide +kernel
theorem d_V_countComparedParts_27 : decode b_V_countComparedParts 27 = .ok (.imul, 1) := by decide +kernel
theorem d_V_countComparedParts_28 : decode b_V_countComparedParts 28 = .ok (.baload, 1) := by decide +kernel
theorem d_V_countComparedParts_29 : decode b_V_countComparedParts 29 = .ok (.ifCond .ne 16, 3) := by decide +kernel
theorem d_V_countComparedParts_32 : decode b_V_countComparedParts 32 = .ok (.aload_n 0, 1) := by decide +kernel
theorem d_V_countComparedParts_33 : decode b_V_countComparedParts 33 = .ok (.getfield 74, 3) := by decide +kernel
theorem d_V_countComparedParts_36 : decode b_V_countComparedParts 36 = .ok (.iconst 2, 1) := by decide +kernel
theorem d_V_countComparedParts_37 : decode b_V_countComparedParts 37 = .ok (.iload_n 3, 1) := by decide +kernel
theorem d_V_countComparedParts_38 : decode b_V_countComparedParts 38 = .ok (.imul, 1) := by decide +kernel
theorem d_V_countComparedParts_39 : decode b_V_countComparedParts 39 = .ok (.iconst 1, 1) := by decide +kernel
theorem d_V_countComparedParts_40 : decode b_V_countComparedParts 40 = .ok (.iadd, 1) := by decide +kernel
theorem d_V_countComparedParts_41 : decode b_V_countComparedParts 41 = .ok (.baload, 1) := by decide +kernel
theorem d_V_countComparedParts_42 : decode b_V_countComparedParts 42 = .ok (.ifCond .eq 7, 3) := by decide +kernel
theorem d_V_countComparedParts_45 : decode b_V_countComparedParts 45 = .ok (.iconst 1, 1) := by decide +kernel
theorem d_V_countComparedParts_46 : decode b_V_countComparedParts 46 = .ok (.goto 4, 3) := by decide +kernel
theorem d_V_countComparedParts_49 : decode b_V_countComparedParts 49 = .ok (.iconst 0, 1) := by decide +kernel
theorem d_V_countComparedParts_50 : decode b_V_countComparedParts 50 = .ok (.bastore, 1) := by decide +kernel
theorem d_V_countComparedParts_51 : decode b_V_countComparedParts 51 = .ok (.aload_n 0, 1) := by decide +kernel
theorem d_V_countComparedParts_52 : decode b_V_countComparedParts 52 = .ok (.getfield 74, 3) := by decide +kernel
theorem d_V_countComparedParts_55 : decode b_V_countComparedParts 55 = .ok (.iload_n 3, 1) := by decide +kernel
theorem d_V_countComparedParts_56 : decode b_V_countComparedParts 56 = .ok (.baload, 1) := by decide +kernel
theorem d_V_countComparedParts_57 : decode b_V_countComparedParts 57 = .ok (.ifCond .eq 6, 3) := by decide +kernel
theorem d_V_countComparedParts_60 : decode b_V_countComparedParts 60 = .ok (.iinc 1 2, 3) := by decide +kernel
theorem d_V_countComparedParts_63 : decode b_V_countComparedParts 63 = .ok (.iinc 3 1, 3) := by decide +kernel
theorem d_V_countComparedParts_66 : decode b_V_countComparedParts 66 = .ok (.goto (-55), 3) := by decide +kernel
theorem d_V_countComparedParts_69 : decode b_V_countComparedParts 69 = .ok (.iload_n 2, 1) := by decide +kernel
theorem d_V_countComparedParts_70 : decode b_V_countComparedParts 70 = .ok (.iconst 2, 1) := by decide +kernel
theorem d_V_countComparedParts_71 : decode b_V_countComparedParts 71 = .ok (.idiv, 1) := by decide +kernel
theorem d_V_countComparedParts_72 : decode b_V_countComparedParts 72 = .ok (.istore_n 2, 1) := by decide +kernel
theorem d_V_countComparedParts_73 : decode b_V_countComparedParts 73 = .ok (.goto (-68), 3) := by decide +kernel
theorem d_V_countComparedParts_76 : decode b_V_countComparedParts 76 = .ok (.iload_n 1, 1) := by decide +kernel
theorem d_V_countComparedParts_77 : decode b_V_countComparedParts 77 = .ok (.ireturn, 1) := by decide +kernel
