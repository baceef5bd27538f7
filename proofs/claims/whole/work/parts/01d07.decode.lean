theorem d_M_standsFor_30 : decode b_M_standsFor 30 = .ok (.goto 6, 3) := by decide +kernel
theorem d_M_standsFor_33 : decode b_M_standsFor 33 = .ok (.iload_n 3, 1) := by decide +kernel
theorem d_M_standsFor_34 : decode b_M_standsFor 34 = .ok (.iconst 1, 1) := by decide +kernel
theorem d_M_standsFor_35 : decode b_M_standsFor 35 = .ok (.iadd, 1) := by decide +kernel
theorem d_M_standsFor_36 : decode b_M_standsFor 36 = .ok (.istore_n 3, 1) := by decide +kernel
theorem d_M_standsFor_37 : decode b_M_standsFor 37 = .ok (.iinc 4 1, 3) := by decide +kernel
theorem d_M_standsFor_40 : decode b_M_standsFor 40 = .ok (.goto (-35), 3) := by decide +kernel
theorem d_M_standsFor_43 : decode b_M_standsFor 43 = .ok (.aload_n 0, 1) := by decide +kernel
theorem d_M_standsFor_44 : decode b_M_standsFor 44 = .ok (.aload_n 0, 1) := by decide +kernel
theorem d_M_standsFor_45 : decode b_M_standsFor 45 = .ok (.getfield 56, 3) := by decide +kernel
theorem d_M_standsFor_48 : decode b_M_standsFor 48 = .ok (.iload_n 2, 1) := by decide +kernel
theorem d_M_standsFor_49 : decode b_M_standsFor 49 = .ok (.iaload, 1) := by decide +kernel
theorem d_M_standsFor_50 : decode b_M_standsFor 50 = .ok (.invokevirtual 76, 3) := by decide +kernel
theorem d_M_standsFor_53 : decode b_M_standsFor 53 = .ok (.aload_n 0, 1) := by decide +kernel
theorem d_M_standsFor_54 : decode b_M_standsFor 54 = .ok (.getfield 59, 3) := by decide +kernel
theorem d_M_standsFor_57 : decode b_M_standsFor 57 = .ok (.if_icmp .ge 5, 3) := by decide +kernel
theorem d_M_standsFor_60 : decode b_M_standsFor 60 = .ok (.iconst (-1), 1) := by decide +kernel
theorem d_M_standsFor_61 : decode b_M_standsFor 61 = .ok (.ireturn, 1) := by decide +kernel
theorem d_M_standsFor_62 : decode b_M_standsFor 62 = .ok (.iconst 0, 1) := by decide +kernel
theorem d_M_standsFor_63 : decode b_M_standsFor 63 = .ok (.istore 4, 2) := by decide +kernel
theorem d_M_standsFor_65 : decode b_M_standsFor 65 = .ok (.iload 4, 2) := by decide +kernel
theorem d_M_standsFor_67 : decode b_M_standsFor 67 = .ok (.aload_n 0, 1) := by decide +kernel
theorem d_M_standsFor_68 : decode b_M_standsFor 68 = .ok (.invokevirtual 87, 3) := by decide +kernel
theorem d_M_standsFor_71 : decode b_M_standsFor 71 = .ok (.if_icmp .ge 44, 3) := by decide +kernel
theorem d_M_standsFor_74 : decode b_M_standsFor 74 = .ok (.aload_n 0, 1) := by decide +kernel
theorem d_M_standsFor_75 : decode b_M_standsFor 75 = .ok (.iload_n 1, 1) := by decide +kernel
theorem d_M_standsFor_76 : decode b_M_standsFor 76 = .ok (.aload_n 0, 1) := by decide +kernel
theorem d_M_standsFor_77 : decode b_M_standsFor 77 = .ok (.getfield 53, 3) := by decide +kernel
theorem d_M_standsFor_80 : decode b_M_standsFor 80 = .ok (.iload 4, 2) := by decide +kernel
theorem d_M_standsFor_82 : decode b_M_standsFor 82 = .ok (.iaload, 1) := by decide +kernel
theorem d_M_standsFor_83 : decode b_M_standsFor 83 = .ok (.invokevirtual 94, 3) := by decide +kernel
theorem d_M_standsFor_86 : decode b_M_standsFor 86 = .ok (.ifCond .eq 7, 3) := by decide +kernel
theorem d_M_standsFor_89 : decode b_M_standsFor 89 = .ok (.iload_n 3, 1) := by decide +kernel
theorem d_M_standsFor_90 : decode b_M_standsFor 90 = .ok (.goto 6, 3) := by decide +kernel
theorem d_M_standsFor_93 : decode b_M_standsFor 93 = .ok (.iload_n 3, 1) := by decide +kernel
theorem d_M_standsFor_94 : decode b_M_standsFor 94 = .ok (.iconst 1, 1) := by decide +kernel
theorem d_M_standsFor_95 : decode b_M_standsFor 95 = .ok (.isub, 1) := by decide +kernel
theorem d_M_standsFor_96 : decode b_M_standsFor 96 = .ok (.istore_n 3, 1) := by decide +kernel
theorem d_M_standsFor_97 : decode b_M_standsFor 97 = .ok (.iload_n 3, 1) := by decide +kernel
theorem d_M_standsFor_98 : decode b_M_standsFor 98 = .ok (.ifCond .ne 11, 3) := by decide +kernel
theorem d_M_standsFor_101 : decode b_M_standsFor 101 = .ok (.aload_n 0, 1) := by decide +kernel
theorem d_M_standsFor_102 : decode b_M_standsFor 102 = .ok (.getfield 53, 3) := by decide +kernel
theorem d_M_standsFor_105 : decode b_M_standsFor 105 = .ok (.iload 4, 2) := by decide +kernel
theorem d_M_standsFor_107 : decode b_M_standsFor 107 = .ok (.iaload, 1) := by decide +kernel
theorem d_M_standsFor_108 : decode b_M_standsFor 108 = .ok (.ireturn, 1) := by decide +kernel
theorem d_M_standsFor_109 : decode b_M_standsFor 109 = .ok (.iinc 4 1, 3) := by decide +kernel
theorem d_M_standsFor_112 : decode b_M_standsFor 112 = .ok (.goto (-47), 3) := by decide +kernel
theorem d_M_standsFor_115 : decode b_M_standsFor 115 = .ok (.iconst (-1), 1) := by decide +kernel
theorem d_M_standsFor_116 : decode b_M_standsFor 116 = .ok (.ireturn, 1) := by decide +kernel
theorem d_M_below_0 : decode b_M_below 0 = .ok (.iconst 1, 1) := by decide +kernel
theorem d_M_below_1 : decode b_M_below 1 = .ok (.istore_n 3, 1) := by decide +kernel
theorem d_M_below_2 : decode b_M_below 2 = .ok (.iconst 0, 1) := by decide +kernel
theorem d_M_below_3 : decode b_M_below 3 = .ok (.istore 4, 2) := by decide +kernel
theorem d_M_below_5 : decode b_M_below 5 = .ok (.iload 4, 2) := by decide +kernel
theorem d_M_below_7 : decode b_M_below 7 = .ok (.iconst 5, 1) := by decide +kernel
theorem d_M_below_8 : decode b_M_below 8 = .ok (.if_icmp .ge 44, 3) := by decide +kernel
theorem d_M_below_11 : decode b_M_below 11 = .ok (.iload_n 3, 1) := by decide +kernel
theorem d_M_below_12 : decode b_M_below 12 = .ok (.ifCond .eq 32, 3) := by decide +kernel
theorem d_M_below_15 : decode b_M_below 15 = .ok (.aload_n 0, 1) := by decide +kernel
theorem d_M_below_16 : decode b_M_below 16 = .ok (.getfield 29, 3) := by decide +kernel
theorem d_M_below_19 : decode b_M_below 19 = .ok (.iconst 5, 1) := by decide +kernel
theorem d_M_below_20 : decode b_M_below 20 = .ok (.iload_n 1, 1) := by decide +kernel
theorem d_M_below_21 : decode b_M_below 21 = .ok (.imul, 1) := by decide +kernel
theorem d_M_below_22 : decode b_M_below 22 = .ok (.iload 4, 2) := by decide +kernel
theorem d_M_below_24 : decode b_M_below 24 = .ok (.iadd, 1) := by decide +kernel
theorem d_M_below_25 : decode b_M_below 25 = .ok (.iaload, 1) := by decide +kernel
theorem d_M_below_26 : decode b_M_below 26 = .ok (.aload_n 0, 1) := by decide +kernel
theorem d_M_below_27 : decode b_M_below 27 = .ok (.getfield 29, 3) := by decide +kernel
theorem d_M_below_30 : decode b_M_below 30 = .ok (.iconst 5, 1) := by decide +kernel
theorem d_M_below_31 : decode b_M_below 31 = .ok (.iload_n 2, 1) := by decide +kernel
theorem d_M_below_32 : decode b_M_below 32 = .ok (.imul, 1) := by decide +kernel
theorem d_M_below_33 : decode b_M_below 33 = .ok (.iload 4, 2) := by decide +kernel
theorem d_M_below_35 : decode b_M_below 35 = .ok (.iadd, 1) := by decide +kernel
theorem d_M_below_36 : decode b_M_below 36 = .ok (.iaload, 1) := by decide +kernel
theorem d_M_below_37 : decode b_M_below 37 = .ok (.if_icmp .gt 7, 3) := by decide +kernel
theorem d_M_below_40 : decode b_M_below 40 = .ok (.iconst 1, 1) := by decide +kernel
theorem d_M_below_41 : decode b_M_below 41 = .ok (.goto 4, 3) := by decide +kernel
theorem d_M_below_44 : decode b_M_below 44 = .ok (.iconst 0, 1) := by decide +kernel
theorem d_M_below_45 : decode b_M_below 45 = .ok (.istore_n 3, 1) := by decide +kernel
theorem d_M_below_46 : decode b_M_below 46 = .ok (.iinc 4 1, 3) := by decide +kernel
theorem d_M_below_49 : decode b_M_below 49 = .ok (.goto (-44), 3) := by decide +kernel
theorem d_M_below_52 : decode b_M_below 52 = .ok (.iload_n 3, 1) := by decide +kernel
theorem d_M_below_53 : decode b_M_below 53 = .ok (.ireturn, 1) := by decide +kernel
theorem d_M_take_0 : decode b_M_take 0 = .ok (.iconst 0, 1) := by decide +kernel
theorem d_M_take_1 : decode b_M_take 1 = .ok (.istore_n 3, 1) := by decide +kernel
theorem d_M_take_2 : decode b_M_take 2 = .ok (.iload_n 3, 1) := by decide +kernel
theorem d_M_take_3 : decode b_M_take 3 = .ok (.aload_n 0, 1) := by decide +kernel
theorem d_M_take_4 : decode b_M_take 4 = .ok (.getfield 102, 3) := by decide +kernel
theorem d_M_take_7 : decode b_M_take 7 = .ok (.if_icmp .ge 48, 3) := by decide +kernel
theorem d_M_take_10 : decode b_M_take 10 = .ok (.aload_n 0, 1) := by decide +kernel
theorem d_M_take_11 : decode b_M_take 11 = .ok (.getfield 32, 3) := by decide +kernel
theorem d_M_take_14 : decode b_M_take 14 = .ok (.bipush 40, 2) := by decide +kernel
theorem d_M_take_16 : decode b_M_take 16 = .ok (.iload_n 1, 1) := by decide +kernel
theorem d_M_take_17 : decode b_M_take 17 = .ok (.imul, 1) := by decide +kernel
theorem d_M_take_18 : decode b_M_take 18 = .ok (.iload_n 3, 1) := by decide +kernel
theorem d_M_take_19 : decode b_M_take 19 = .ok (.iadd, 1) := by decide +kernel
theorem d_M_take_20 : decode b_M_take 20 = .ok (.baload, 1) := by decide +kernel
theorem d_M_take_21 : decode b_M_take 21 = .ok (.ifCond .eq 28, 3) := by decide +kernel
theorem d_M_take_24 : decode b_M_take 24 = .ok (.aload_n 0, 1) := by decide +kernel
theorem d_M_take_25 : decode b_M_take 25 = .ok (.getfield 20, 3) := by decide +kernel
theorem d_M_take_28 : decode b_M_take 28 = .ok (.iload_n 3, 1) := by decide +kernel
theorem d_M_take_29 : decode b_M_take 29 = .ok (.iaload, 1) := by decide +kernel
theorem d_M_take_30 : decode b_M_take 30 = .ok (.aload_n 0, 1) := by decide +kernel
theorem d_M_take_31 : decode b_M_take 31 = .ok (.getfield 20, 3) := by decide +kernel
theorem d_M_take_34 : decode b_M_take 34 = .ok (.iload_n 2, 1) := by decide +kernel
theorem d_M_take_35 : decode b_M_take 35 = .ok (.iaload, 1) := by decide +kernel
theorem d_M_take_36 : decode b_M_take 36 = .ok (.if_icmp .ne 13, 3) := by decide +kernel
theorem d_M_take_39 : decode b_M_take 39 = .ok (.aload_n 0, 1) := by decide +kernel
theorem d_M_take_40 : decode b_M_take 40 = .ok (.iload_n 2, 1) := by decide +kernel
theorem d_M_take_41 : decode b_M_take 41 = .ok (.iload_n 3, 1) := by decide +kernel
theorem d_M_take_42 : decode b_M_take 42 = .ok (.invokevirtual 105, 3) := by decide +kernel
theorem d_M_take_45 : decode b_M_take 45 = .ok (.ifCond .eq 4, 3) := by decide +kernel
theorem d_M_take_48 : decode b_M_take 48 = .ok (.return_, 1) := by decide +kernel
theorem d_M_take_49 : decode b_M_take 49 = .ok (.iinc 3 1, 3) := by decide +kernel
theorem d_M_take_52 : decode b_M_take 52 = .ok (.goto (-50), 3) := by decide +kernel
theorem d_M_take_55 : decode b_M_take 55 = .ok (.iconst 0, 1) := by decide +kernel
theorem d_M_take_56 : decode b_M_take 56 = .ok (.istore_n 3, 1) := by decide +kernel
theorem d_M_take_57 : decode b_M_take 57 = .ok (.iload_n 3, 1) := by decide +kernel
theorem d_M_take_58 : decode b_M_take 58 = .ok (.aload_n 0, 1) := by decide +kernel
theorem d_M_take_59 : decode b_M_take 59 = .ok (.getfield 102, 3) := by decide +kernel
theorem d_M_take_62 : decode b_M_take 62 = .ok (.if_icmp .ge 45, 3) := by decide +kernel
theorem d_M_take_65 : decode b_M_take 65 = .ok (.aload_n 0, 1) := by decide +kernel
theorem d_M_take_66 : decode b_M_take 66 = .ok (.getfield 20, 3) := by decide +kernel
theorem d_M_take_69 : decode b_M_take 69 = .ok (.iload_n 3, 1) := by decide +kernel
theorem d_M_take_70 : decode b_M_take 70 = .ok (.iaload, 1) := by decide +kernel
theorem d_M_take_71 : decode b_M_take 71 = .ok (.aload_n 0, 1) := by decide +kernel
theorem d_M_take_72 : decode b_M_take 72 = .ok (.getfield 20, 3) := by decide +kernel
theorem d_M_take_75 : decode b_M_take 75 = .ok (.iload_n 2, 1) := by decide +kernel
theorem d_M_take_76 : decode b_M_take 76 = .ok (.iaload, 1) := by decide +kernel
theorem d_M_take_77 : decode b_M_take 77 = .ok (.if_icmp .ne 24, 3) := by decide +kernel
theorem d_M_take_80 : decode b_M_take 80 = .ok (.aload_n 0, 1) := by decide +kernel
theorem d_M_take_81 : decode b_M_take 81 = .ok (.iload_n 3, 1) := by decide +kernel
theorem d_M_take_82 : decode b_M_take 82 = .ok (.iload_n 2, 1) := by decide +kernel
theorem d_M_take_83 : decode b_M_take 83 = .ok (.invokevirtual 105, 3) := by decide +kernel
theorem d_M_take_86 : decode b_M_take 86 = .ok (.ifCond .eq 15, 3) := by decide +kernel
theorem d_M_take_89 : decode b_M_take 89 = .ok (.aload_n 0, 1) := by decide +kernel
theorem d_M_take_90 : decode b_M_take 90 = .ok (.getfield 32, 3) := by decide +kernel
theorem d_M_take_93 : decode b_M_take 93 = .ok (.bipush 40, 2) := by decide +kernel
theorem d_M_take_95 : decode b_M_take 95 = .ok (.iload_n 1, 1) := by decide +kernel
theorem d_M_take_96 : decode b_M_take 96 = .ok (.imul, 1) := by decide +kernel
theorem d_M_take_97 : decode b_M_take 97 = .ok (.iload_n 3, 1) := by decide +kernel
theorem d_M_take_98 : decode b_M_take 98 = .ok (.iadd, 1) := by decide +kernel
theorem d_M_take_99 : decode b_M_take 99 = .ok (.iconst 0, 1) := by decide +kernel
theorem d_M_take_100 : decode b_M_take 100 = .ok (.bastore, 1) := by decide +kernel
theorem d_M_take_101 : decode b_M_take 101 = .ok (.iinc 3 1, 3) := by decide +kernel
theorem d_M_take_104 : decode b_M_take 104 = .ok (.goto (-47), 3) := by decide +kernel
theorem d_M_take_107 : decode b_M_take 107 = .ok (.aload_n 0, 1) := by decide +kernel
theorem d_M_take_108 : decode b_M_take 108 = .ok (.getfield 32, 3) := by decide +kernel
theorem d_M_take_111 : decode b_M_take 111 = .ok (.bipush 40, 2) := by decide +kernel
theorem d_M_take_113 : decode b_M_take 113 = .ok (.iload_n 1, 1) := by decide +kernel
theorem d_M_take_114 : decode b_M_take 114 = .ok (.imul, 1) := by decide +kernel
theorem d_M_take_115 : decode b_M_take 115 = .ok (.iload_n 2, 1) := by decide +kernel
theorem d_M_take_116 : decode b_M_take 116 = .ok (.iadd, 1) := by decide +kernel
theorem d_M_take_117 : decode b_M_take 117 = .ok (.iconst 1, 1) := by decide +kernel
theorem d_M_take_118 : decode b_M_take 118 = .ok (.bastore, 1) := by decide +kernel
theorem d_M_take_119 : decode b_M_take 119 = .ok (.return_, 1) := by decide +kernel
theorem d_M_put_0 : decode b_M_put 0 = .ok (.iload_n 1, 1) := by decide +kernel
theorem d_M_put_1 : decode b_M_put 1 = .ok (.invokestatic 69, 3) := by decide +kernel
theorem d_M_put_4 : decode b_M_put 4 = .ok (.ifCond .eq 48, 3) := by decide +kernel
theorem d_M_put_7 : decode b_M_put 7 = .ok (.iload_n 2, 1) := by decide +kernel
theorem d_M_put_8 : decode b_M_put 8 = .ok (.invokestatic 84, 3) := by decide +kernel
theorem d_M_put_11 : decode b_M_put 11 = .ok (.ifCond .eq 41, 3) := by decide +kernel
theorem d_M_put_14 : decode b_M_put 14 = .ok (.iload 4, 2) := by decide +kernel
theorem d_M_put_16 : decode b_M_put 16 = .ok (.iconst (-1), 1) := by decide +kernel
theorem d_M_put_17 : decode b_M_put 17 = .ok (.if_icmp .lt 35, 3) := by decide +kernel
theorem d_M_put_20 : decode b_M_put 20 = .ok (.iload 4, 2) := by decide +kernel
theorem d_M_put_22 : decode b_M_put 22 = .ok (.iconst 3, 1) := by decide +kernel
theorem d_M_put_23 : decode b_M_put 23 = .ok (.if_icmp .gt 29, 3) := by decide +kernel
theorem d_M_put_26 : decode b_M_put 26 = .ok (.iload 4, 2) := by decide +kernel
theorem d_M_put_28 : decode b_M_put 28 = .ok (.ifCond .lt 26, 3) := by decide +kernel
theorem d_M_put_31 : decode b_M_put 31 = .ok (.aload_n 0, 1) := by decide +kernel
theorem d_M_put_32 : decode b_M_put 32 = .ok (.getfield 44, 3) := by decide +kernel
theorem d_M_put_35 : decode b_M_put 35 = .ok (.iload 4, 2) := by decide +kernel
theorem d_M_put_37 : decode b_M_put 37 = .ok (.baload, 1) := by decide +kernel
theorem d_M_put_38 : decode b_M_put 38 = .ok (.ifCond .eq 16, 3) := by decide +kernel
theorem d_M_put_41 : decode b_M_put 41 = .ok (.aload_n 0, 1) := by decide +kernel
theorem d_M_put_42 : decode b_M_put 42 = .ok (.getfield 41, 3) := by decide +kernel
theorem d_M_put_45 : decode b_M_put 45 = .ok (.iload 4, 2) := by decide +kernel
theorem d_M_put_47 : decode b_M_put 47 = .ok (.iaload, 1) := by decide +kernel
theorem d_M_put_48 : decode b_M_put 48 = .ok (.iload_n 2, 1) := by decide +kernel
theorem d_M_put_49 : decode b_M_put 49 = .ok (.if_icmp .eq 5, 3) := by decide +kernel
theorem d_M_put_52 : decode b_M_put 52 = .ok (.iconst (-1), 1) := by decide +kernel
theorem d_M_put_53 : decode b_M_put 53 = .ok (.ireturn, 1) := by decide +kernel
theorem d_M_put_54 : decode b_M_put 54 = .ok (.aload_n 0, 1) := by decide +kernel
theorem d_M_put_55 : decode b_M_put 55 = .ok (.getfield 7, 3) := by decide +kernel
theorem d_M_put_58 : decode b_M_put 58 = .ok (.iload_n 1, 1) := by decide +kernel
theorem d_M_put_59 : decode b_M_put 59 = .ok (.baload, 1) := by decide +kernel
theorem d_M_put_60 : decode b_M_put 60 = .ok (.ifCond .eq 6, 3) := by decide +kernel
theorem d_M_put_63 : decode b_M_put 63 = .ok (.bipush (-2), 2) := by decide +kernel
theorem d_M_put_65 : decode b_M_put 65 = .ok (.ireturn, 1) := by decide +kernel
theorem d_M_put_66 : decode b_M_put 66 = .ok (.aload_n 0, 1) := by decide +kernel
theorem d_M_put_67 : decode b_M_put 67 = .ok (.getfield 102, 3) := by decide +kernel
theorem d_M_put_70 : decode b_M_put 70 = .ok (.bipush 40, 2) := by decide +kernel
theorem d_M_put_72 : decode b_M_put 72 = .ok (.if_icmp .ne 6, 3) := by decide +kernel
theorem d_M_put_75 : decode b_M_put 75 = .ok (.bipush (-3), 2) := by decide +kernel
theorem d_M_put_77 : decode b_M_put 77 = .ok (.ireturn, 1) := by decide +kernel
theorem d_M_put_78 : decode b_M_put 78 = .ok (.aload_n 0, 1) := by decide +kernel
theorem d_M_put_79 : decode b_M_put 79 = .ok (.iload_n 1, 1) := by decide +kernel
theorem d_M_put_80 : decode b_M_put 80 = .ok (.iload_n 2, 1) := by decide +kernel
theorem d_M_put_81 : decode b_M_put 81 = .ok (.invokevirtual 98, 3) := by decide +kernel
theorem d_M_put_84 : decode b_M_put 84 = .ok (.aload_n 0, 1) := by decide +kernel
theorem d_M_put_85 : decode b_M_put 85 = .ok (.getfield 91, 3) := by decide +kernel
theorem d_M_put_88 : decode b_M_put 88 = .ok (.aload_n 0, 1) := by decide +kernel
theorem d_M_put_89 : decode b_M_put 89 = .ok (.getfield 66, 3) := by decide +kernel
theorem d_M_put_92 : decode b_M_put 92 = .ok (.if_icmp .ge 6, 3) := by decide +kernel
theorem d_M_put_95 : decode b_M_put 95 = .ok (.bipush (-4), 2) := by decide +kernel
theorem d_M_put_97 : decode b_M_put 97 = .ok (.ireturn, 1) := by decide +kernel
theorem d_M_put_98 : decode b_M_put 98 = .ok (.iconst 1, 1) := by decide +kernel
theorem d_M_put_99 : decode b_M_put 99 = .ok (.istore 5, 2) := by decide +kernel
theorem d_M_put_101 : decode b_M_put 101 = .ok (.iconst 0, 1) := by decide +kernel
theorem d_M_put_102 : decode b_M_put 102 = .ok (.istore 6, 2) := by decide +kernel
theorem d_M_put_104 : decode b_M_put 104 = .ok (.iload 6, 2) := by decide +kernel
theorem d_M_put_106 : decode b_M_put 106 = .ok (.aload_n 0, 1) := by decide +kernel
theorem d_M_put_107 : decode b_M_put 107 = .ok (.getfield 102, 3) := by decide +kernel
theorem d_M_put_110 : decode b_M_put 110 = .ok (.if_icmp .ge 42, 3) := by decide +kernel
theorem d_M_put_113 : decode b_M_put 113 = .ok (.aload_n 0, 1) := by decide +kernel
theorem d_M_put_114 : decode b_M_put 114 = .ok (.getfield 20, 3) := by decide +kernel
theorem d_M_put_117 : decode b_M_put 117 = .ok (.iload 6, 2) := by decide +kernel
theorem d_M_put_119 : decode b_M_put 119 = .ok (.iaload, 1) := by decide +kernel
theorem d_M_put_120 : decode b_M_put 120 = .ok (.iload_n 2, 1) := by decide +kernel
theorem d_M_put_121 : decode b_M_put 121 = .ok (.if_icmp .ne 21, 3) := by decide +kernel
theorem d_M_put_124 : decode b_M_put 124 = .ok (.aload_n 0, 1) := by decide +kernel
theorem d_M_put_125 : decode b_M_put 125 = .ok (.getfield 26, 3) := by decide +kernel
theorem d_M_put_128 : decode b_M_put 128 = .ok (.iload 6, 2) := by decide +kernel
theorem d_M_put_130 : decode b_M_put 130 = .ok (.iaload, 1) := by decide +kernel
theorem d_M_put_131 : decode b_M_put 131 = .ok (.iload_n 1, 1) := by decide +kernel
theorem d_M_put_132 : decode b_M_put 132 = .ok (.if_icmp .ne 10, 3) := by decide +kernel
theorem d_M_put_135 : decode b_M_put 135 = .ok (.iload 5, 2) := by decide +kernel
theorem d_M_put_137 : decode b_M_put 137 = .ok (.iconst 1, 1) := by decide +kernel
theorem d_M_put_138 : decode b_M_put 138 = .ok (.iadd, 1) := by decide +kernel
theorem d_M_put_139 : decode b_M_put 139 = .ok (.goto 5, 3) := by decide +kernel
theorem d_M_put_142 : decode b_M_put 142 = .ok (.iload 5, 2) := by decide +kernel
theorem d_M_put_144 : decode b_M_put 144 = .ok (.istore 5, 2) := by decide +kernel
theorem d_M_put_146 : decode b_M_put 146 = .ok (.iinc 6 1, 3) := by decide +kernel
theorem d_M_put_149 : decode b_M_put 149 = .ok (.goto (-45), 3) := by decide +kernel
theorem d_M_put_152 : decode b_M_put 152 = .ok (.aload_n 0, 1) := by decide +kernel
theorem d_M_put_153 : decode b_M_put 153 = .ok (.getfield 102, 3) := by decide +kernel
theorem d_M_put_156 : decode b_M_put 156 = .ok (.istore 6, 2) := by decide +kernel
theorem d_M_put_158 : decode b_M_put 158 = .ok (.aload_n 0, 1) := by decide +kernel
theorem d_M_put_159 : decode b_M_put 159 = .ok (.dup, 1) := by decide +kernel
theorem d_M_put_160 : decode b_M_put 160 = .ok (.getfield 102, 3) := by decide +kernel
theorem d_M_put_163 : decode b_M_put 163 = .ok (.iconst 1, 1) := by decide +kernel
theorem d_M_put_164 : decode b_M_put 164 = .ok (.iadd, 1) := by decide +kernel
theorem d_M_put_165 : decode b_M_put 165 = .ok (.putfield 102, 3) := by decide +kernel
theorem d_M_put_168 : decode b_M_put 168 = .ok (.aload_n 0, 1) := by decide +kernel
theorem d_M_put_169 : decode b_M_put 169 = .ok (.getfield 20, 3) := by decide +kernel
theorem d_M_put_172 : decode b_M_put 172 = .ok (.iload 6, 2) := by decide +kernel
theorem d_M_put_174 : decode b_M_put 174 = .ok (.iload_n 2, 1) := by decide +kernel
theorem d_M_put_175 : decode b_M_put 175 = .ok (.iastore, 1) := by decide +kernel
theorem d_M_put_176 : decode b_M_put 176 = .ok (.aload_n 0, 1) := by decide +kernel
theorem d_M_put_177 : decode b_M_put 177 = .ok (.getfield 23, 3) := by decide +kernel
theorem d_M_put_180 : decode b_M_put 180 = .ok (.iload 6, 2) := by decide +kernel
theorem d_M_put_182 : decode b_M_put 182 = .ok (.iload_n 3, 1) := by decide +kernel
theorem d_M_put_183 : decode b_M_put 183 = .ok (.iastore, 1) := by decide +kernel
theorem d_M_put_184 : decode b_M_put 184 = .ok (.aload_n 0, 1) := by decide +kernel
theorem d_M_put_185 : decode b_M_put 185 = .ok (.getfield 26, 3) := by decide +kernel
theorem d_M_put_188 : decode b_M_put 188 = .ok (.iload 6, 2) := by decide +kernel
theorem d_M_put_190 : decode b_M_put 190 = .ok (.iload_n 1, 1) := by decide +kernel
theorem d_M_put_191 : decode b_M_put 191 = .ok (.iastore, 1) := by decide +kernel
theorem d_M_put_192 : decode b_M_put 192 = .ok (.iconst 0, 1) := by decide +kernel
theorem d_M_put_193 : decode b_M_put 193 = .ok (.istore 7, 2) := by decide +kernel
theorem d_M_put_195 : decode b_M_put 195 = .ok (.iload 7, 2) := by decide +kernel
theorem d_M_put_197 : decode b_M_put 197 = .ok (.iconst 5, 1) := by decide +kernel
theorem d_M_put_198 : decode b_M_put 198 = .ok (.if_icmp .ge 52, 3) := by decide +kernel
theorem d_M_put_201 : decode b_M_put 201 = .ok (.aload_n 0, 1) := by decide +kernel
theorem d_M_put_202 : decode b_M_put 202 = .ok (.getfield 29, 3) := by decide +kernel
theorem d_M_put_205 : decode b_M_put 205 = .ok (.iconst 5, 1) := by decide +kernel
theorem d_M_put_206 : decode b_M_put 206 = .ok (.iload 6, 2) := by decide +kernel
theorem d_M_put_208 : decode b_M_put 208 = .ok (.imul, 1) := by decide +kernel
theorem d_M_put_209 : decode b_M_put 209 = .ok (.iload 7, 2) := by decide +kernel
theorem d_M_put_211 : decode b_M_put 211 = .ok (.iadd, 1) := by decide +kernel
theorem d_M_put_212 : decode b_M_put 212 = .ok (.iload 4, 2) := by decide +kernel
theorem d_M_put_214 : decode b_M_put 214 = .ok (.ifCond .lt 28, 3) := by decide +kernel
theorem d_M_put_217 : decode b_M_put 217 = .ok (.aload_n 0, 1) := by decide +kernel
theorem d_M_put_218 : decode b_M_put 218 = .ok (.getfield 44, 3) := by decide +kernel
theorem d_M_put_221 : decode b_M_put 221 = .ok (.iload 4, 2) := by decide +kernel
theorem d_M_put_223 : decode b_M_put 223 = .ok (.baload, 1) := by decide +kernel
theorem d_M_put_224 : decode b_M_put 224 = .ok (.ifCond .eq 18, 3) := by decide +kernel
theorem d_M_put_227 : decode b_M_put 227 = .ok (.aload_n 0, 1) := by decide +kernel
theorem d_M_put_228 : decode b_M_put 228 = .ok (.getfield 47, 3) := by decide +kernel
theorem d_M_put_231 : decode b_M_put 231 = .ok (.iconst 5, 1) := by decide +kernel
theorem d_M_put_232 : decode b_M_put 232 = .ok (.iload 4, 2) := by decide +kernel
theorem d_M_put_234 : decode b_M_put 234 = .ok (.imul, 1) := by decide +kernel
theorem d_M_put_235 : decode b_M_put 235 = .ok (.iload 7, 2) := by decide +kernel
theorem d_M_put_237 : decode b_M_put 237 = .ok (.iadd, 1) := by decide +kernel
theorem d_M_put_238 : decode b_M_put 238 = .ok (.iaload, 1) := by decide +kernel
theorem d_M_put_239 : decode b_M_put 239 = .ok (.goto 4, 3) := by decide +kernel
theorem d_M_put_242 : decode b_M_put 242 = .ok (.iconst 0, 1) := by decide +kernel
theorem d_M_put_243 : decode b_M_put 243 = .ok (.iastore, 1) := by decide +kernel
theorem d_M_put_244 : decode b_M_put 244 = .ok (.iinc 7 1, 3) := by decide +kernel
theorem d_M_put_247 : decode b_M_put 247 = .ok (.goto (-52), 3) := by decide +kernel
theorem d_M_put_250 : decode b_M_put 250 = .ok (.aload_n 0, 1) := by decide +kernel
theorem d_M_put_251 : decode b_M_put 251 = .ok (.getfield 29, 3) := by decide +kernel
theorem d_M_put_254 : decode b_M_put 254 = .ok (.iconst 5, 1) := by decide +kernel
theorem d_M_put_255 : decode b_M_put 255 = .ok (.iload 6, 2) := by decide +kernel
theorem d_M_put_257 : decode b_M_put 257 = .ok (.imul, 1) := by decide +kernel
theorem d_M_put_258 : decode b_M_put 258 = .ok (.iload_n 1, 1) := by decide +kernel
theorem d_M_put_259 : decode b_M_put 259 = .ok (.iadd, 1) := by decide +kernel
theorem d_M_put_260 : decode b_M_put 260 = .ok (.iload 5, 2) := by decide +kernel
theorem d_M_put_262 : decode b_M_put 262 = .ok (.iastore, 1) := by decide +kernel
theorem d_M_put_263 : decode b_M_put 263 = .ok (.iconst 0, 1) := by decide +kernel
theorem d_M_put_264 : decode b_M_put 264 = .ok (.istore 7, 2) := by decide +kernel
theorem d_M_put_266 : decode b_M_put 266 = .ok (.iload 7, 2) := by decide +kernel
theorem d_M_put_268 : decode b_M_put 268 = .ok (.aload_n 0, 1) := by decide +kernel
theorem d_M_put_269 : decode b_M_put 269 = .ok (.getfield 91, 3) := by decide +kernel
theorem d_M_put_272 : decode b_M_put 272 = .ok (.if_icmp .ge 61, 3) := by decide +kernel
theorem d_M_put_275 : decode b_M_put 275 = .ok (.aload_n 0, 1) := by decide +kernel
theorem d_M_put_276 : decode b_M_put 276 = .ok (.iload_n 1, 1) := by decide +kernel
theorem d_M_put_277 : decode b_M_put 277 = .ok (.iload 7, 2) := by decide +kernel
theorem d_M_put_279 : decode b_M_put 279 = .ok (.invokevirtual 108, 3) := by decide +kernel
theorem d_M_put_282 : decode b_M_put 282 = .ok (.istore 8, 2) := by decide +kernel
theorem d_M_put_284 : decode b_M_put 284 = .ok (.iload 8, 2) := by decide +kernel
theorem d_M_put_286 : decode b_M_put 286 = .ok (.ifCond .ge 19, 3) := by decide +kernel
theorem d_M_put_289 : decode b_M_put 289 = .ok (.aload_n 0, 1) := by decide +kernel
theorem d_M_put_290 : decode b_M_put 290 = .ok (.aload_n 0, 1) := by decide +kernel
theorem d_M_put_291 : decode b_M_put 291 = .ok (.getfield 56, 3) := by decide +kernel
theorem d_M_put_294 : decode b_M_put 294 = .ok (.iload 7, 2) := by decide +kernel
theorem d_M_put_296 : decode b_M_put 296 = .ok (.iaload, 1) := by decide +kernel
theorem d_M_put_297 : decode b_M_put 297 = .ok (.iload 6, 2) := by decide +kernel
theorem d_M_put_299 : decode b_M_put 299 = .ok (.invokevirtual 112, 3) := by decide +kernel
theorem d_M_put_302 : decode b_M_put 302 = .ok (.goto 25, 3) := by decide +kernel
theorem d_M_put_305 : decode b_M_put 305 = .ok (.aload_n 0, 1) := by decide +kernel
theorem d_M_put_306 : decode b_M_put 306 = .ok (.getfield 35, 3) := by decide +kernel
theorem d_M_put_309 : decode b_M_put 309 = .ok (.bipush 40, 2) := by decide +kernel
theorem d_M_put_311 : decode b_M_put 311 = .ok (.aload_n 0, 1) := by decide +kernel
theorem d_M_put_312 : decode b_M_put 312 = .ok (.getfield 56, 3) := by decide +kernel
theorem d_M_put_315 : decode b_M_put 315 = .ok (.iload 7, 2) := by decide +kernel
theorem d_M_put_317 : decode b_M_put 317 = .ok (.iaload, 1) := by decide +kernel
theorem d_M_put_318 : decode b_M_put 318 = .ok (.imul, 1) := by decide +kernel
theorem d_M_put_319 : decode b_M_put 319 = .ok (.iload 6, 2) := by decide +kernel
theorem d_M_put_321 : decode b_M_put 321 = .ok (.iadd, 1) := by decide +kernel
theorem d_M_put_322 : decode b_M_put 322 = .ok (.iload 8, 2) := by decide +kernel
theorem d_M_put_324 : decode b_M_put 324 = .ok (.iconst 1, 1) := by decide +kernel
theorem d_M_put_325 : decode b_M_put 325 = .ok (.iadd, 1) := by decide +kernel
theorem d_M_put_326 : decode b_M_put 326 = .ok (.iastore, 1) := by decide +kernel
theorem d_M_put_327 : decode b_M_put 327 = .ok (.iinc 7 1, 3) := by decide +kernel
theorem d_M_put_330 : decode b_M_put 330 = .ok (.goto (-64), 3) := by decide +kernel
theorem d_M_put_333 : decode b_M_put 333 = .ok (.iload 6, 2) := by decide +kernel
theorem d_M_put_335 : decode b_M_put 335 = .ok (.ireturn, 1) := by decide +kernel
theorem d_M_shown_0 : decode b_M_shown 0 = .ok (.iconst 0, 1) := by decide +kernel
theorem d_M_shown_1 : decode b_M_shown 1 = .ok (.istore_n 2, 1) := by decide +kernel
theorem d_M_shown_2 : decode b_M_shown 2 = .ok (.iconst 0, 1) := by decide +kernel
theorem d_M_shown_3 : decode b_M_shown 3 = .ok (.istore_n 3, 1) := by decide +kernel
theorem d_M_shown_4 : decode b_M_shown 4 = .ok (.iload_n 3, 1) := by decide +kernel
theorem d_M_shown_5 : decode b_M_shown 5 = .ok (.aload_n 0, 1) := by decide +kernel
theorem d_M_shown_6 : decode b_M_shown 6 = .ok (.getfield 91, 3) := by decide +kernel
theorem d_M_shown_9 : decode b_M_shown 9 = .ok (.if_icmp .ge 57, 3) := by decide +kernel
theorem d_M_shown_12 : decode b_M_shown 12 = .ok (.iload_n 2, 1) := by decide +kernel
theorem d_M_shown_13 : decode b_M_shown 13 = .ok (.ifCond .ne 41, 3) := by decide +kernel
theorem d_M_shown_16 : decode b_M_shown 16 = .ok (.aload_n 0, 1) := by decide +kernel
theorem d_M_shown_17 : decode b_M_shown 17 = .ok (.getfield 32, 3) := by decide +kernel
theorem d_M_shown_20 : decode b_M_shown 20 = .ok (.bipush 40, 2) := by decide +kernel
theorem d_M_shown_22 : decode b_M_shown 22 = .ok (.aload_n 0, 1) := by decide +kernel
theorem d_M_shown_23 : decode b_M_shown 23 = .ok (.getfield 56, 3) := by decide +kernel
theorem d_M_shown_26 : decode b_M_shown 26 = .ok (.iload_n 3, 1) := by decide +kernel
theorem d_M_shown_27 : decode b_M_shown 27 = .ok (.iaload, 1) := by decide +kernel
theorem d_M_shown_28 : decode b_M_shown 28 = .ok (.imul, 1) := by decide +kernel
theorem d_M_shown_29 : decode b_M_shown 29 = .ok (.iload_n 1, 1) := by decide +kernel
theorem d_M_shown_30 : decode b_M_shown 30 = .ok (.iadd, 1) := by decide +kernel
theorem d_M_shown_31 : decode b_M_shown 31 = .ok (.baload, 1) := by decide +kernel
theorem d_M_shown_32 : decode b_M_shown 32 = .ok (.ifCond .ne 22, 3) := by decide +kernel
theorem d_M_shown_35 : decode b_M_shown 35 = .ok (.aload_n 0, 1) := by decide +kernel
theorem d_M_shown_36 : decode b_M_shown 36 = .ok (.getfield 35, 3) := by decide +kernel
theorem d_M_shown_39 : decode b_M_shown 39 = .ok (.bipush 40, 2) := by decide +kernel
theorem d_M_shown_41 : decode b_M_shown 41 = .ok (.aload_n 0, 1) := by decide +kernel
theorem d_M_shown_42 : decode b_M_shown 42 = .ok (.getfield 56, 3) := by decide +kernel
theorem d_M_shown_45 : decode b_M_shown 45 = .ok (.iload_n 3, 1) := by decide +kernel
theorem d_M_shown_46 : decode b_M_shown 46 = .ok (.iaload, 1) := by decide +kernel
theorem d_M_shown_47 : decode b_M_shown 47 = .ok (.imul, 1) := by decide +kernel
theorem d_M_shown_48 : decode b_M_shown 48 = .ok (.iload_n 1, 1) := by decide +kernel
theorem d_M_shown_49 : decode b_M_shown 49 = .ok (.iadd, 1) := by decide +kernel
theorem d_M_shown_50 : decode b_M_shown 50 = .ok (.iaload, 1) := by decide +kernel
theorem d_M_shown_51 : decode b_M_shown 51 = .ok (.ifCond .le 7, 3) := by decide +kernel
theorem d_M_shown_54 : decode b_M_shown 54 = .ok (.iconst 1, 1) := by decide +kernel
theorem d_M_shown_55 : decode b_M_shown 55 = .ok (.goto 4, 3) := by decide +kernel
theorem d_M_shown_58 : decode b_M_shown 58 = .ok (.iconst 0, 1) := by decide +kernel
theorem d_M_shown_59 : decode b_M_shown 59 = .ok (.istore_n 2, 1) := by decide +kernel
theorem d_M_shown_60 : decode b_M_shown 60 = .ok (.iinc 3 1, 3) := by decide +kernel
theorem d_M_shown_63 : decode b_M_shown 63 = .ok (.goto (-59), 3) := by decide +kernel
theorem d_M_shown_66 : decode b_M_shown 66 = .ok (.iload_n 2, 1) := by decide +kernel
theorem d_M_shown_67 : decode b_M_shown 67 = .ok (.ireturn, 1) := by decide +kernel
theorem d_M_isFound_0 : decode b_M_isFound 0 = .ok (.aload_n 0, 1) := by decide +kernel
theorem d_M_isFound_1 : decode b_M_isFound 1 = .ok (.getfield 20, 3) := by decide +kernel
theorem d_M_isFound_4 : decode b_M_isFound 4 = .ok (.iload_n 1, 1) := by decide +kernel
theorem d_M_isFound_5 : decode b_M_isFound 5 = .ok (.iaload, 1) := by decide +kernel
theorem d_M_isFound_6 : decode b_M_isFound 6 = .ok (.iload_n 2, 1) := by decide +kernel
theorem d_M_isFound_7 : decode b_M_isFound 7 = .ok (.if_icmp .ne 11, 3) := by decide +kernel
theorem d_M_isFound_10 : decode b_M_isFound 10 = .ok (.aload_n 0, 1) := by decide +kernel
theorem d_M_isFound_11 : decode b_M_isFound 11 = .ok (.iload_n 1, 1) := by decide +kernel
theorem d_M_isFound_12 : decode b_M_isFound 12 = .ok (.invokevirtual 115, 3) := by decide +kernel
theorem d_M_isFound_15 : decode b_M_isFound 15 = .ok (.ifCond .ne 5, 3) := by decide +kernel
theorem d_M_isFound_18 : decode b_M_isFound 18 = .ok (.iconst 0, 1) := by decide +kernel
theorem d_M_isFound_19 : decode b_M_isFound 19 = .ok (.ireturn, 1) := by decide +kernel
theorem d_M_isFound_20 : decode b_M_isFound 20 = .ok (.iconst 0, 1) := by decide +kernel
theorem d_M_isFound_21 : decode b_M_isFound 21 = .ok (.istore_n 3, 1) := by decide +kernel
theorem d_M_isFound_22 : decode b_M_isFound 22 = .ok (.iload_n 3, 1) := by decide +kernel
theorem d_M_isFound_23 : decode b_M_isFound 23 = .ok (.aload_n 0, 1) := by decide +kernel
theorem d_M_isFound_24 : decode b_M_isFound 24 = .ok (.getfield 102, 3) := by decide +kernel
theorem d_M_isFound_27 : decode b_M_isFound 27 = .ok (.if_icmp .ge 43, 3) := by decide +kernel
theorem d_M_isFound_30 : decode b_M_isFound 30 = .ok (.iload_n 3, 1) := by decide +kernel
theorem d_M_isFound_31 : decode b_M_isFound 31 = .ok (.iload_n 1, 1) := by decide +kernel
theorem d_M_isFound_32 : decode b_M_isFound 32 = .ok (.if_icmp .eq 32, 3) := by decide +kernel
theorem d_M_isFound_35 : decode b_M_isFound 35 = .ok (.aload_n 0, 1) := by decide +kernel
theorem d_M_isFound_36 : decode b_M_isFound 36 = .ok (.getfield 20, 3) := by decide +kernel
theorem d_M_isFound_39 : decode b_M_isFound 39 = .ok (.iload_n 3, 1) := by decide +kernel
theorem d_M_isFound_40 : decode b_M_isFound 40 = .ok (.iaload, 1) := by decide +kernel
theorem d_M_isFound_41 : decode b_M_isFound 41 = .ok (.iload_n 2, 1) := by decide +kernel
theorem d_M_isFound_42 : decode b_M_isFound 42 = .ok (.if_icmp .ne 22, 3) := by decide +kernel
theorem d_M_isFound_45 : decode b_M_isFound 45 = .ok (.aload_n 0, 1) := by decide +kernel
theorem d_M_isFound_46 : decode b_M_isFound 46 = .ok (.iload_n 1, 1) := by decide +kernel
theorem d_M_isFound_47 : decode b_M_isFound 47 = .ok (.iload_n 3, 1) := by decide +kernel
theorem d_M_isFound_48 : decode b_M_isFound 48 = .ok (.invokevirtual 105, 3) := by decide +kernel
theorem d_M_isFound_51 : decode b_M_isFound 51 = .ok (.ifCond .eq 13, 3) := by decide +kernel
theorem d_M_isFound_54 : decode b_M_isFound 54 = .ok (.aload_n 0, 1) := by decide +kernel
theorem d_M_isFound_55 : decode b_M_isFound 55 = .ok (.iload_n 3, 1) := by decide +kernel
theorem d_M_isFound_56 : decode b_M_isFound 56 = .ok (.invokevirtual 115, 3) := by decide +kernel
theorem d_M_isFound_59 : decode b_M_isFound 59 = .ok (.ifCond .eq 5, 3) := by decide +kernel
theorem d_M_isFound_62 : decode b_M_isFound 62 = .ok (.iconst 0, 1) := by decide +kernel
theorem d_M_isFound_63 : decode b_M_isFound 63 = .ok (.ireturn, 1) := by decide +kernel
theorem d_M_isFound_64 : decode b_M_isFound 64 = .ok (.iinc 3 1, 3) := by decide +kernel
theorem d_M_isFound_67 : decode b_M_isFound 67 = .ok (.goto (-45), 3) := by decide +kernel
theorem d_M_isFound_70 : decode b_M_isFound 70 = .ok (.iconst 1, 1) := by decide +kernel
theorem d_M_isFound_71 : decode b_M_isFound 71 = .ok (.ireturn, 1) := by decide +kernel
theorem d_M_get_0 : decode b_M_get 0 = .ok (.iload_n 1, 1) := by decide +kernel
theorem d_M_get_1 : decode b_M_get 1 = .ok (.invokestatic 69, 3) := by decide +kernel
theorem d_M_get_4 : decode b_M_get 4 = .ok (.ifCond .eq 19, 3) := by decide +kernel
theorem d_M_get_7 : decode b_M_get 7 = .ok (.iload_n 2, 1) := by decide +kernel
theorem d_M_get_8 : decode b_M_get 8 = .ok (.invokestatic 84, 3) := by decide +kernel
theorem d_M_get_11 : decode b_M_get 11 = .ok (.ifCond .eq 12, 3) := by decide +kernel
theorem d_M_get_14 : decode b_M_get 14 = .ok (.iload_n 3, 1) := by decide +kernel
theorem d_M_get_15 : decode b_M_get 15 = .ok (.ifCond .lt 8, 3) := by decide +kernel
theorem d_M_get_18 : decode b_M_get 18 = .ok (.iload_n 3, 1) := by decide +kernel
theorem d_M_get_19 : decode b_M_get 19 = .ok (.iconst 3, 1) := by decide +kernel
theorem d_M_get_20 : decode b_M_get 20 = .ok (.if_icmp .le 5, 3) := by decide +kernel
theorem d_M_get_23 : decode b_M_get 23 = .ok (.iconst (-1), 1) := by decide +kernel
theorem d_M_get_24 : decode b_M_get 24 = .ok (.ireturn, 1) := by decide +kernel
theorem d_M_get_25 : decode b_M_get 25 = .ok (.aload_n 0, 1) := by decide +kernel
theorem d_M_get_26 : decode b_M_get 26 = .ok (.getfield 7, 3) := by decide +kernel
theorem d_M_get_29 : decode b_M_get 29 = .ok (.iload_n 1, 1) := by decide +kernel
theorem d_M_get_30 : decode b_M_get 30 = .ok (.baload, 1) := by decide +kernel
theorem d_M_get_31 : decode b_M_get 31 = .ok (.ifCond .eq 6, 3) := by decide +kernel
theorem d_M_get_34 : decode b_M_get 34 = .ok (.bipush (-2), 2) := by decide +kernel
theorem d_M_get_36 : decode b_M_get 36 = .ok (.ireturn, 1) := by decide +kernel
theorem d_M_get_37 : decode b_M_get 37 = .ok (.aload_n 0, 1) := by decide +kernel
theorem d_M_get_38 : decode b_M_get 38 = .ok (.iload_n 1, 1) := by decide +kernel
theorem d_M_get_39 : decode b_M_get 39 = .ok (.iload_n 2, 1) := by decide +kernel
theorem d_M_get_40 : decode b_M_get 40 = .ok (.invokevirtual 98, 3) := by decide +kernel
theorem d_M_get_43 : decode b_M_get 43 = .ok (.aload_n 0, 1) := by decide +kernel
theorem d_M_get_44 : decode b_M_get 44 = .ok (.getfield 91, 3) := by decide +kernel
theorem d_M_get_47 : decode b_M_get 47 = .ok (.aload_n 0, 1) := by decide +kernel
