theorem d_J_fill_0 : decode b_J_fill 0 = .ok (.iconst 0, 1) := by decide +kernel
theorem d_J_fill_1 : decode b_J_fill 1 = .ok (.istore_n 2, 1) := by decide +kernel
theorem d_J_fill_2 : decode b_J_fill 2 = .ok (.aload_n 0, 1) := by decide +kernel
theorem d_J_fill_3 : decode b_J_fill 3 = .ok (.arraylength, 1) := by decide +kernel
theorem d_J_fill_4 : decode b_J_fill 4 = .ok (.istore_n 3, 1) := by decide +kernel
theorem d_J_fill_5 : decode b_J_fill 5 = .ok (.iload_n 2, 1) := by decide +kernel
theorem d_J_fill_6 : decode b_J_fill 6 = .ok (.iload_n 3, 1) := by decide +kernel
theorem d_J_fill_7 : decode b_J_fill 7 = .ok (.if_icmp .ge 13, 3) := by decide +kernel
theorem d_J_fill_10 : decode b_J_fill 10 = .ok (.aload_n 0, 1) := by decide +kernel
theorem d_J_fill_11 : decode b_J_fill 11 = .ok (.iload_n 2, 1) := by decide +kernel
theorem d_J_fill_12 : decode b_J_fill 12 = .ok (.iload_n 1, 1) := by decide +kernel
theorem d_J_fill_13 : decode b_J_fill 13 = .ok (.iastore, 1) := by decide +kernel
theorem d_J_fill_14 : decode b_J_fill 14 = .ok (.iinc 2 1, 3) := by decide +kernel
theorem d_J_fill_17 : decode b_J_fill 17 = .ok (.goto (-12), 3) := by decide +kernel
theorem d_J_fill_20 : decode b_J_fill 20 = .ok (.return_, 1) := by decide +kernel
theorem d_R_init_0 : decode b_R_init 0 = .ok (.aload_n 0, 1) := by decide +kernel
theorem d_R_init_1 : decode b_R_init 1 = .ok (.invokespecial 3, 3) := by decide +kernel
theorem d_R_init_4 : decode b_R_init 4 = .ok (.aload_n 0, 1) := by decide +kernel
theorem d_R_init_5 : decode b_R_init 5 = .ok (.iload_n 1, 1) := by decide +kernel
theorem d_R_init_6 : decode b_R_init 6 = .ok (.putfield 9, 3) := by decide +kernel
theorem d_R_init_9 : decode b_R_init 9 = .ok (.aload_n 0, 1) := by decide +kernel
theorem d_R_init_10 : decode b_R_init 10 = .ok (.bipush 16, 2) := by decide +kernel
theorem d_R_init_12 : decode b_R_init 12 = .ok (.newarray .int, 2) := by decide +kernel
theorem d_R_init_14 : decode b_R_init 14 = .ok (.putfield 15, 3) := by decide +kernel
theorem d_R_init_17 : decode b_R_init 17 = .ok (.aload_n 0, 1) := by decide +kernel
theorem d_R_init_18 : decode b_R_init 18 = .ok (.getfield 15, 3) := by decide +kernel
theorem d_R_init_21 : decode b_R_init 21 = .ok (.iconst (-1), 1) := by decide +kernel
theorem d_R_init_22 : decode b_R_init 22 = .ok (.invokestatic 19, 3) := by decide +kernel
theorem d_R_init_25 : decode b_R_init 25 = .ok (.aload_n 0, 1) := by decide +kernel
theorem d_R_init_26 : decode b_R_init 26 = .ok (.iconst 5, 1) := by decide +kernel
theorem d_R_init_27 : decode b_R_init 27 = .ok (.newarray .int, 2) := by decide +kernel
theorem d_R_init_29 : decode b_R_init 29 = .ok (.putfield 25, 3) := by decide +kernel
theorem d_R_init_32 : decode b_R_init 32 = .ok (.return_, 1) := by decide +kernel
theorem d_R_lookUp_0 : decode b_R_lookUp 0 = .ok (.iconst 5, 1) := by decide +kernel
theorem d_R_lookUp_1 : decode b_R_lookUp 1 = .ok (.iload_n 1, 1) := by decide +kernel
theorem d_R_lookUp_2 : decode b_R_lookUp 2 = .ok (.imul, 1) := by decide +kernel
theorem d_R_lookUp_3 : decode b_R_lookUp 3 = .ok (.iconst 3, 1) := by decide +kernel
theorem d_R_lookUp_4 : decode b_R_lookUp 4 = .ok (.iadd, 1) := by decide +kernel
theorem d_R_lookUp_5 : decode b_R_lookUp 5 = .ok (.istore_n 2, 1) := by decide +kernel
theorem d_R_lookUp_6 : decode b_R_lookUp 6 = .ok (.aload_n 0, 1) := by decide +kernel
theorem d_R_lookUp_7 : decode b_R_lookUp 7 = .ok (.iconst 0, 1) := by decide +kernel
theorem d_R_lookUp_8 : decode b_R_lookUp 8 = .ok (.putfield 28, 3) := by decide +kernel
theorem d_R_lookUp_11 : decode b_R_lookUp 11 = .ok (.iconst 0, 1) := by decide +kernel
theorem d_R_lookUp_12 : decode b_R_lookUp 12 = .ok (.istore_n 3, 1) := by decide +kernel
theorem d_R_lookUp_13 : decode b_R_lookUp 13 = .ok (.iload_n 3, 1) := by decide +kernel
theorem d_R_lookUp_14 : decode b_R_lookUp 14 = .ok (.bipush 16, 2) := by decide +kernel
theorem d_R_lookUp_16 : decode b_R_lookUp 16 = .ok (.if_icmp .ge 62, 3) := by decide +kernel
theorem d_R_lookUp_19 : decode b_R_lookUp 19 = .ok (.aload_n 0, 1) := by decide +kernel
theorem d_R_lookUp_20 : decode b_R_lookUp 20 = .ok (.getfield 15, 3) := by decide +kernel
theorem d_R_lookUp_23 : decode b_R_lookUp 23 = .ok (.iload_n 2, 1) := by decide +kernel
theorem d_R_lookUp_24 : decode b_R_lookUp 24 = .ok (.iload_n 3, 1) := by decide +kernel
theorem d_R_lookUp_25 : decode b_R_lookUp 25 = .ok (.iadd, 1) := by decide +kernel
theorem d_R_lookUp_26 : decode b_R_lookUp 26 = .ok (.bipush 16, 2) := by decide +kernel
theorem d_R_lookUp_28 : decode b_R_lookUp 28 = .ok (.irem, 1) := by decide +kernel
theorem d_R_lookUp_29 : decode b_R_lookUp 29 = .ok (.iaload, 1) := by decide +kernel
theorem d_R_lookUp_30 : decode b_R_lookUp 30 = .ok (.istore 4, 2) := by decide +kernel
theorem d_R_lookUp_32 : decode b_R_lookUp 32 = .ok (.iload 4, 2) := by decide +kernel
theorem d_R_lookUp_34 : decode b_R_lookUp 34 = .ok (.iconst (-1), 1) := by decide +kernel
theorem d_R_lookUp_35 : decode b_R_lookUp 35 = .ok (.if_icmp .eq 37, 3) := by decide +kernel
theorem d_R_lookUp_38 : decode b_R_lookUp 38 = .ok (.aload_n 0, 1) := by decide +kernel
theorem d_R_lookUp_39 : decode b_R_lookUp 39 = .ok (.aload_n 0, 1) := by decide +kernel
theorem d_R_lookUp_40 : decode b_R_lookUp 40 = .ok (.getfield 28, 3) := by decide +kernel
theorem d_R_lookUp_43 : decode b_R_lookUp 43 = .ok (.iload 4, 2) := by decide +kernel
theorem d_R_lookUp_45 : decode b_R_lookUp 45 = .ok (.invokevirtual 31, 3) := by decide +kernel
theorem d_R_lookUp_48 : decode b_R_lookUp 48 = .ok (.ifCond .ne 24, 3) := by decide +kernel
theorem d_R_lookUp_51 : decode b_R_lookUp 51 = .ok (.aload_n 0, 1) := by decide +kernel
theorem d_R_lookUp_52 : decode b_R_lookUp 52 = .ok (.getfield 25, 3) := by decide +kernel
theorem d_R_lookUp_55 : decode b_R_lookUp 55 = .ok (.aload_n 0, 1) := by decide +kernel
theorem d_R_lookUp_56 : decode b_R_lookUp 56 = .ok (.getfield 28, 3) := by decide +kernel
theorem d_R_lookUp_59 : decode b_R_lookUp 59 = .ok (.iload 4, 2) := by decide +kernel
theorem d_R_lookUp_61 : decode b_R_lookUp 61 = .ok (.iastore, 1) := by decide +kernel
theorem d_R_lookUp_62 : decode b_R_lookUp 62 = .ok (.aload_n 0, 1) := by decide +kernel
theorem d_R_lookUp_63 : decode b_R_lookUp 63 = .ok (.dup, 1) := by decide +kernel
theorem d_R_lookUp_64 : decode b_R_lookUp 64 = .ok (.getfield 28, 3) := by decide +kernel
theorem d_R_lookUp_67 : decode b_R_lookUp 67 = .ok (.iconst 1, 1) := by decide +kernel
theorem d_R_lookUp_68 : decode b_R_lookUp 68 = .ok (.iadd, 1) := by decide +kernel
theorem d_R_lookUp_69 : decode b_R_lookUp 69 = .ok (.putfield 28, 3) := by decide +kernel
theorem d_R_lookUp_72 : decode b_R_lookUp 72 = .ok (.iinc 3 1, 3) := by decide +kernel
theorem d_R_lookUp_75 : decode b_R_lookUp 75 = .ok (.goto (-62), 3) := by decide +kernel
theorem d_R_lookUp_78 : decode b_R_lookUp 78 = .ok (.aload_n 0, 1) := by decide +kernel
theorem d_R_lookUp_79 : decode b_R_lookUp 79 = .ok (.aload_n 0, 1) := by decide +kernel
theorem d_R_lookUp_80 : decode b_R_lookUp 80 = .ok (.getfield 9, 3) := by decide +kernel
theorem d_R_lookUp_83 : decode b_R_lookUp 83 = .ok (.aload_n 0, 1) := by decide +kernel
theorem d_R_lookUp_84 : decode b_R_lookUp 84 = .ok (.getfield 28, 3) := by decide +kernel
theorem d_R_lookUp_87 : decode b_R_lookUp 87 = .ok (.invokestatic 35, 3) := by decide +kernel
theorem d_R_lookUp_90 : decode b_R_lookUp 90 = .ok (.putfield 41, 3) := by decide +kernel
theorem d_R_lookUp_93 : decode b_R_lookUp 93 = .ok (.return_, 1) := by decide +kernel
theorem d_R_hasHome_0 : decode b_R_hasHome 0 = .ok (.aload_n 0, 1) := by decide +kernel
theorem d_R_hasHome_1 : decode b_R_hasHome 1 = .ok (.aload_n 0, 1) := by decide +kernel
theorem d_R_hasHome_2 : decode b_R_hasHome 2 = .ok (.getfield 41, 3) := by decide +kernel
theorem d_R_hasHome_5 : decode b_R_hasHome 5 = .ok (.iload_n 1, 1) := by decide +kernel
theorem d_R_hasHome_6 : decode b_R_hasHome 6 = .ok (.invokevirtual 31, 3) := by decide +kernel
theorem d_R_hasHome_9 : decode b_R_hasHome 9 = .ok (.ireturn, 1) := by decide +kernel
theorem d_R_isAmongFirst_0 : decode b_R_isAmongFirst 0 = .ok (.iconst 0, 1) := by decide +kernel
theorem d_R_isAmongFirst_1 : decode b_R_isAmongFirst 1 = .ok (.istore_n 3, 1) := by decide +kernel
theorem d_R_isAmongFirst_2 : decode b_R_isAmongFirst 2 = .ok (.iload_n 3, 1) := by decide +kernel
theorem d_R_isAmongFirst_3 : decode b_R_isAmongFirst 3 = .ok (.iload_n 1, 1) := by decide +kernel
theorem d_R_isAmongFirst_4 : decode b_R_isAmongFirst 4 = .ok (.if_icmp .ge 21, 3) := by decide +kernel
theorem d_R_isAmongFirst_7 : decode b_R_isAmongFirst 7 = .ok (.aload_n 0, 1) := by decide +kernel
theorem d_R_isAmongFirst_8 : decode b_R_isAmongFirst 8 = .ok (.getfield 25, 3) := by decide +kernel
theorem d_R_isAmongFirst_11 : decode b_R_isAmongFirst 11 = .ok (.iload_n 3, 1) := by decide +kernel
theorem d_R_isAmongFirst_12 : decode b_R_isAmongFirst 12 = .ok (.iaload, 1) := by decide +kernel
theorem d_R_isAmongFirst_13 : decode b_R_isAmongFirst 13 = .ok (.iload_n 2, 1) := by decide +kernel
theorem d_R_isAmongFirst_14 : decode b_R_isAmongFirst 14 = .ok (.if_icmp .ne 5, 3) := by decide +kernel
theorem d_R_isAmongFirst_17 : decode b_R_isAmongFirst 17 = .ok (.iconst 1, 1) := by decide +kernel
theorem d_R_isAmongFirst_18 : decode b_R_isAmongFirst 18 = .ok (.ireturn, 1) := by decide +kernel
theorem d_R_isAmongFirst_19 : decode b_R_isAmongFirst 19 = .ok (.iinc 3 1, 3) := by decide +kernel
theorem d_R_isAmongFirst_22 : decode b_R_isAmongFirst 22 = .ok (.goto (-20), 3) := by decide +kernel
theorem d_R_isAmongFirst_25 : decode b_R_isAmongFirst 25 = .ok (.iconst 0, 1) := by decide +kernel
theorem d_R_isAmongFirst_26 : decode b_R_isAmongFirst 26 = .ok (.ireturn, 1) := by decide +kernel
theorem d_G_init_0 : decode b_G_init 0 = .ok (.aload_n 0, 1) := by decide +kernel
theorem d_G_init_1 : decode b_G_init 1 = .ok (.invokespecial 3, 3) := by decide +kernel
theorem d_G_init_4 : decode b_G_init 4 = .ok (.aload_n 0, 1) := by decide +kernel
theorem d_G_init_5 : decode b_G_init 5 = .ok (.bipush 40, 2) := by decide +kernel
theorem d_G_init_7 : decode b_G_init 7 = .ok (.newarray .int, 2) := by decide +kernel
theorem d_G_init_9 : decode b_G_init 9 = .ok (.putfield 9, 3) := by decide +kernel
theorem d_G_init_12 : decode b_G_init 12 = .ok (.aload_n 0, 1) := by decide +kernel
theorem d_G_init_13 : decode b_G_init 13 = .ok (.bipush 40, 2) := by decide +kernel
theorem d_G_init_15 : decode b_G_init 15 = .ok (.newarray .int, 2) := by decide +kernel
theorem d_G_init_17 : decode b_G_init 17 = .ok (.putfield 15, 3) := by decide +kernel
theorem d_G_init_20 : decode b_G_init 20 = .ok (.aload_n 0, 1) := by decide +kernel
theorem d_G_init_21 : decode b_G_init 21 = .ok (.bipush 40, 2) := by decide +kernel
theorem d_G_init_23 : decode b_G_init 23 = .ok (.newarray .int, 2) := by decide +kernel
theorem d_G_init_25 : decode b_G_init 25 = .ok (.putfield 18, 3) := by decide +kernel
theorem d_G_init_28 : decode b_G_init 28 = .ok (.aload_n 0, 1) := by decide +kernel
theorem d_G_init_29 : decode b_G_init 29 = .ok (.sipush 200, 3) := by decide +kernel
theorem d_G_init_32 : decode b_G_init 32 = .ok (.newarray .int, 2) := by decide +kernel
theorem d_G_init_34 : decode b_G_init 34 = .ok (.putfield 21, 3) := by decide +kernel
theorem d_G_init_37 : decode b_G_init 37 = .ok (.return_, 1) := by decide +kernel
theorem d_G_isMade_0 : decode b_G_isMade 0 = .ok (.iload_n 1, 1) := by decide +kernel
theorem d_G_isMade_1 : decode b_G_isMade 1 = .ok (.ifCond .lt 15, 3) := by decide +kernel
theorem d_G_isMade_4 : decode b_G_isMade 4 = .ok (.iload_n 1, 1) := by decide +kernel
theorem d_G_isMade_5 : decode b_G_isMade 5 = .ok (.aload_n 0, 1) := by decide +kernel
theorem d_G_isMade_6 : decode b_G_isMade 6 = .ok (.getfield 24, 3) := by decide +kernel
theorem d_G_isMade_9 : decode b_G_isMade 9 = .ok (.if_icmp .ge 7, 3) := by decide +kernel
theorem d_G_isMade_12 : decode b_G_isMade 12 = .ok (.iconst 1, 1) := by decide +kernel
theorem d_G_isMade_13 : decode b_G_isMade 13 = .ok (.goto 4, 3) := by decide +kernel
theorem d_G_isMade_16 : decode b_G_isMade 16 = .ok (.iconst 0, 1) := by decide +kernel
theorem d_G_isMade_17 : decode b_G_isMade 17 = .ok (.ireturn, 1) := by decide +kernel
theorem d_G_clockCount_0 : decode b_G_clockCount 0 = .ok (.aload_n 0, 1) := by decide +kernel
theorem d_G_clockCount_1 : decode b_G_clockCount 1 = .ok (.getfield 21, 3) := by decide +kernel
theorem d_G_clockCount_4 : decode b_G_clockCount 4 = .ok (.iload_n 1, 1) := by decide +kernel
theorem d_G_clockCount_5 : decode b_G_clockCount 5 = .ok (.iconst 5, 1) := by decide +kernel
theorem d_G_clockCount_6 : decode b_G_clockCount 6 = .ok (.imul, 1) := by decide +kernel
theorem d_G_clockCount_7 : decode b_G_clockCount 7 = .ok (.iload_n 2, 1) := by decide +kernel
theorem d_G_clockCount_8 : decode b_G_clockCount 8 = .ok (.iadd, 1) := by decide +kernel
theorem d_G_clockCount_9 : decode b_G_clockCount 9 = .ok (.iaload, 1) := by decide +kernel
theorem d_G_clockCount_10 : decode b_G_clockCount 10 = .ok (.ireturn, 1) := by decide +kernel
theorem d_G_add_0 : decode b_G_add 0 = .ok (.aload_n 0, 1) := by decide +kernel
theorem d_G_add_1 : decode b_G_add 1 = .ok (.getfield 24, 3) := by decide +kernel
theorem d_G_add_4 : decode b_G_add 4 = .ok (.istore 5, 2) := by decide +kernel
theorem d_G_add_6 : decode b_G_add 6 = .ok (.aload 4, 2) := by decide +kernel
theorem d_G_add_8 : decode b_G_add 8 = .ok (.iconst 0, 1) := by decide +kernel
theorem d_G_add_9 : decode b_G_add 9 = .ok (.aload_n 0, 1) := by decide +kernel
theorem d_G_add_10 : decode b_G_add 10 = .ok (.getfield 21, 3) := by decide +kernel
theorem d_G_add_13 : decode b_G_add 13 = .ok (.iload 5, 2) := by decide +kernel
theorem d_G_add_15 : decode b_G_add 15 = .ok (.iconst 5, 1) := by decide +kernel
theorem d_G_add_16 : decode b_G_add 16 = .ok (.imul, 1) := by decide +kernel
theorem d_G_add_17 : decode b_G_add 17 = .ok (.iconst 5, 1) := by decide +kernel
theorem d_G_add_18 : decode b_G_add 18 = .ok (.invokestatic 28, 3) := by decide +kernel
theorem d_G_add_21 : decode b_G_add 21 = .ok (.aload_n 0, 1) := by decide +kernel
theorem d_G_add_22 : decode b_G_add 22 = .ok (.getfield 21, 3) := by decide +kernel
theorem d_G_add_25 : decode b_G_add 25 = .ok (.iload 5, 2) := by decide +kernel
theorem d_G_add_27 : decode b_G_add 27 = .ok (.iconst 5, 1) := by decide +kernel
theorem d_G_add_28 : decode b_G_add 28 = .ok (.imul, 1) := by decide +kernel
theorem d_G_add_29 : decode b_G_add 29 = .ok (.iload_n 3, 1) := by decide +kernel
theorem d_G_add_30 : decode b_G_add 30 = .ok (.iadd, 1) := by decide +kernel
theorem d_G_add_31 : decode b_G_add 31 = .ok (.iconst 1, 1) := by decide +kernel
theorem d_G_add_32 : decode b_G_add 32 = .ok (.aload_n 0, 1) := by decide +kernel
theorem d_G_add_33 : decode b_G_add 33 = .ok (.iload_n 3, 1) := by decide +kernel
theorem d_G_add_34 : decode b_G_add 34 = .ok (.iload_n 1, 1) := by decide +kernel
theorem d_G_add_35 : decode b_G_add 35 = .ok (.invokevirtual 34, 3) := by decide +kernel
theorem d_G_add_38 : decode b_G_add 38 = .ok (.iadd, 1) := by decide +kernel
theorem d_G_add_39 : decode b_G_add 39 = .ok (.iastore, 1) := by decide +kernel
theorem d_G_add_40 : decode b_G_add 40 = .ok (.aload_n 0, 1) := by decide +kernel
theorem d_G_add_41 : decode b_G_add 41 = .ok (.getfield 9, 3) := by decide +kernel
theorem d_G_add_44 : decode b_G_add 44 = .ok (.iload 5, 2) := by decide +kernel
theorem d_G_add_46 : decode b_G_add 46 = .ok (.iload_n 1, 1) := by decide +kernel
theorem d_G_add_47 : decode b_G_add 47 = .ok (.iastore, 1) := by decide +kernel
theorem d_G_add_48 : decode b_G_add 48 = .ok (.aload_n 0, 1) := by decide +kernel
theorem d_G_add_49 : decode b_G_add 49 = .ok (.getfield 15, 3) := by decide +kernel
theorem d_G_add_52 : decode b_G_add 52 = .ok (.iload 5, 2) := by decide +kernel
theorem d_G_add_54 : decode b_G_add 54 = .ok (.iload_n 2, 1) := by decide +kernel
theorem d_G_add_55 : decode b_G_add 55 = .ok (.iastore, 1) := by decide +kernel
theorem d_G_add_56 : decode b_G_add 56 = .ok (.aload_n 0, 1) := by decide +kernel
theorem d_G_add_57 : decode b_G_add 57 = .ok (.getfield 18, 3) := by decide +kernel
theorem d_G_add_60 : decode b_G_add 60 = .ok (.iload 5, 2) := by decide +kernel
theorem d_G_add_62 : decode b_G_add 62 = .ok (.iload_n 3, 1) := by decide +kernel
theorem d_G_add_63 : decode b_G_add 63 = .ok (.iastore, 1) := by decide +kernel
theorem d_G_add_64 : decode b_G_add 64 = .ok (.aload_n 0, 1) := by decide +kernel
theorem d_G_add_65 : decode b_G_add 65 = .ok (.dup, 1) := by decide +kernel
theorem d_G_add_66 : decode b_G_add 66 = .ok (.getfield 24, 3) := by decide +kernel
theorem d_G_add_69 : decode b_G_add 69 = .ok (.iconst 1, 1) := by decide +kernel
theorem d_G_add_70 : decode b_G_add 70 = .ok (.iadd, 1) := by decide +kernel
theorem d_G_add_71 : decode b_G_add 71 = .ok (.putfield 24, 3) := by decide +kernel
theorem d_G_add_74 : decode b_G_add 74 = .ok (.iload 5, 2) := by decide +kernel
theorem d_G_add_76 : decode b_G_add 76 = .ok (.ireturn, 1) := by decide +kernel
theorem d_G_numberWritten_0 : decode b_G_numberWritten 0 = .ok (.iconst 0, 1) := by decide +kernel
theorem d_G_numberWritten_1 : decode b_G_numberWritten 1 = .ok (.istore_n 3, 1) := by decide +kernel
theorem d_G_numberWritten_2 : decode b_G_numberWritten 2 = .ok (.iconst 0, 1) := by decide +kernel
theorem d_G_numberWritten_3 : decode b_G_numberWritten 3 = .ok (.istore 4, 2) := by decide +kernel
theorem d_G_numberWritten_5 : decode b_G_numberWritten 5 = .ok (.iload 4, 2) := by decide +kernel
theorem d_G_numberWritten_7 : decode b_G_numberWritten 7 = .ok (.aload_n 0, 1) := by decide +kernel
theorem d_G_numberWritten_8 : decode b_G_numberWritten 8 = .ok (.getfield 24, 3) := by decide +kernel
theorem d_G_numberWritten_11 : decode b_G_numberWritten 11 = .ok (.if_icmp .ge 34, 3) := by decide +kernel
theorem d_G_numberWritten_14 : decode b_G_numberWritten 14 = .ok (.aload_n 0, 1) := by decide +kernel
theorem d_G_numberWritten_15 : decode b_G_numberWritten 15 = .ok (.getfield 18, 3) := by decide +kernel
theorem d_G_numberWritten_18 : decode b_G_numberWritten 18 = .ok (.iload 4, 2) := by decide +kernel
theorem d_G_numberWritten_20 : decode b_G_numberWritten 20 = .ok (.iaload, 1) := by decide +kernel
theorem d_G_numberWritten_21 : decode b_G_numberWritten 21 = .ok (.iload_n 1, 1) := by decide +kernel
theorem d_G_numberWritten_22 : decode b_G_numberWritten 22 = .ok (.if_icmp .ne 17, 3) := by decide +kernel
theorem d_G_numberWritten_25 : decode b_G_numberWritten 25 = .ok (.aload_n 0, 1) := by decide +kernel
theorem d_G_numberWritten_26 : decode b_G_numberWritten 26 = .ok (.getfield 9, 3) := by decide +kernel
theorem d_G_numberWritten_29 : decode b_G_numberWritten 29 = .ok (.iload 4, 2) := by decide +kernel
theorem d_G_numberWritten_31 : decode b_G_numberWritten 31 = .ok (.iaload, 1) := by decide +kernel
theorem d_G_numberWritten_32 : decode b_G_numberWritten 32 = .ok (.iload_n 2, 1) := by decide +kernel
theorem d_G_numberWritten_33 : decode b_G_numberWritten 33 = .ok (.if_icmp .ne 6, 3) := by decide +kernel
theorem d_G_numberWritten_36 : decode b_G_numberWritten 36 = .ok (.iinc 3 1, 3) := by decide +kernel
theorem d_G_numberWritten_39 : decode b_G_numberWritten 39 = .ok (.iinc 4 1, 3) := by decide +kernel
theorem d_G_numberWritten_42 : decode b_G_numberWritten 42 = .ok (.goto (-37), 3) := by decide +kernel
theorem d_G_numberWritten_45 : decode b_G_numberWritten 45 = .ok (.iload_n 3, 1) := by decide +kernel
theorem d_G_numberWritten_46 : decode b_G_numberWritten 46 = .ok (.ireturn, 1) := by decide +kernel
theorem d_G_isAtOrBelow_0 : decode b_G_isAtOrBelow 0 = .ok (.iconst 0, 1) := by decide +kernel
theorem d_G_isAtOrBelow_1 : decode b_G_isAtOrBelow 1 = .ok (.istore_n 3, 1) := by decide +kernel
theorem d_G_isAtOrBelow_2 : decode b_G_isAtOrBelow 2 = .ok (.iload_n 3, 1) := by decide +kernel
theorem d_G_isAtOrBelow_3 : decode b_G_isAtOrBelow 3 = .ok (.iconst 5, 1) := by decide +kernel
theorem d_G_isAtOrBelow_4 : decode b_G_isAtOrBelow 4 = .ok (.if_icmp .ge 26, 3) := by decide +kernel
theorem d_G_isAtOrBelow_7 : decode b_G_isAtOrBelow 7 = .ok (.aload_n 0, 1) := by decide +kernel
theorem d_G_isAtOrBelow_8 : decode b_G_isAtOrBelow 8 = .ok (.iload_n 1, 1) := by decide +kernel
theorem d_G_isAtOrBelow_9 : decode b_G_isAtOrBelow 9 = .ok (.iload_n 3, 1) := by decide +kernel
theorem d_G_isAtOrBelow_10 : decode b_G_isAtOrBelow 10 = .ok (.invokevirtual 38, 3) := by decide +kernel
theorem d_G_isAtOrBelow_13 : decode b_G_isAtOrBelow 13 = .ok (.aload_n 0, 1) := by decide +kernel
theorem d_G_isAtOrBelow_14 : decode b_G_isAtOrBelow 14 = .ok (.iload_n 2, 1) := by decide +kernel
theorem d_G_isAtOrBelow_15 : decode b_G_isAtOrBelow 15 = .ok (.iload_n 3, 1) := by decide +kernel
theorem d_G_isAtOrBelow_16 : decode b_G_isAtOrBelow 16 = .ok (.invokevirtual 38, 3) := by decide +kernel
theorem d_G_isAtOrBelow_19 : decode b_G_isAtOrBelow 19 = .ok (.if_icmp .le 5, 3) := by decide +kernel
theorem d_G_isAtOrBelow_22 : decode b_G_isAtOrBelow 22 = .ok (.iconst 0, 1) := by decide +kernel
theorem d_G_isAtOrBelow_23 : decode b_G_isAtOrBelow 23 = .ok (.ireturn, 1) := by decide +kernel
theorem d_G_isAtOrBelow_24 : decode b_G_isAtOrBelow 24 = .ok (.iinc 3 1, 3) := by decide +kernel
theorem d_G_isAtOrBelow_27 : decode b_G_isAtOrBelow 27 = .ok (.goto (-25), 3) := by decide +kernel
theorem d_G_isAtOrBelow_30 : decode b_G_isAtOrBelow 30 = .ok (.iconst 1, 1) := by decide +kernel
theorem d_G_isAtOrBelow_31 : decode b_G_isAtOrBelow 31 = .ok (.ireturn, 1) := by decide +kernel
theorem d_N_init_0 : decode b_N_init 0 = .ok (.aload_n 0, 1) := by decide +kernel
theorem d_N_init_1 : decode b_N_init 1 = .ok (.invokespecial 3, 3) := by decide +kernel
theorem d_N_init_4 : decode b_N_init 4 = .ok (.aload_n 0, 1) := by decide +kernel
theorem d_N_init_5 : decode b_N_init 5 = .ok (.aload_n 1, 1) := by decide +kernel
theorem d_N_init_6 : decode b_N_init 6 = .ok (.putfield 9, 3) := by decide +kernel
theorem d_N_init_9 : decode b_N_init 9 = .ok (.aload_n 0, 1) := by decide +kernel
theorem d_N_init_10 : decode b_N_init 10 = .ok (.bipush 40, 2) := by decide +kernel
theorem d_N_init_12 : decode b_N_init 12 = .ok (.newarray .boolean, 2) := by decide +kernel
theorem d_N_init_14 : decode b_N_init 14 = .ok (.putfield 15, 3) := by decide +kernel
theorem d_N_init_17 : decode b_N_init 17 = .ok (.aload_n 0, 1) := by decide +kernel
theorem d_N_init_18 : decode b_N_init 18 = .ok (.bipush 40, 2) := by decide +kernel
theorem d_N_init_20 : decode b_N_init 20 = .ok (.newarray .int, 2) := by decide +kernel
theorem d_N_init_22 : decode b_N_init 22 = .ok (.putfield 19, 3) := by decide +kernel
theorem d_N_init_25 : decode b_N_init 25 = .ok (.aload_n 0, 1) := by decide +kernel
theorem d_N_init_26 : decode b_N_init 26 = .ok (.getfield 19, 3) := by decide +kernel
theorem d_N_init_29 : decode b_N_init 29 = .ok (.iconst (-1), 1) := by decide +kernel
theorem d_N_init_30 : decode b_N_init 30 = .ok (.invokestatic 23, 3) := by decide +kernel
theorem d_N_init_33 : decode b_N_init 33 = .ok (.aload_n 0, 1) := by decide +kernel
theorem d_N_init_34 : decode b_N_init 34 = .ok (.iconst 1, 1) := by decide +kernel
theorem d_N_init_35 : decode b_N_init 35 = .ok (.putfield 29, 3) := by decide +kernel
theorem d_N_init_38 : decode b_N_init 38 = .ok (.return_, 1) := by decide +kernel
theorem d_N_hasHintOf_0 : decode b_N_hasHintOf 0 = .ok (.aload_n 0, 1) := by decide +kernel
theorem d_N_hasHintOf_1 : decode b_N_hasHintOf 1 = .ok (.getfield 19, 3) := by decide +kernel
theorem d_N_hasHintOf_4 : decode b_N_hasHintOf 4 = .ok (.iload_n 1, 1) := by decide +kernel
theorem d_N_hasHintOf_5 : decode b_N_hasHintOf 5 = .ok (.iaload, 1) := by decide +kernel
theorem d_N_hasHintOf_6 : decode b_N_hasHintOf 6 = .ok (.iconst (-1), 1) := by decide +kernel
theorem d_N_hasHintOf_7 : decode b_N_hasHintOf 7 = .ok (.if_icmp .eq 7, 3) := by decide +kernel
theorem d_N_hasHintOf_10 : decode b_N_hasHintOf 10 = .ok (.iconst 1, 1) := by decide +kernel
theorem d_N_hasHintOf_11 : decode b_N_hasHintOf 11 = .ok (.goto 4, 3) := by decide +kernel
theorem d_N_hasHintOf_14 : decode b_N_hasHintOf 14 = .ok (.iconst 0, 1) := by decide +kernel
theorem d_N_hasHintOf_15 : decode b_N_hasHintOf 15 = .ok (.ireturn, 1) := by decide +kernel
theorem d_N_take_0 : decode b_N_take 0 = .ok (.aload_n 0, 1) := by decide +kernel
theorem d_N_take_1 : decode b_N_take 1 = .ok (.iload_n 1, 1) := by decide +kernel
theorem d_N_take_2 : decode b_N_take 2 = .ok (.invokevirtual 33, 3) := by decide +kernel
theorem d_N_take_5 : decode b_N_take 5 = .ok (.ifCond .eq 5, 3) := by decide +kernel
theorem d_N_take_8 : decode b_N_take 8 = .ok (.iconst 0, 1) := by decide +kernel
theorem d_N_take_9 : decode b_N_take 9 = .ok (.ireturn, 1) := by decide +kernel
theorem d_N_take_10 : decode b_N_take 10 = .ok (.iconst 0, 1) := by decide +kernel
theorem d_N_take_11 : decode b_N_take 11 = .ok (.istore_n 2, 1) := by decide +kernel
theorem d_N_take_12 : decode b_N_take 12 = .ok (.iload_n 2, 1) := by decide +kernel
theorem d_N_take_13 : decode b_N_take 13 = .ok (.aload_n 0, 1) := by decide +kernel
theorem d_N_take_14 : decode b_N_take 14 = .ok (.getfield 9, 3) := by decide +kernel
theorem d_N_take_17 : decode b_N_take 17 = .ok (.getfield 37, 3) := by decide +kernel
theorem d_N_take_20 : decode b_N_take 20 = .ok (.if_icmp .ge 37, 3) := by decide +kernel
theorem d_N_take_23 : decode b_N_take 23 = .ok (.aload_n 0, 1) := by decide +kernel
theorem d_N_take_24 : decode b_N_take 24 = .ok (.iload_n 2, 1) := by decide +kernel
theorem d_N_take_25 : decode b_N_take 25 = .ok (.iload_n 1, 1) := by decide +kernel
theorem d_N_take_26 : decode b_N_take 26 = .ok (.invokevirtual 43, 3) := by decide +kernel
theorem d_N_take_29 : decode b_N_take 29 = .ok (.ifCond .eq 22, 3) := by decide +kernel
theorem d_N_take_32 : decode b_N_take 32 = .ok (.aload_n 0, 1) := by decide +kernel
theorem d_N_take_33 : decode b_N_take 33 = .ok (.getfield 9, 3) := by decide +kernel
theorem d_N_take_36 : decode b_N_take 36 = .ok (.iload_n 2, 1) := by decide +kernel
theorem d_N_take_37 : decode b_N_take 37 = .ok (.iload_n 1, 1) := by decide +kernel
theorem d_N_take_38 : decode b_N_take 38 = .ok (.invokevirtual 47, 3) := by decide +kernel
theorem d_N_take_41 : decode b_N_take 41 = .ok (.ifCond .eq 10, 3) := by decide +kernel
theorem d_N_take_44 : decode b_N_take 44 = .ok (.aload_n 0, 1) := by decide +kernel
theorem d_N_take_45 : decode b_N_take 45 = .ok (.getfield 15, 3) := by decide +kernel
theorem d_N_take_48 : decode b_N_take 48 = .ok (.iload_n 2, 1) := by decide +kernel
theorem d_N_take_49 : decode b_N_take 49 = .ok (.iconst 0, 1) := by decide +kernel
theorem d_N_take_50 : decode b_N_take 50 = .ok (.bastore, 1) := by decide +kernel
theorem d_N_take_51 : decode b_N_take 51 = .ok (.iinc 2 1, 3) := by decide +kernel
theorem d_N_take_54 : decode b_N_take 54 = .ok (.goto (-42), 3) := by decide +kernel
theorem d_N_take_57 : decode b_N_take 57 = .ok (.aload_n 0, 1) := by decide +kernel
theorem d_N_take_58 : decode b_N_take 58 = .ok (.getfield 15, 3) := by decide +kernel
theorem d_N_take_61 : decode b_N_take 61 = .ok (.iload_n 1, 1) := by decide +kernel
theorem d_N_take_62 : decode b_N_take 62 = .ok (.iconst 1, 1) := by decide +kernel
theorem d_N_take_63 : decode b_N_take 63 = .ok (.bastore, 1) := by decide +kernel
theorem d_N_take_64 : decode b_N_take 64 = .ok (.iconst 1, 1) := by decide +kernel
theorem d_N_take_65 : decode b_N_take 65 = .ok (.ireturn, 1) := by decide +kernel
theorem d_N_isPassed_0 : decode b_N_isPassed 0 = .ok (.iconst 0, 1) := by decide +kernel
theorem d_N_isPassed_1 : decode b_N_isPassed 1 = .ok (.istore_n 2, 1) := by decide +kernel
theorem d_N_isPassed_2 : decode b_N_isPassed 2 = .ok (.iload_n 2, 1) := by decide +kernel
theorem d_N_isPassed_3 : decode b_N_isPassed 3 = .ok (.aload_n 0, 1) := by decide +kernel
theorem d_N_isPassed_4 : decode b_N_isPassed 4 = .ok (.getfield 9, 3) := by decide +kernel
theorem d_N_isPassed_7 : decode b_N_isPassed 7 = .ok (.getfield 37, 3) := by decide +kernel
theorem d_N_isPassed_10 : decode b_N_isPassed 10 = .ok (.if_icmp .ge 32, 3) := by decide +kernel
theorem d_N_isPassed_13 : decode b_N_isPassed 13 = .ok (.aload_n 0, 1) := by decide +kernel
theorem d_N_isPassed_14 : decode b_N_isPassed 14 = .ok (.iload_n 2, 1) := by decide +kernel
theorem d_N_isPassed_15 : decode b_N_isPassed 15 = .ok (.iload_n 1, 1) := by decide +kernel
theorem d_N_isPassed_16 : decode b_N_isPassed 16 = .ok (.invokevirtual 43, 3) := by decide +kernel
theorem d_N_isPassed_19 : decode b_N_isPassed 19 = .ok (.ifCond .eq 17, 3) := by decide +kernel
theorem d_N_isPassed_22 : decode b_N_isPassed 22 = .ok (.aload_n 0, 1) := by decide +kernel
theorem d_N_isPassed_23 : decode b_N_isPassed 23 = .ok (.getfield 9, 3) := by decide +kernel
theorem d_N_isPassed_26 : decode b_N_isPassed 26 = .ok (.iload_n 1, 1) := by decide +kernel
theorem d_N_isPassed_27 : decode b_N_isPassed 27 = .ok (.iload_n 2, 1) := by decide +kernel
theorem d_N_isPassed_28 : decode b_N_isPassed 28 = .ok (.invokevirtual 47, 3) := by decide +kernel
theorem d_N_isPassed_31 : decode b_N_isPassed 31 = .ok (.ifCond .eq 5, 3) := by decide +kernel
theorem d_N_isPassed_34 : decode b_N_isPassed 34 = .ok (.iconst 1, 1) := by decide +kernel
theorem d_N_isPassed_35 : decode b_N_isPassed 35 = .ok (.ireturn, 1) := by decide +kernel
theorem d_N_isPassed_36 : decode b_N_isPassed 36 = .ok (.iinc 2 1, 3) := by decide +kernel
theorem d_N_isPassed_39 : decode b_N_isPassed 39 = .ok (.goto (-37), 3) := by decide +kernel
theorem d_N_isPassed_42 : decode b_N_isPassed 42 = .ok (.iconst 0, 1) := by decide +kernel
theorem d_N_isPassed_43 : decode b_N_isPassed 43 = .ok (.ireturn, 1) := by decide +kernel
theorem d_N_hasBeside_0 : decode b_N_hasBeside 0 = .ok (.aload_n 0, 1) := by decide +kernel
theorem d_N_hasBeside_1 : decode b_N_hasBeside 1 = .ok (.getfield 15, 3) := by decide +kernel
theorem d_N_hasBeside_4 : decode b_N_hasBeside 4 = .ok (.iload_n 1, 1) := by decide +kernel
theorem d_N_hasBeside_5 : decode b_N_hasBeside 5 = .ok (.baload, 1) := by decide +kernel
theorem d_N_hasBeside_6 : decode b_N_hasBeside 6 = .ok (.ifCond .eq 28, 3) := by decide +kernel
theorem d_N_hasBeside_9 : decode b_N_hasBeside 9 = .ok (.aload_n 0, 1) := by decide +kernel
theorem d_N_hasBeside_10 : decode b_N_hasBeside 10 = .ok (.getfield 9, 3) := by decide +kernel
theorem d_N_hasBeside_13 : decode b_N_hasBeside 13 = .ok (.getfield 50, 3) := by decide +kernel
theorem d_N_hasBeside_16 : decode b_N_hasBeside 16 = .ok (.iload_n 1, 1) := by decide +kernel
theorem d_N_hasBeside_17 : decode b_N_hasBeside 17 = .ok (.iaload, 1) := by decide +kernel
theorem d_N_hasBeside_18 : decode b_N_hasBeside 18 = .ok (.aload_n 0, 1) := by decide +kernel
theorem d_N_hasBeside_19 : decode b_N_hasBeside 19 = .ok (.getfield 9, 3) := by decide +kernel
theorem d_N_hasBeside_22 : decode b_N_hasBeside 22 = .ok (.getfield 50, 3) := by decide +kernel
theorem d_N_hasBeside_25 : decode b_N_hasBeside 25 = .ok (.iload_n 2, 1) := by decide +kernel
theorem d_N_hasBeside_26 : decode b_N_hasBeside 26 = .ok (.iaload, 1) := by decide +kernel
theorem d_N_hasBeside_27 : decode b_N_hasBeside 27 = .ok (.if_icmp .ne 7, 3) := by decide +kernel
theorem d_N_hasBeside_30 : decode b_N_hasBeside 30 = .ok (.iconst 1, 1) := by decide +kernel
theorem d_N_hasBeside_31 : decode b_N_hasBeside 31 = .ok (.goto 4, 3) := by decide +kernel
theorem d_N_hasBeside_34 : decode b_N_hasBeside 34 = .ok (.iconst 0, 1) := by decide +kernel
theorem d_N_hasBeside_35 : decode b_N_hasBeside 35 = .ok (.ireturn, 1) := by decide +kernel
theorem d_N_takeAll_0 : decode b_N_takeAll 0 = .ok (.iconst 0, 1) := by decide +kernel
theorem d_N_takeAll_1 : decode b_N_takeAll 1 = .ok (.istore_n 2, 1) := by decide +kernel
theorem d_N_takeAll_2 : decode b_N_takeAll 2 = .ok (.iconst 0, 1) := by decide +kernel
theorem d_N_takeAll_3 : decode b_N_takeAll 3 = .ok (.istore_n 3, 1) := by decide +kernel
theorem d_N_takeAll_4 : decode b_N_takeAll 4 = .ok (.iload_n 3, 1) := by decide +kernel
theorem d_N_takeAll_5 : decode b_N_takeAll 5 = .ok (.aload_n 0, 1) := by decide +kernel
theorem d_N_takeAll_6 : decode b_N_takeAll 6 = .ok (.getfield 9, 3) := by decide +kernel
theorem d_N_takeAll_9 : decode b_N_takeAll 9 = .ok (.getfield 37, 3) := by decide +kernel
theorem d_N_takeAll_12 : decode b_N_takeAll 12 = .ok (.if_icmp .ge 26, 3) := by decide +kernel
theorem d_N_takeAll_15 : decode b_N_takeAll 15 = .ok (.aload_n 1, 1) := by decide +kernel
theorem d_N_takeAll_16 : decode b_N_takeAll 16 = .ok (.iload_n 3, 1) := by decide +kernel
theorem d_N_takeAll_17 : decode b_N_takeAll 17 = .ok (.baload, 1) := by decide +kernel
theorem d_N_takeAll_18 : decode b_N_takeAll 18 = .ok (.ifCond .eq 14, 3) := by decide +kernel
theorem d_N_takeAll_21 : decode b_N_takeAll 21 = .ok (.aload_n 0, 1) := by decide +kernel
theorem d_N_takeAll_22 : decode b_N_takeAll 22 = .ok (.iload_n 3, 1) := by decide +kernel
theorem d_N_takeAll_23 : decode b_N_takeAll 23 = .ok (.invokevirtual 53, 3) := by decide +kernel
theorem d_N_takeAll_26 : decode b_N_takeAll 26 = .ok (.ifCond .eq 6, 3) := by decide +kernel
theorem d_N_takeAll_29 : decode b_N_takeAll 29 = .ok (.iinc 2 1, 3) := by decide +kernel
theorem d_N_takeAll_32 : decode b_N_takeAll 32 = .ok (.iinc 3 1, 3) := by decide +kernel
theorem d_N_takeAll_35 : decode b_N_takeAll 35 = .ok (.goto (-31), 3) := by decide +kernel
theorem d_N_takeAll_38 : decode b_N_takeAll 38 = .ok (.iload_n 2, 1) := by decide +kernel
theorem d_N_takeAll_39 : decode b_N_takeAll 39 = .ok (.ireturn, 1) := by decide +kernel
theorem d_N_dropAll_0 : decode b_N_dropAll 0 = .ok (.iconst 0, 1) := by decide +kernel
theorem d_N_dropAll_1 : decode b_N_dropAll 1 = .ok (.istore_n 2, 1) := by decide +kernel
theorem d_N_dropAll_2 : decode b_N_dropAll 2 = .ok (.iload_n 2, 1) := by decide +kernel
theorem d_N_dropAll_3 : decode b_N_dropAll 3 = .ok (.aload_n 0, 1) := by decide +kernel
theorem d_N_dropAll_4 : decode b_N_dropAll 4 = .ok (.getfield 9, 3) := by decide +kernel
theorem d_N_dropAll_7 : decode b_N_dropAll 7 = .ok (.getfield 37, 3) := by decide +kernel
theorem d_N_dropAll_10 : decode b_N_dropAll 10 = .ok (.if_icmp .ge 22, 3) := by decide +kernel
theorem d_N_dropAll_13 : decode b_N_dropAll 13 = .ok (.aload_n 1, 1) := by decide +kernel
theorem d_N_dropAll_14 : decode b_N_dropAll 14 = .ok (.iload_n 2, 1) := by decide +kernel
theorem d_N_dropAll_15 : decode b_N_dropAll 15 = .ok (.baload, 1) := by decide +kernel
theorem d_N_dropAll_16 : decode b_N_dropAll 16 = .ok (.ifCond .eq 10, 3) := by decide +kernel
theorem d_N_dropAll_19 : decode b_N_dropAll 19 = .ok (.aload_n 0, 1) := by decide +kernel
theorem d_N_dropAll_20 : decode b_N_dropAll 20 = .ok (.getfield 15, 3) := by decide +kernel
theorem d_N_dropAll_23 : decode b_N_dropAll 23 = .ok (.iload_n 2, 1) := by decide +kernel
theorem d_N_dropAll_24 : decode b_N_dropAll 24 = .ok (.iconst 0, 1) := by decide +kernel
theorem d_N_dropAll_25 : decode b_N_dropAll 25 = .ok (.bastore, 1) := by decide +kernel
theorem d_N_dropAll_26 : decode b_N_dropAll 26 = .ok (.iinc 2 1, 3) := by decide +kernel
theorem d_N_dropAll_29 : decode b_N_dropAll 29 = .ok (.goto (-27), 3) := by decide +kernel
theorem d_N_dropAll_32 : decode b_N_dropAll 32 = .ok (.return_, 1) := by decide +kernel
theorem d_N_writeOut_0 : decode b_N_writeOut 0 = .ok (.iconst 0, 1) := by decide +kernel
theorem d_N_writeOut_1 : decode b_N_writeOut 1 = .ok (.istore_n 3, 1) := by decide +kernel
theorem d_N_writeOut_2 : decode b_N_writeOut 2 = .ok (.iconst 0, 1) := by decide +kernel
theorem d_N_writeOut_3 : decode b_N_writeOut 3 = .ok (.istore 4, 2) := by decide +kernel
theorem d_N_writeOut_5 : decode b_N_writeOut 5 = .ok (.iload 4, 2) := by decide +kernel
theorem d_N_writeOut_7 : decode b_N_writeOut 7 = .ok (.aload_n 0, 1) := by decide +kernel
theorem d_N_writeOut_8 : decode b_N_writeOut 8 = .ok (.getfield 9, 3) := by decide +kernel
theorem d_N_writeOut_11 : decode b_N_writeOut 11 = .ok (.getfield 37, 3) := by decide +kernel
theorem d_N_writeOut_14 : decode b_N_writeOut 14 = .ok (.if_icmp .ge 52, 3) := by decide +kernel
theorem d_N_writeOut_17 : decode b_N_writeOut 17 = .ok (.aload_n 2, 1) := by decide +kernel
theorem d_N_writeOut_18 : decode b_N_writeOut 18 = .ok (.iload 4, 2) := by decide +kernel
theorem d_N_writeOut_20 : decode b_N_writeOut 20 = .ok (.aload_n 0, 1) := by decide +kernel
theorem d_N_writeOut_21 : decode b_N_writeOut 21 = .ok (.getfield 15, 3) := by decide +kernel
theorem d_N_writeOut_24 : decode b_N_writeOut 24 = .ok (.iload 4, 2) := by decide +kernel
theorem d_N_writeOut_26 : decode b_N_writeOut 26 = .ok (.baload, 1) := by decide +kernel
theorem d_N_writeOut_27 : decode b_N_writeOut 27 = .ok (.ifCond .eq 21, 3) := by decide +kernel
theorem d_N_writeOut_30 : decode b_N_writeOut 30 = .ok (.aload_n 0, 1) := by decide +kernel
theorem d_N_writeOut_31 : decode b_N_writeOut 31 = .ok (.getfield 9, 3) := by decide +kernel
theorem d_N_writeOut_34 : decode b_N_writeOut 34 = .ok (.getfield 50, 3) := by decide +kernel
theorem d_N_writeOut_37 : decode b_N_writeOut 37 = .ok (.iload 4, 2) := by decide +kernel
theorem d_N_writeOut_39 : decode b_N_writeOut 39 = .ok (.iaload, 1) := by decide +kernel
theorem d_N_writeOut_40 : decode b_N_writeOut 40 = .ok (.iload_n 1, 1) := by decide +kernel
theorem d_N_writeOut_41 : decode b_N_writeOut 41 = .ok (.if_icmp .ne 7, 3) := by decide +kernel
theorem d_N_writeOut_44 : decode b_N_writeOut 44 = .ok (.iconst 1, 1) := by decide +kernel
theorem d_N_writeOut_45 : decode b_N_writeOut 45 = .ok (.goto 4, 3) := by decide +kernel
theorem d_N_writeOut_48 : decode b_N_writeOut 48 = .ok (.iconst 0, 1) := by decide +kernel
theorem d_N_writeOut_49 : decode b_N_writeOut 49 = .ok (.bastore, 1) := by decide +kernel
theorem d_N_writeOut_50 : decode b_N_writeOut 50 = .ok (.aload_n 2, 1) := by decide +kernel
theorem d_N_writeOut_51 : decode b_N_writeOut 51 = .ok (.iload 4, 2) := by decide +kernel
theorem d_N_writeOut_53 : decode b_N_writeOut 53 = .ok (.baload, 1) := by decide +kernel
theorem d_N_writeOut_54 : decode b_N_writeOut 54 = .ok (.ifCond .eq 6, 3) := by decide +kernel
theorem d_N_writeOut_57 : decode b_N_writeOut 57 = .ok (.iinc 3 1, 3) := by decide +kernel
theorem d_N_writeOut_60 : decode b_N_writeOut 60 = .ok (.iinc 4 1, 3) := by decide +kernel
theorem d_N_writeOut_63 : decode b_N_writeOut 63 = .ok (.goto (-58), 3) := by decide +kernel
theorem d_N_writeOut_66 : decode b_N_writeOut 66 = .ok (.iload_n 3, 1) := by decide +kernel
theorem d_N_writeOut_67 : decode b_N_writeOut 67 = .ok (.ireturn, 1) := by decide +kernel
theorem d_C_init_0 : decode b_C_init 0 = .ok (.aload_n 0, 1) := by decide +kernel
theorem d_C_init_1 : decode b_C_init 1 = .ok (.invokespecial 3, 3) := by decide +kernel
theorem d_C_init_4 : decode b_C_init 4 = .ok (.aload_n 0, 1) := by decide +kernel
theorem d_C_init_5 : decode b_C_init 5 = .ok (.iconst 5, 1) := by decide +kernel
theorem d_C_init_6 : decode b_C_init 6 = .ok (.newarray .int, 2) := by decide +kernel
theorem d_C_init_8 : decode b_C_init 8 = .ok (.putfield 9, 3) := by decide +kernel
theorem d_C_init_11 : decode b_C_init 11 = .ok (.aload_n 0, 1) := by decide +kernel
theorem d_C_init_12 : decode b_C_init 12 = .ok (.iconst (-1), 1) := by decide +kernel
theorem d_C_init_13 : decode b_C_init 13 = .ok (.putfield 15, 3) := by decide +kernel
theorem d_C_init_16 : decode b_C_init 16 = .ok (.return_, 1) := by decide +kernel
theorem d_C_isEmpty_0 : decode b_C_isEmpty 0 = .ok (.aload_n 0, 1) := by decide +kernel
theorem d_C_isEmpty_1 : decode b_C_isEmpty 1 = .ok (.getfield 15, 3) := by decide +kernel
theorem d_C_isEmpty_4 : decode b_C_isEmpty 4 = .ok (.iconst (-1), 1) := by decide +kernel
theorem d_C_isEmpty_5 : decode b_C_isEmpty 5 = .ok (.if_icmp .ne 7, 3) := by decide +kernel
theorem d_C_isEmpty_8 : decode b_C_isEmpty 8 = .ok (.iconst 1, 1) := by decide +kernel
theorem d_C_isEmpty_9 : decode b_C_isEmpty 9 = .ok (.goto 4, 3) := by decide +kernel
theorem d_C_isEmpty_12 : decode b_C_isEmpty 12 = .ok (.iconst 0, 1) := by decide +kernel
theorem d_C_isEmpty_13 : decode b_C_isEmpty 13 = .ok (.ireturn, 1) := by decide +kernel
