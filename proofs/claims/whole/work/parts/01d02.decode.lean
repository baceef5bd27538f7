theorem d_C_learn_0 : decode b_C_learn 0 = .ok (.aload_n 0, 1) := by decide +kernel
theorem d_C_learn_1 : decode b_C_learn 1 = .ok (.iload_n 1, 1) := by decide +kernel
theorem d_C_learn_2 : decode b_C_learn 2 = .ok (.putfield 15, 3) := by decide +kernel
theorem d_C_learn_5 : decode b_C_learn 5 = .ok (.aload_n 0, 1) := by decide +kernel
theorem d_C_learn_6 : decode b_C_learn 6 = .ok (.getfield 9, 3) := by decide +kernel
theorem d_C_learn_9 : decode b_C_learn 9 = .ok (.iconst 0, 1) := by decide +kernel
theorem d_C_learn_10 : decode b_C_learn 10 = .ok (.invokestatic 19, 3) := by decide +kernel
theorem d_C_learn_13 : decode b_C_learn 13 = .ok (.iconst 0, 1) := by decide +kernel
theorem d_C_learn_14 : decode b_C_learn 14 = .ok (.istore 4, 2) := by decide +kernel
theorem d_C_learn_16 : decode b_C_learn 16 = .ok (.iload 4, 2) := by decide +kernel
theorem d_C_learn_18 : decode b_C_learn 18 = .ok (.aload_n 3, 1) := by decide +kernel
theorem d_C_learn_19 : decode b_C_learn 19 = .ok (.getfield 25, 3) := by decide +kernel
theorem d_C_learn_22 : decode b_C_learn 22 = .ok (.if_icmp .ge 23, 3) := by decide +kernel
theorem d_C_learn_25 : decode b_C_learn 25 = .ok (.aload_n 2, 1) := by decide +kernel
theorem d_C_learn_26 : decode b_C_learn 26 = .ok (.iload 4, 2) := by decide +kernel
theorem d_C_learn_28 : decode b_C_learn 28 = .ok (.baload, 1) := by decide +kernel
theorem d_C_learn_29 : decode b_C_learn 29 = .ok (.ifCond .eq 10, 3) := by decide +kernel
theorem d_C_learn_32 : decode b_C_learn 32 = .ok (.aload_n 0, 1) := by decide +kernel
theorem d_C_learn_33 : decode b_C_learn 33 = .ok (.iload 4, 2) := by decide +kernel
theorem d_C_learn_35 : decode b_C_learn 35 = .ok (.aload_n 3, 1) := by decide +kernel
theorem d_C_learn_36 : decode b_C_learn 36 = .ok (.invokevirtual 30, 3) := by decide +kernel
theorem d_C_learn_39 : decode b_C_learn 39 = .ok (.iinc 4 1, 3) := by decide +kernel
theorem d_C_learn_42 : decode b_C_learn 42 = .ok (.goto (-26), 3) := by decide +kernel
theorem d_C_learn_45 : decode b_C_learn 45 = .ok (.return_, 1) := by decide +kernel
theorem d_C_rise_0 : decode b_C_rise 0 = .ok (.iconst 0, 1) := by decide +kernel
theorem d_C_rise_1 : decode b_C_rise 1 = .ok (.istore_n 3, 1) := by decide +kernel
theorem d_C_rise_2 : decode b_C_rise 2 = .ok (.iload_n 3, 1) := by decide +kernel
theorem d_C_rise_3 : decode b_C_rise 3 = .ok (.iconst 5, 1) := by decide +kernel
theorem d_C_rise_4 : decode b_C_rise 4 = .ok (.if_icmp .ge 30, 3) := by decide +kernel
theorem d_C_rise_7 : decode b_C_rise 7 = .ok (.aload_n 0, 1) := by decide +kernel
theorem d_C_rise_8 : decode b_C_rise 8 = .ok (.getfield 9, 3) := by decide +kernel
theorem d_C_rise_11 : decode b_C_rise 11 = .ok (.iload_n 3, 1) := by decide +kernel
theorem d_C_rise_12 : decode b_C_rise 12 = .ok (.aload_n 0, 1) := by decide +kernel
theorem d_C_rise_13 : decode b_C_rise 13 = .ok (.getfield 9, 3) := by decide +kernel
theorem d_C_rise_16 : decode b_C_rise 16 = .ok (.iload_n 3, 1) := by decide +kernel
theorem d_C_rise_17 : decode b_C_rise 17 = .ok (.iaload, 1) := by decide +kernel
theorem d_C_rise_18 : decode b_C_rise 18 = .ok (.aload_n 2, 1) := by decide +kernel
theorem d_C_rise_19 : decode b_C_rise 19 = .ok (.iload_n 1, 1) := by decide +kernel
theorem d_C_rise_20 : decode b_C_rise 20 = .ok (.iload_n 3, 1) := by decide +kernel
theorem d_C_rise_21 : decode b_C_rise 21 = .ok (.invokevirtual 34, 3) := by decide +kernel
theorem d_C_rise_24 : decode b_C_rise 24 = .ok (.invokestatic 38, 3) := by decide +kernel
theorem d_C_rise_27 : decode b_C_rise 27 = .ok (.iastore, 1) := by decide +kernel
theorem d_C_rise_28 : decode b_C_rise 28 = .ok (.iinc 3 1, 3) := by decide +kernel
theorem d_C_rise_31 : decode b_C_rise 31 = .ok (.goto (-29), 3) := by decide +kernel
theorem d_C_rise_34 : decode b_C_rise 34 = .ok (.return_, 1) := by decide +kernel
