theorem d_V_home_11 : decode b_V_home 11 = .ok (.iconst (-1), 1) := by decide +kernel
theorem d_V_home_12 : decode b_V_home 12 = .ok (.ireturn, 1) := by decide +kernel
theorem d_V_home_13 : decode b_V_home 13 = .ok (.aload_n 0, 1) := by decide +kernel
theorem d_V_home_14 : decode b_V_home 14 = .ok (.getfield 18, 3) := by decide +kernel
theorem d_V_home_17 : decode b_V_home 17 = .ok (.iload_n 1, 1) := by decide +kernel
theorem d_V_home_18 : decode b_V_home 18 = .ok (.invokevirtual 178, 3) := by decide +kernel
theorem d_V_home_21 : decode b_V_home 21 = .ok (.iload_n 2, 1) := by decide +kernel
theorem d_V_home_22 : decode b_V_home 22 = .ok (.aload_n 0, 1) := by decide +kernel
theorem d_V_home_23 : decode b_V_home 23 = .ok (.getfield 18, 3) := by decide +kernel
theorem d_V_home_26 : decode b_V_home 26 = .ok (.getfield 181, 3) := by decide +kernel
theorem d_V_home_29 : decode b_V_home 29 = .ok (.if_icmp .ge 15, 3) := by decide +kernel
theorem d_V_home_32 : decode b_V_home 32 = .ok (.aload_n 0, 1) := by decide +kernel
theorem d_V_home_33 : decode b_V_home 33 = .ok (.getfield 18, 3) := by decide +kernel
theorem d_V_home_36 : decode b_V_home 36 = .ok (.getfield 184, 3) := by decide +kernel
theorem d_V_home_39 : decode b_V_home 39 = .ok (.iload_n 2, 1) := by decide +kernel
theorem d_V_home_40 : decode b_V_home 40 = .ok (.iaload, 1) := by decide +kernel
theorem d_V_home_41 : decode b_V_home 41 = .ok (.goto 4, 3) := by decide +kernel
theorem d_V_home_44 : decode b_V_home 44 = .ok (.iconst (-1), 1) := by decide +kernel
theorem d_V_home_45 : decode b_V_home 45 = .ok (.ireturn, 1) := by decide +kernel
theorem d_V_targets_0 : decode b_V_targets 0 = .ok (.iload_n 1, 1) := by decide +kernel
theorem d_V_targets_1 : decode b_V_targets 1 = .ok (.invokestatic 77, 3) := by decide +kernel
theorem d_V_targets_4 : decode b_V_targets 4 = .ok (.ifCond .eq 10, 3) := by decide +kernel
theorem d_V_targets_7 : decode b_V_targets 7 = .ok (.iload_n 2, 1) := by decide +kernel
theorem d_V_targets_8 : decode b_V_targets 8 = .ok (.invokestatic 98, 3) := by decide +kernel
theorem d_V_targets_11 : decode b_V_targets 11 = .ok (.ifCond .ne 5, 3) := by decide +kernel
theorem d_V_targets_14 : decode b_V_targets 14 = .ok (.iconst 0, 1) := by decide +kernel
theorem d_V_targets_15 : decode b_V_targets 15 = .ok (.ireturn, 1) := by decide +kernel
theorem d_V_targets_16 : decode b_V_targets 16 = .ok (.aload_n 0, 1) := by decide +kernel
theorem d_V_targets_17 : decode b_V_targets 17 = .ok (.iload_n 1, 1) := by decide +kernel
theorem d_V_targets_18 : decode b_V_targets 18 = .ok (.iload_n 2, 1) := by decide +kernel
theorem d_V_targets_19 : decode b_V_targets 19 = .ok (.invokevirtual 107, 3) := by decide +kernel
theorem d_V_targets_22 : decode b_V_targets 22 = .ok (.aload_n 0, 1) := by decide +kernel
theorem d_V_targets_23 : decode b_V_targets 23 = .ok (.getfield 111, 3) := by decide +kernel
theorem d_V_targets_26 : decode b_V_targets 26 = .ok (.ireturn, 1) := by decide +kernel
theorem d_V_holds_0 : decode b_V_holds 0 = .ok (.iload_n 1, 1) := by decide +kernel
theorem d_V_holds_1 : decode b_V_holds 1 = .ok (.invokestatic 77, 3) := by decide +kernel
theorem d_V_holds_4 : decode b_V_holds 4 = .ok (.ifCond .eq 14, 3) := by decide +kernel
theorem d_V_holds_7 : decode b_V_holds 7 = .ok (.aload_n 0, 1) := by decide +kernel
theorem d_V_holds_8 : decode b_V_holds 8 = .ok (.getfield 34, 3) := by decide +kernel
theorem d_V_holds_11 : decode b_V_holds 11 = .ok (.iload_n 2, 1) := by decide +kernel
theorem d_V_holds_12 : decode b_V_holds 12 = .ok (.invokevirtual 187, 3) := by decide +kernel
theorem d_V_holds_15 : decode b_V_holds 15 = .ok (.ifCond .ne 5, 3) := by decide +kernel
theorem d_V_holds_18 : decode b_V_holds 18 = .ok (.iconst (-1), 1) := by decide +kernel
theorem d_V_holds_19 : decode b_V_holds 19 = .ok (.ireturn, 1) := by decide +kernel
theorem d_V_holds_20 : decode b_V_holds 20 = .ok (.aload_n 0, 1) := by decide +kernel
theorem d_V_holds_21 : decode b_V_holds 21 = .ok (.getfield 40, 3) := by decide +kernel
theorem d_V_holds_24 : decode b_V_holds 24 = .ok (.iload_n 1, 1) := by decide +kernel
theorem d_V_holds_25 : decode b_V_holds 25 = .ok (.aaload, 1) := by decide +kernel
theorem d_V_holds_26 : decode b_V_holds 26 = .ok (.getfield 190, 3) := by decide +kernel
theorem d_V_holds_29 : decode b_V_holds 29 = .ok (.iload_n 2, 1) := by decide +kernel
theorem d_V_holds_30 : decode b_V_holds 30 = .ok (.baload, 1) := by decide +kernel
theorem d_V_holds_31 : decode b_V_holds 31 = .ok (.ifCond .eq 7, 3) := by decide +kernel
theorem d_V_holds_34 : decode b_V_holds 34 = .ok (.iconst 1, 1) := by decide +kernel
theorem d_V_holds_35 : decode b_V_holds 35 = .ok (.goto 4, 3) := by decide +kernel
theorem d_V_holds_38 : decode b_V_holds 38 = .ok (.iconst 0, 1) := by decide +kernel
theorem d_V_holds_39 : decode b_V_holds 39 = .ok (.istore_n 3, 1) := by decide +kernel
theorem d_V_holds_40 : decode b_V_holds 40 = .ok (.aload_n 0, 1) := by decide +kernel
theorem d_V_holds_41 : decode b_V_holds 41 = .ok (.getfield 40, 3) := by decide +kernel
theorem d_V_holds_44 : decode b_V_holds 44 = .ok (.iload_n 1, 1) := by decide +kernel
theorem d_V_holds_45 : decode b_V_holds 45 = .ok (.aaload, 1) := by decide +kernel
theorem d_V_holds_46 : decode b_V_holds 46 = .ok (.iload_n 2, 1) := by decide +kernel
theorem d_V_holds_47 : decode b_V_holds 47 = .ok (.invokevirtual 193, 3) := by decide +kernel
theorem d_V_holds_50 : decode b_V_holds 50 = .ok (.ifCond .eq 7, 3) := by decide +kernel
theorem d_V_holds_53 : decode b_V_holds 53 = .ok (.iconst 2, 1) := by decide +kernel
theorem d_V_holds_54 : decode b_V_holds 54 = .ok (.goto 4, 3) := by decide +kernel
theorem d_V_holds_57 : decode b_V_holds 57 = .ok (.iconst 0, 1) := by decide +kernel
theorem d_V_holds_58 : decode b_V_holds 58 = .ok (.istore 4, 2) := by decide +kernel
theorem d_V_holds_60 : decode b_V_holds 60 = .ok (.iload_n 3, 1) := by decide +kernel
theorem d_V_holds_61 : decode b_V_holds 61 = .ok (.iload 4, 2) := by decide +kernel
theorem d_V_holds_63 : decode b_V_holds 63 = .ok (.iadd, 1) := by decide +kernel
theorem d_V_holds_64 : decode b_V_holds 64 = .ok (.ireturn, 1) := by decide +kernel
theorem d_V_count_0 : decode b_V_count 0 = .ok (.iload_n 1, 1) := by decide +kernel
theorem d_V_count_1 : decode b_V_count 1 = .ok (.invokestatic 77, 3) := by decide +kernel
theorem d_V_count_4 : decode b_V_count 4 = .ok (.ifCond .eq 10, 3) := by decide +kernel
theorem d_V_count_7 : decode b_V_count 7 = .ok (.iload_n 2, 1) := by decide +kernel
theorem d_V_count_8 : decode b_V_count 8 = .ok (.invokestatic 98, 3) := by decide +kernel
theorem d_V_count_11 : decode b_V_count 11 = .ok (.ifCond .ne 5, 3) := by decide +kernel
theorem d_V_count_14 : decode b_V_count 14 = .ok (.iconst (-1), 1) := by decide +kernel
theorem d_V_count_15 : decode b_V_count 15 = .ok (.ireturn, 1) := by decide +kernel
theorem d_V_count_16 : decode b_V_count 16 = .ok (.aload_n 0, 1) := by decide +kernel
theorem d_V_count_17 : decode b_V_count 17 = .ok (.getfield 40, 3) := by decide +kernel
theorem d_V_count_20 : decode b_V_count 20 = .ok (.iload_n 1, 1) := by decide +kernel
theorem d_V_count_21 : decode b_V_count 21 = .ok (.aaload, 1) := by decide +kernel
theorem d_V_count_22 : decode b_V_count 22 = .ok (.iload_n 2, 1) := by decide +kernel
theorem d_V_count_23 : decode b_V_count 23 = .ok (.aload_n 0, 1) := by decide +kernel
theorem d_V_count_24 : decode b_V_count 24 = .ok (.getfield 68, 3) := by decide +kernel
theorem d_V_count_27 : decode b_V_count 27 = .ok (.invokevirtual 196, 3) := by decide +kernel
theorem d_V_count_30 : decode b_V_count 30 = .ok (.ireturn, 1) := by decide +kernel
theorem d_V_hints_0 : decode b_V_hints 0 = .ok (.iload_n 1, 1) := by decide +kernel
theorem d_V_hints_1 : decode b_V_hints 1 = .ok (.invokestatic 77, 3) := by decide +kernel
theorem d_V_hints_4 : decode b_V_hints 4 = .ok (.ifCond .ne 5, 3) := by decide +kernel
theorem d_V_hints_7 : decode b_V_hints 7 = .ok (.iconst (-1), 1) := by decide +kernel
theorem d_V_hints_8 : decode b_V_hints 8 = .ok (.ireturn, 1) := by decide +kernel
theorem d_V_hints_9 : decode b_V_hints 9 = .ok (.iconst 0, 1) := by decide +kernel
theorem d_V_hints_10 : decode b_V_hints 10 = .ok (.istore_n 2, 1) := by decide +kernel
theorem d_V_hints_11 : decode b_V_hints 11 = .ok (.iconst 0, 1) := by decide +kernel
theorem d_V_hints_12 : decode b_V_hints 12 = .ok (.istore_n 3, 1) := by decide +kernel
theorem d_V_hints_13 : decode b_V_hints 13 = .ok (.iload_n 3, 1) := by decide +kernel
theorem d_V_hints_14 : decode b_V_hints 14 = .ok (.aload_n 0, 1) := by decide +kernel
theorem d_V_hints_15 : decode b_V_hints 15 = .ok (.getfield 34, 3) := by decide +kernel
theorem d_V_hints_18 : decode b_V_hints 18 = .ok (.getfield 104, 3) := by decide +kernel
theorem d_V_hints_21 : decode b_V_hints 21 = .ok (.if_icmp .ge 25, 3) := by decide +kernel
theorem d_V_hints_24 : decode b_V_hints 24 = .ok (.aload_n 0, 1) := by decide +kernel
theorem d_V_hints_25 : decode b_V_hints 25 = .ok (.getfield 40, 3) := by decide +kernel
theorem d_V_hints_28 : decode b_V_hints 28 = .ok (.iload_n 1, 1) := by decide +kernel
theorem d_V_hints_29 : decode b_V_hints 29 = .ok (.aaload, 1) := by decide +kernel
theorem d_V_hints_30 : decode b_V_hints 30 = .ok (.iload_n 3, 1) := by decide +kernel
theorem d_V_hints_31 : decode b_V_hints 31 = .ok (.invokevirtual 193, 3) := by decide +kernel
theorem d_V_hints_34 : decode b_V_hints 34 = .ok (.ifCond .eq 6, 3) := by decide +kernel
theorem d_V_hints_37 : decode b_V_hints 37 = .ok (.iinc 2 1, 3) := by decide +kernel
theorem d_V_hints_40 : decode b_V_hints 40 = .ok (.iinc 3 1, 3) := by decide +kernel
theorem d_V_hints_43 : decode b_V_hints 43 = .ok (.goto (-30), 3) := by decide +kernel
theorem d_V_hints_46 : decode b_V_hints 46 = .ok (.iload_n 2, 1) := by decide +kernel
theorem d_V_hints_47 : decode b_V_hints 47 = .ok (.ireturn, 1) := by decide +kernel
theorem d_V_versions_0 : decode b_V_versions 0 = .ok (.aload_n 0, 1) := by decide +kernel
theorem d_V_versions_1 : decode b_V_versions 1 = .ok (.getfield 34, 3) := by decide +kernel
theorem d_V_versions_4 : decode b_V_versions 4 = .ok (.getfield 104, 3) := by decide +kernel
theorem d_V_versions_7 : decode b_V_versions 7 = .ok (.ireturn, 1) := by decide +kernel
theorem d_V_version_0 : decode b_V_version 0 = .ok (.aload_n 0, 1) := by decide +kernel
theorem d_V_version_1 : decode b_V_version 1 = .ok (.getfield 34, 3) := by decide +kernel
theorem d_V_version_4 : decode b_V_version 4 = .ok (.iload_n 1, 1) := by decide +kernel
theorem d_V_version_5 : decode b_V_version 5 = .ok (.invokevirtual 187, 3) := by decide +kernel
theorem d_V_version_8 : decode b_V_version 8 = .ok (.ifCond .ne 5, 3) := by decide +kernel
theorem d_V_version_11 : decode b_V_version 11 = .ok (.iconst 0, 1) := by decide +kernel
theorem d_V_version_12 : decode b_V_version 12 = .ok (.ireturn, 1) := by decide +kernel
theorem d_V_version_13 : decode b_V_version 13 = .ok (.iload_n 2, 1) := by decide +kernel
theorem d_V_version_14 : decode b_V_version 14 = .ok (.iconst 5, 1) := by decide +kernel
theorem d_V_version_15 : decode b_V_version 15 = .ok (.if_icmp .ne 13, 3) := by decide +kernel
theorem d_V_version_18 : decode b_V_version 18 = .ok (.aload_n 0, 1) := by decide +kernel
theorem d_V_version_19 : decode b_V_version 19 = .ok (.getfield 34, 3) := by decide +kernel
theorem d_V_version_22 : decode b_V_version 22 = .ok (.getfield 200, 3) := by decide +kernel
theorem d_V_version_25 : decode b_V_version 25 = .ok (.iload_n 1, 1) := by decide +kernel
theorem d_V_version_26 : decode b_V_version 26 = .ok (.iaload, 1) := by decide +kernel
theorem d_V_version_27 : decode b_V_version 27 = .ok (.ireturn, 1) := by decide +kernel
theorem d_V_version_28 : decode b_V_version 28 = .ok (.iload_n 2, 1) := by decide +kernel
theorem d_V_version_29 : decode b_V_version 29 = .ok (.bipush 6, 2) := by decide +kernel
theorem d_V_version_31 : decode b_V_version 31 = .ok (.if_icmp .ne 13, 3) := by decide +kernel
theorem d_V_version_34 : decode b_V_version 34 = .ok (.aload_n 0, 1) := by decide +kernel
theorem d_V_version_35 : decode b_V_version 35 = .ok (.getfield 34, 3) := by decide +kernel
theorem d_V_version_38 : decode b_V_version 38 = .ok (.getfield 203, 3) := by decide +kernel
theorem d_V_version_41 : decode b_V_version 41 = .ok (.iload_n 1, 1) := by decide +kernel
theorem d_V_version_42 : decode b_V_version 42 = .ok (.iaload, 1) := by decide +kernel
theorem d_V_version_43 : decode b_V_version 43 = .ok (.ireturn, 1) := by decide +kernel
theorem d_V_version_44 : decode b_V_version 44 = .ok (.iload_n 2, 1) := by decide +kernel
theorem d_V_version_45 : decode b_V_version 45 = .ok (.invokestatic 77, 3) := by decide +kernel
theorem d_V_version_48 : decode b_V_version 48 = .ok (.ifCond .eq 15, 3) := by decide +kernel
theorem d_V_version_51 : decode b_V_version 51 = .ok (.aload_n 0, 1) := by decide +kernel
theorem d_V_version_52 : decode b_V_version 52 = .ok (.getfield 34, 3) := by decide +kernel
theorem d_V_version_55 : decode b_V_version 55 = .ok (.iload_n 1, 1) := by decide +kernel
theorem d_V_version_56 : decode b_V_version 56 = .ok (.iload_n 2, 1) := by decide +kernel
theorem d_V_version_57 : decode b_V_version 57 = .ok (.invokevirtual 206, 3) := by decide +kernel
theorem d_V_version_60 : decode b_V_version 60 = .ok (.goto 4, 3) := by decide +kernel
theorem d_V_version_63 : decode b_V_version 63 = .ok (.iconst 0, 1) := by decide +kernel
theorem d_V_version_64 : decode b_V_version 64 = .ok (.ireturn, 1) := by decide +kernel
theorem d_V_context_0 : decode b_V_context 0 = .ok (.iload_n 1, 1) := by decide +kernel
theorem d_V_context_1 : decode b_V_context 1 = .ok (.invokestatic 130, 3) := by decide +kernel
theorem d_V_context_4 : decode b_V_context 4 = .ok (.ifCond .eq 22, 3) := by decide +kernel
theorem d_V_context_7 : decode b_V_context 7 = .ok (.iload_n 2, 1) := by decide +kernel
theorem d_V_context_8 : decode b_V_context 8 = .ok (.invokestatic 77, 3) := by decide +kernel
theorem d_V_context_11 : decode b_V_context 11 = .ok (.ifCond .eq 15, 3) := by decide +kernel
theorem d_V_context_14 : decode b_V_context 14 = .ok (.aload_n 0, 1) := by decide +kernel
theorem d_V_context_15 : decode b_V_context 15 = .ok (.getfield 49, 3) := by decide +kernel
theorem d_V_context_18 : decode b_V_context 18 = .ok (.iload_n 1, 1) := by decide +kernel
theorem d_V_context_19 : decode b_V_context 19 = .ok (.aaload, 1) := by decide +kernel
theorem d_V_context_20 : decode b_V_context 20 = .ok (.invokevirtual 209, 3) := by decide +kernel
theorem d_V_context_23 : decode b_V_context 23 = .ok (.ifCond .eq 5, 3) := by decide +kernel
theorem d_V_context_26 : decode b_V_context 26 = .ok (.iconst (-1), 1) := by decide +kernel
theorem d_V_context_27 : decode b_V_context 27 = .ok (.ireturn, 1) := by decide +kernel
theorem d_V_context_28 : decode b_V_context 28 = .ok (.aload_n 0, 1) := by decide +kernel
theorem d_V_context_29 : decode b_V_context 29 = .ok (.getfield 49, 3) := by decide +kernel
theorem d_V_context_32 : decode b_V_context 32 = .ok (.iload_n 1, 1) := by decide +kernel
theorem d_V_context_33 : decode b_V_context 33 = .ok (.aaload, 1) := by decide +kernel
theorem d_V_context_34 : decode b_V_context 34 = .ok (.getfield 117, 3) := by decide +kernel
theorem d_V_context_37 : decode b_V_context 37 = .ok (.iload_n 2, 1) := by decide +kernel
theorem d_V_context_38 : decode b_V_context 38 = .ok (.iaload, 1) := by decide +kernel
theorem d_V_context_39 : decode b_V_context 39 = .ok (.ireturn, 1) := by decide +kernel
theorem d_V_isNode_0 : decode b_V_isNode 0 = .ok (.iload_n 0, 1) := by decide +kernel
theorem d_V_isNode_1 : decode b_V_isNode 1 = .ok (.ifCond .lt 12, 3) := by decide +kernel
theorem d_V_isNode_4 : decode b_V_isNode 4 = .ok (.iload_n 0, 1) := by decide +kernel
theorem d_V_isNode_5 : decode b_V_isNode 5 = .ok (.iconst 5, 1) := by decide +kernel
theorem d_V_isNode_6 : decode b_V_isNode 6 = .ok (.if_icmp .ge 7, 3) := by decide +kernel
theorem d_V_isNode_9 : decode b_V_isNode 9 = .ok (.iconst 1, 1) := by decide +kernel
theorem d_V_isNode_10 : decode b_V_isNode 10 = .ok (.goto 4, 3) := by decide +kernel
theorem d_V_isNode_13 : decode b_V_isNode 13 = .ok (.iconst 0, 1) := by decide +kernel
theorem d_V_isNode_14 : decode b_V_isNode 14 = .ok (.ireturn, 1) := by decide +kernel
theorem d_V_areTwoNodes_0 : decode b_V_areTwoNodes 0 = .ok (.iload_n 0, 1) := by decide +kernel
theorem d_V_areTwoNodes_1 : decode b_V_areTwoNodes 1 = .ok (.invokestatic 77, 3) := by decide +kernel
theorem d_V_areTwoNodes_4 : decode b_V_areTwoNodes 4 = .ok (.ifCond .eq 19, 3) := by decide +kernel
theorem d_V_areTwoNodes_7 : decode b_V_areTwoNodes 7 = .ok (.iload_n 1, 1) := by decide +kernel
theorem d_V_areTwoNodes_8 : decode b_V_areTwoNodes 8 = .ok (.invokestatic 77, 3) := by decide +kernel
theorem d_V_areTwoNodes_11 : decode b_V_areTwoNodes 11 = .ok (.ifCond .eq 12, 3) := by decide +kernel
theorem d_V_areTwoNodes_14 : decode b_V_areTwoNodes 14 = .ok (.iload_n 0, 1) := by decide +kernel
theorem d_V_areTwoNodes_15 : decode b_V_areTwoNodes 15 = .ok (.iload_n 1, 1) := by decide +kernel
theorem d_V_areTwoNodes_16 : decode b_V_areTwoNodes 16 = .ok (.if_icmp .eq 7, 3) := by decide +kernel
theorem d_V_areTwoNodes_19 : decode b_V_areTwoNodes 19 = .ok (.iconst 1, 1) := by decide +kernel
theorem d_V_areTwoNodes_20 : decode b_V_areTwoNodes 20 = .ok (.goto 4, 3) := by decide +kernel
theorem d_V_areTwoNodes_23 : decode b_V_areTwoNodes 23 = .ok (.iconst 0, 1) := by decide +kernel
theorem d_V_areTwoNodes_24 : decode b_V_areTwoNodes 24 = .ok (.ireturn, 1) := by decide +kernel
theorem d_V_isPosition_0 : decode b_V_isPosition 0 = .ok (.iload_n 0, 1) := by decide +kernel
theorem d_V_isPosition_1 : decode b_V_isPosition 1 = .ok (.ifCond .lt 13, 3) := by decide +kernel
theorem d_V_isPosition_4 : decode b_V_isPosition 4 = .ok (.iload_n 0, 1) := by decide +kernel
theorem d_V_isPosition_5 : decode b_V_isPosition 5 = .ok (.bipush 16, 2) := by decide +kernel
theorem d_V_isPosition_7 : decode b_V_isPosition 7 = .ok (.if_icmp .ge 7, 3) := by decide +kernel
theorem d_V_isPosition_10 : decode b_V_isPosition 10 = .ok (.iconst 1, 1) := by decide +kernel
theorem d_V_isPosition_11 : decode b_V_isPosition 11 = .ok (.goto 4, 3) := by decide +kernel
theorem d_V_isPosition_14 : decode b_V_isPosition 14 = .ok (.iconst 0, 1) := by decide +kernel
theorem d_V_isPosition_15 : decode b_V_isPosition 15 = .ok (.ireturn, 1) := by decide +kernel
theorem d_V_isKey_0 : decode b_V_isKey 0 = .ok (.iload_n 0, 1) := by decide +kernel
theorem d_V_isKey_1 : decode b_V_isKey 1 = .ok (.ifCond .lt 13, 3) := by decide +kernel
theorem d_V_isKey_4 : decode b_V_isKey 4 = .ok (.iload_n 0, 1) := by decide +kernel
theorem d_V_isKey_5 : decode b_V_isKey 5 = .ok (.bipush 32, 2) := by decide +kernel
theorem d_V_isKey_7 : decode b_V_isKey 7 = .ok (.if_icmp .ge 7, 3) := by decide +kernel
theorem d_V_isKey_10 : decode b_V_isKey 10 = .ok (.iconst 1, 1) := by decide +kernel
theorem d_V_isKey_11 : decode b_V_isKey 11 = .ok (.goto 4, 3) := by decide +kernel
theorem d_V_isKey_14 : decode b_V_isKey 14 = .ok (.iconst 0, 1) := by decide +kernel
theorem d_V_isKey_15 : decode b_V_isKey 15 = .ok (.ireturn, 1) := by decide +kernel
theorem d_V_isContext_0 : decode b_V_isContext 0 = .ok (.iload_n 0, 1) := by decide +kernel
theorem d_V_isContext_1 : decode b_V_isContext 1 = .ok (.ifCond .lt 12, 3) := by decide +kernel
theorem d_V_isContext_4 : decode b_V_isContext 4 = .ok (.iload_n 0, 1) := by decide +kernel
theorem d_V_isContext_5 : decode b_V_isContext 5 = .ok (.iconst 4, 1) := by decide +kernel
theorem d_V_isContext_6 : decode b_V_isContext 6 = .ok (.if_icmp .ge 7, 3) := by decide +kernel
theorem d_V_isContext_9 : decode b_V_isContext 9 = .ok (.iconst 1, 1) := by decide +kernel
theorem d_V_isContext_10 : decode b_V_isContext 10 = .ok (.goto 4, 3) := by decide +kernel
theorem d_V_isContext_13 : decode b_V_isContext 13 = .ok (.iconst 0, 1) := by decide +kernel
theorem d_V_isContext_14 : decode b_V_isContext 14 = .ok (.ireturn, 1) := by decide +kernel
theorem d_V_mayKnow_0 : decode b_V_mayKnow 0 = .ok (.iload_n 1, 1) := by decide +kernel
theorem d_V_mayKnow_1 : decode b_V_mayKnow 1 = .ok (.iconst (-1), 1) := by decide +kernel
theorem d_V_mayKnow_2 : decode b_V_mayKnow 2 = .ok (.if_icmp .ne 5, 3) := by decide +kernel
theorem d_V_mayKnow_5 : decode b_V_mayKnow 5 = .ok (.iconst 1, 1) := by decide +kernel
theorem d_V_mayKnow_6 : decode b_V_mayKnow 6 = .ok (.ireturn, 1) := by decide +kernel
theorem d_V_mayKnow_7 : decode b_V_mayKnow 7 = .ok (.iload_n 1, 1) := by decide +kernel
theorem d_V_mayKnow_8 : decode b_V_mayKnow 8 = .ok (.invokestatic 130, 3) := by decide +kernel
theorem d_V_mayKnow_11 : decode b_V_mayKnow 11 = .ok (.ifCond .eq 32, 3) := by decide +kernel
theorem d_V_mayKnow_14 : decode b_V_mayKnow 14 = .ok (.aload_n 0, 1) := by decide +kernel
theorem d_V_mayKnow_15 : decode b_V_mayKnow 15 = .ok (.getfield 49, 3) := by decide +kernel
theorem d_V_mayKnow_18 : decode b_V_mayKnow 18 = .ok (.iload_n 1, 1) := by decide +kernel
theorem d_V_mayKnow_19 : decode b_V_mayKnow 19 = .ok (.aaload, 1) := by decide +kernel
theorem d_V_mayKnow_20 : decode b_V_mayKnow 20 = .ok (.invokevirtual 209, 3) := by decide +kernel
theorem d_V_mayKnow_23 : decode b_V_mayKnow 23 = .ok (.ifCond .ne 16, 3) := by decide +kernel
theorem d_V_mayKnow_26 : decode b_V_mayKnow 26 = .ok (.aload_n 0, 1) := by decide +kernel
theorem d_V_mayKnow_27 : decode b_V_mayKnow 27 = .ok (.getfield 49, 3) := by decide +kernel
theorem d_V_mayKnow_30 : decode b_V_mayKnow 30 = .ok (.iload_n 1, 1) := by decide +kernel
theorem d_V_mayKnow_31 : decode b_V_mayKnow 31 = .ok (.aaload, 1) := by decide +kernel
theorem d_V_mayKnow_32 : decode b_V_mayKnow 32 = .ok (.getfield 213, 3) := by decide +kernel
theorem d_V_mayKnow_35 : decode b_V_mayKnow 35 = .ok (.iload_n 2, 1) := by decide +kernel
theorem d_V_mayKnow_36 : decode b_V_mayKnow 36 = .ok (.if_icmp .ne 7, 3) := by decide +kernel
theorem d_V_mayKnow_39 : decode b_V_mayKnow 39 = .ok (.iconst 1, 1) := by decide +kernel
theorem d_V_mayKnow_40 : decode b_V_mayKnow 40 = .ok (.goto 4, 3) := by decide +kernel
theorem d_V_mayKnow_43 : decode b_V_mayKnow 43 = .ok (.iconst 0, 1) := by decide +kernel
theorem d_V_mayKnow_44 : decode b_V_mayKnow 44 = .ok (.ireturn, 1) := by decide +kernel
theorem d_V_line_0 : decode b_V_line 0 = .ok (.iload_n 0, 1) := by decide +kernel
theorem d_V_line_1 : decode b_V_line 1 = .ok (.iload_n 1, 1) := by decide +kernel
theorem d_V_line_2 : decode b_V_line 2 = .ok (.invokestatic 7, 3) := by decide +kernel
theorem d_V_line_5 : decode b_V_line 5 = .ok (.iconst 5, 1) := by decide +kernel
theorem d_V_line_6 : decode b_V_line 6 = .ok (.imul, 1) := by decide +kernel
theorem d_V_line_7 : decode b_V_line 7 = .ok (.iload_n 0, 1) := by decide +kernel
theorem d_V_line_8 : decode b_V_line 8 = .ok (.iload_n 1, 1) := by decide +kernel
theorem d_V_line_9 : decode b_V_line 9 = .ok (.invokestatic 216, 3) := by decide +kernel
theorem d_V_line_12 : decode b_V_line 12 = .ok (.iadd, 1) := by decide +kernel
theorem d_V_line_13 : decode b_V_line 13 = .ok (.ireturn, 1) := by decide +kernel
theorem d_V_reaches_0 : decode b_V_reaches 0 = .ok (.aload_n 0, 1) := by decide +kernel
theorem d_V_reaches_1 : decode b_V_reaches 1 = .ok (.getfield 40, 3) := by decide +kernel
theorem d_V_reaches_4 : decode b_V_reaches 4 = .ok (.iload_n 1, 1) := by decide +kernel
theorem d_V_reaches_5 : decode b_V_reaches 5 = .ok (.aaload, 1) := by decide +kernel
theorem d_V_reaches_6 : decode b_V_reaches 6 = .ok (.getfield 87, 3) := by decide +kernel
theorem d_V_reaches_9 : decode b_V_reaches 9 = .ok (.ifCond .eq 32, 3) := by decide +kernel
theorem d_V_reaches_12 : decode b_V_reaches 12 = .ok (.aload_n 0, 1) := by decide +kernel
theorem d_V_reaches_13 : decode b_V_reaches 13 = .ok (.getfield 40, 3) := by decide +kernel
theorem d_V_reaches_16 : decode b_V_reaches 16 = .ok (.iload_n 2, 1) := by decide +kernel
theorem d_V_reaches_17 : decode b_V_reaches 17 = .ok (.aaload, 1) := by decide +kernel
theorem d_V_reaches_18 : decode b_V_reaches 18 = .ok (.getfield 87, 3) := by decide +kernel
theorem d_V_reaches_21 : decode b_V_reaches 21 = .ok (.ifCond .eq 20, 3) := by decide +kernel
theorem d_V_reaches_24 : decode b_V_reaches 24 = .ok (.aload_n 0, 1) := by decide +kernel
theorem d_V_reaches_25 : decode b_V_reaches 25 = .ok (.getfield 54, 3) := by decide +kernel
theorem d_V_reaches_28 : decode b_V_reaches 28 = .ok (.iload_n 1, 1) := by decide +kernel
theorem d_V_reaches_29 : decode b_V_reaches 29 = .ok (.iload_n 2, 1) := by decide +kernel
theorem d_V_reaches_30 : decode b_V_reaches 30 = .ok (.invokestatic 95, 3) := by decide +kernel
theorem d_V_reaches_33 : decode b_V_reaches 33 = .ok (.baload, 1) := by decide +kernel
theorem d_V_reaches_34 : decode b_V_reaches 34 = .ok (.ifCond .ne 7, 3) := by decide +kernel
theorem d_V_reaches_37 : decode b_V_reaches 37 = .ok (.iconst 1, 1) := by decide +kernel
theorem d_V_reaches_38 : decode b_V_reaches 38 = .ok (.goto 4, 3) := by decide +kernel
theorem d_V_reaches_41 : decode b_V_reaches 41 = .ok (.iconst 0, 1) := by decide +kernel
theorem d_V_reaches_42 : decode b_V_reaches 42 = .ok (.ireturn, 1) := by decide +kernel
theorem d_V_aim_0 : decode b_V_aim 0 = .ok (.aload_n 0, 1) := by decide +kernel
theorem d_V_aim_1 : decode b_V_aim 1 = .ok (.getfield 18, 3) := by decide +kernel
theorem d_V_aim_4 : decode b_V_aim 4 = .ok (.iload_n 2, 1) := by decide +kernel
theorem d_V_aim_5 : decode b_V_aim 5 = .ok (.invokevirtual 178, 3) := by decide +kernel
theorem d_V_aim_8 : decode b_V_aim 8 = .ok (.aload_n 0, 1) := by decide +kernel
theorem d_V_aim_9 : decode b_V_aim 9 = .ok (.iconst 0, 1) := by decide +kernel
theorem d_V_aim_10 : decode b_V_aim 10 = .ok (.putfield 111, 3) := by decide +kernel
theorem d_V_aim_13 : decode b_V_aim 13 = .ok (.aload_n 0, 1) := by decide +kernel
theorem d_V_aim_14 : decode b_V_aim 14 = .ok (.iconst 0, 1) := by decide +kernel
theorem d_V_aim_15 : decode b_V_aim 15 = .ok (.putfield 147, 3) := by decide +kernel
theorem d_V_aim_18 : decode b_V_aim 18 = .ok (.iconst 0, 1) := by decide +kernel
theorem d_V_aim_19 : decode b_V_aim 19 = .ok (.istore_n 3, 1) := by decide +kernel
theorem d_V_aim_20 : decode b_V_aim 20 = .ok (.iload_n 3, 1) := by decide +kernel
theorem d_V_aim_21 : decode b_V_aim 21 = .ok (.aload_n 0, 1) := by decide +kernel
theorem d_V_aim_22 : decode b_V_aim 22 = .ok (.getfield 18, 3) := by decide +kernel
theorem d_V_aim_25 : decode b_V_aim 25 = .ok (.getfield 219, 3) := by decide +kernel
theorem d_V_aim_28 : decode b_V_aim 28 = .ok (.if_icmp .ge 89, 3) := by decide +kernel
theorem d_V_aim_31 : decode b_V_aim 31 = .ok (.aload_n 0, 1) := by decide +kernel
theorem d_V_aim_32 : decode b_V_aim 32 = .ok (.getfield 111, 3) := by decide +kernel
theorem d_V_aim_35 : decode b_V_aim 35 = .ok (.aload_n 0, 1) := by decide +kernel
theorem d_V_aim_36 : decode b_V_aim 36 = .ok (.getfield 18, 3) := by decide +kernel
theorem d_V_aim_39 : decode b_V_aim 39 = .ok (.getfield 222, 3) := by decide +kernel
theorem d_V_aim_42 : decode b_V_aim 42 = .ok (.if_icmp .ge 69, 3) := by decide +kernel
theorem d_V_aim_45 : decode b_V_aim 45 = .ok (.aload_n 0, 1) := by decide +kernel
theorem d_V_aim_46 : decode b_V_aim 46 = .ok (.iload_n 1, 1) := by decide +kernel
theorem d_V_aim_47 : decode b_V_aim 47 = .ok (.aload_n 0, 1) := by decide +kernel
theorem d_V_aim_48 : decode b_V_aim 48 = .ok (.getfield 18, 3) := by decide +kernel
theorem d_V_aim_51 : decode b_V_aim 51 = .ok (.getfield 184, 3) := by decide +kernel
theorem d_V_aim_54 : decode b_V_aim 54 = .ok (.iload_n 3, 1) := by decide +kernel
theorem d_V_aim_55 : decode b_V_aim 55 = .ok (.iaload, 1) := by decide +kernel
theorem d_V_aim_56 : decode b_V_aim 56 = .ok (.invokevirtual 161, 3) := by decide +kernel
theorem d_V_aim_59 : decode b_V_aim 59 = .ok (.ifCond .eq 52, 3) := by decide +kernel
theorem d_V_aim_62 : decode b_V_aim 62 = .ok (.aload_n 0, 1) := by decide +kernel
theorem d_V_aim_63 : decode b_V_aim 63 = .ok (.getfield 61, 3) := by decide +kernel
theorem d_V_aim_66 : decode b_V_aim 66 = .ok (.aload_n 0, 1) := by decide +kernel
theorem d_V_aim_67 : decode b_V_aim 67 = .ok (.getfield 111, 3) := by decide +kernel
theorem d_V_aim_70 : decode b_V_aim 70 = .ok (.aload_n 0, 1) := by decide +kernel
theorem d_V_aim_71 : decode b_V_aim 71 = .ok (.getfield 18, 3) := by decide +kernel
theorem d_V_aim_74 : decode b_V_aim 74 = .ok (.getfield 184, 3) := by decide +kernel
theorem d_V_aim_77 : decode b_V_aim 77 = .ok (.iload_n 3, 1) := by decide +kernel
theorem d_V_aim_78 : decode b_V_aim 78 = .ok (.iaload, 1) := by decide +kernel
theorem d_V_aim_79 : decode b_V_aim 79 = .ok (.iastore, 1) := by decide +kernel
theorem d_V_aim_80 : decode b_V_aim 80 = .ok (.aload_n 0, 1) := by decide +kernel
theorem d_V_aim_81 : decode b_V_aim 81 = .ok (.dup, 1) := by decide +kernel
theorem d_V_aim_82 : decode b_V_aim 82 = .ok (.getfield 111, 3) := by decide +kernel
theorem d_V_aim_85 : decode b_V_aim 85 = .ok (.iconst 1, 1) := by decide +kernel
theorem d_V_aim_86 : decode b_V_aim 86 = .ok (.iadd, 1) := by decide +kernel
theorem d_V_aim_87 : decode b_V_aim 87 = .ok (.putfield 111, 3) := by decide +kernel
theorem d_V_aim_90 : decode b_V_aim 90 = .ok (.iload_n 3, 1) := by decide +kernel
theorem d_V_aim_91 : decode b_V_aim 91 = .ok (.aload_n 0, 1) := by decide +kernel
theorem d_V_aim_92 : decode b_V_aim 92 = .ok (.getfield 18, 3) := by decide +kernel
theorem d_V_aim_95 : decode b_V_aim 95 = .ok (.getfield 181, 3) := by decide +kernel
theorem d_V_aim_98 : decode b_V_aim 98 = .ok (.if_icmp .ge 13, 3) := by decide +kernel
theorem d_V_aim_101 : decode b_V_aim 101 = .ok (.aload_n 0, 1) := by decide +kernel
theorem d_V_aim_102 : decode b_V_aim 102 = .ok (.dup, 1) := by decide +kernel
theorem d_V_aim_103 : decode b_V_aim 103 = .ok (.getfield 147, 3) := by decide +kernel
theorem d_V_aim_106 : decode b_V_aim 106 = .ok (.iconst 1, 1) := by decide +kernel
theorem d_V_aim_107 : decode b_V_aim 107 = .ok (.iadd, 1) := by decide +kernel
theorem d_V_aim_108 : decode b_V_aim 108 = .ok (.putfield 147, 3) := by decide +kernel
theorem d_V_aim_111 : decode b_V_aim 111 = .ok (.iinc 3 1, 3) := by decide +kernel
theorem d_V_aim_114 : decode b_V_aim 114 = .ok (.goto (-94), 3) := by decide +kernel
theorem d_V_aim_117 : decode b_V_aim 117 = .ok (.return_, 1) := by decide +kernel
theorem d_V_sendToHomes_0 : decode b_V_sendToHomes 0 = .ok (.iconst 0, 1) := by decide +kernel
theorem d_V_sendToHomes_1 : decode b_V_sendToHomes 1 = .ok (.istore_n 2, 1) := by decide +kernel
theorem d_V_sendToHomes_2 : decode b_V_sendToHomes 2 = .ok (.iload_n 2, 1) := by decide +kernel
theorem d_V_sendToHomes_3 : decode b_V_sendToHomes 3 = .ok (.aload_n 0, 1) := by decide +kernel
theorem d_V_sendToHomes_4 : decode b_V_sendToHomes 4 = .ok (.getfield 147, 3) := by decide +kernel
theorem d_V_sendToHomes_7 : decode b_V_sendToHomes 7 = .ok (.if_icmp .ge 25, 3) := by decide +kernel
theorem d_V_sendToHomes_10 : decode b_V_sendToHomes 10 = .ok (.aload_n 0, 1) := by decide +kernel
theorem d_V_sendToHomes_11 : decode b_V_sendToHomes 11 = .ok (.getfield 40, 3) := by decide +kernel
theorem d_V_sendToHomes_14 : decode b_V_sendToHomes 14 = .ok (.aload_n 0, 1) := by decide +kernel
theorem d_V_sendToHomes_15 : decode b_V_sendToHomes 15 = .ok (.getfield 61, 3) := by decide +kernel
theorem d_V_sendToHomes_18 : decode b_V_sendToHomes 18 = .ok (.iload_n 2, 1) := by decide +kernel
theorem d_V_sendToHomes_19 : decode b_V_sendToHomes 19 = .ok (.iaload, 1) := by decide +kernel
theorem d_V_sendToHomes_20 : decode b_V_sendToHomes 20 = .ok (.aaload, 1) := by decide +kernel
theorem d_V_sendToHomes_21 : decode b_V_sendToHomes 21 = .ok (.iload_n 1, 1) := by decide +kernel
theorem d_V_sendToHomes_22 : decode b_V_sendToHomes 22 = .ok (.invokevirtual 225, 3) := by decide +kernel
theorem d_V_sendToHomes_25 : decode b_V_sendToHomes 25 = .ok (.pop, 1) := by decide +kernel
theorem d_V_sendToHomes_26 : decode b_V_sendToHomes 26 = .ok (.iinc 2 1, 3) := by decide +kernel
theorem d_V_sendToHomes_29 : decode b_V_sendToHomes 29 = .ok (.goto (-27), 3) := by decide +kernel
theorem d_V_sendToHomes_32 : decode b_V_sendToHomes 32 = .ok (.return_, 1) := by decide +kernel
theorem d_V_leaveHints_0 : decode b_V_leaveHints 0 = .ok (.aload_n 0, 1) := by decide +kernel
theorem d_V_leaveHints_1 : decode b_V_leaveHints 1 = .ok (.getfield 147, 3) := by decide +kernel
theorem d_V_leaveHints_4 : decode b_V_leaveHints 4 = .ok (.istore_n 3, 1) := by decide +kernel
theorem d_V_leaveHints_5 : decode b_V_leaveHints 5 = .ok (.iconst 0, 1) := by decide +kernel
theorem d_V_leaveHints_6 : decode b_V_leaveHints 6 = .ok (.istore 4, 2) := by decide +kernel
theorem d_V_leaveHints_8 : decode b_V_leaveHints 8 = .ok (.iload 4, 2) := by decide +kernel
theorem d_V_leaveHints_10 : decode b_V_leaveHints 10 = .ok (.aload_n 0, 1) := by decide +kernel
theorem d_V_leaveHints_11 : decode b_V_leaveHints 11 = .ok (.getfield 18, 3) := by decide +kernel
theorem d_V_leaveHints_14 : decode b_V_leaveHints 14 = .ok (.getfield 181, 3) := by decide +kernel
theorem d_V_leaveHints_17 : decode b_V_leaveHints 17 = .ok (.if_icmp .ge 60, 3) := by decide +kernel
theorem d_V_leaveHints_20 : decode b_V_leaveHints 20 = .ok (.aload_n 0, 1) := by decide +kernel
theorem d_V_leaveHints_21 : decode b_V_leaveHints 21 = .ok (.getfield 18, 3) := by decide +kernel
theorem d_V_leaveHints_24 : decode b_V_leaveHints 24 = .ok (.getfield 184, 3) := by decide +kernel
theorem d_V_leaveHints_27 : decode b_V_leaveHints 27 = .ok (.iload 4, 2) := by decide +kernel
theorem d_V_leaveHints_29 : decode b_V_leaveHints 29 = .ok (.iaload, 1) := by decide +kernel
theorem d_V_leaveHints_30 : decode b_V_leaveHints 30 = .ok (.istore 5, 2) := by decide +kernel
theorem d_V_leaveHints_32 : decode b_V_leaveHints 32 = .ok (.iload_n 3, 1) := by decide +kernel
theorem d_V_leaveHints_33 : decode b_V_leaveHints 33 = .ok (.aload_n 0, 1) := by decide +kernel
theorem d_V_leaveHints_34 : decode b_V_leaveHints 34 = .ok (.getfield 111, 3) := by decide +kernel
theorem d_V_leaveHints_37 : decode b_V_leaveHints 37 = .ok (.if_icmp .ge 34, 3) := by decide +kernel
theorem d_V_leaveHints_40 : decode b_V_leaveHints 40 = .ok (.aload_n 0, 1) := by decide +kernel
theorem d_V_leaveHints_41 : decode b_V_leaveHints 41 = .ok (.iload_n 1, 1) := by decide +kernel
theorem d_V_leaveHints_42 : decode b_V_leaveHints 42 = .ok (.iload 5, 2) := by decide +kernel
theorem d_V_leaveHints_44 : decode b_V_leaveHints 44 = .ok (.invokevirtual 161, 3) := by decide +kernel
theorem d_V_leaveHints_47 : decode b_V_leaveHints 47 = .ok (.ifCond .ne 24, 3) := by decide +kernel
theorem d_V_leaveHints_50 : decode b_V_leaveHints 50 = .ok (.aload_n 0, 1) := by decide +kernel
theorem d_V_leaveHints_51 : decode b_V_leaveHints 51 = .ok (.getfield 40, 3) := by decide +kernel
theorem d_V_leaveHints_54 : decode b_V_leaveHints 54 = .ok (.aload_n 0, 1) := by decide +kernel
theorem d_V_leaveHints_55 : decode b_V_leaveHints 55 = .ok (.getfield 61, 3) := by decide +kernel
theorem d_V_leaveHints_58 : decode b_V_leaveHints 58 = .ok (.iload_n 3, 1) := by decide +kernel
theorem d_V_leaveHints_59 : decode b_V_leaveHints 59 = .ok (.iaload, 1) := by decide +kernel
theorem d_V_leaveHints_60 : decode b_V_leaveHints 60 = .ok (.aaload, 1) := by decide +kernel
theorem d_V_leaveHints_61 : decode b_V_leaveHints 61 = .ok (.getfield 228, 3) := by decide +kernel
theorem d_V_leaveHints_64 : decode b_V_leaveHints 64 = .ok (.iload_n 2, 1) := by decide +kernel
theorem d_V_leaveHints_65 : decode b_V_leaveHints 65 = .ok (.iload 5, 2) := by decide +kernel
theorem d_V_leaveHints_67 : decode b_V_leaveHints 67 = .ok (.iastore, 1) := by decide +kernel
theorem d_V_leaveHints_68 : decode b_V_leaveHints 68 = .ok (.iinc 3 1, 3) := by decide +kernel
theorem d_V_leaveHints_71 : decode b_V_leaveHints 71 = .ok (.iinc 4 1, 3) := by decide +kernel
theorem d_V_leaveHints_74 : decode b_V_leaveHints 74 = .ok (.goto (-66), 3) := by decide +kernel
theorem d_V_leaveHints_77 : decode b_V_leaveHints 77 = .ok (.return_, 1) := by decide +kernel
theorem d_V_lookAtTargets_0 : decode b_V_lookAtTargets 0 = .ok (.iconst 0, 1) := by decide +kernel
theorem d_V_lookAtTargets_1 : decode b_V_lookAtTargets 1 = .ok (.istore_n 2, 1) := by decide +kernel
theorem d_V_lookAtTargets_2 : decode b_V_lookAtTargets 2 = .ok (.iload_n 2, 1) := by decide +kernel
theorem d_V_lookAtTargets_3 : decode b_V_lookAtTargets 3 = .ok (.aload_n 0, 1) := by decide +kernel
theorem d_V_lookAtTargets_4 : decode b_V_lookAtTargets 4 = .ok (.getfield 34, 3) := by decide +kernel
theorem d_V_lookAtTargets_7 : decode b_V_lookAtTargets 7 = .ok (.getfield 104, 3) := by decide +kernel
theorem d_V_lookAtTargets_10 : decode b_V_lookAtTargets 10 = .ok (.if_icmp .ge 41, 3) := by decide +kernel
theorem d_V_lookAtTargets_13 : decode b_V_lookAtTargets 13 = .ok (.aload_n 0, 1) := by decide +kernel
theorem d_V_lookAtTargets_14 : decode b_V_lookAtTargets 14 = .ok (.getfield 65, 3) := by decide +kernel
theorem d_V_lookAtTargets_17 : decode b_V_lookAtTargets 17 = .ok (.iload_n 2, 1) := by decide +kernel
theorem d_V_lookAtTargets_18 : decode b_V_lookAtTargets 18 = .ok (.aload_n 0, 1) := by decide +kernel
theorem d_V_lookAtTargets_19 : decode b_V_lookAtTargets 19 = .ok (.getfield 34, 3) := by decide +kernel
theorem d_V_lookAtTargets_22 : decode b_V_lookAtTargets 22 = .ok (.getfield 200, 3) := by decide +kernel
theorem d_V_lookAtTargets_25 : decode b_V_lookAtTargets 25 = .ok (.iload_n 2, 1) := by decide +kernel
theorem d_V_lookAtTargets_26 : decode b_V_lookAtTargets 26 = .ok (.iaload, 1) := by decide +kernel
theorem d_V_lookAtTargets_27 : decode b_V_lookAtTargets 27 = .ok (.iload_n 1, 1) := by decide +kernel
theorem d_V_lookAtTargets_28 : decode b_V_lookAtTargets 28 = .ok (.if_icmp .ne 15, 3) := by decide +kernel
theorem d_V_lookAtTargets_31 : decode b_V_lookAtTargets 31 = .ok (.aload_n 0, 1) := by decide +kernel
theorem d_V_lookAtTargets_32 : decode b_V_lookAtTargets 32 = .ok (.iload_n 2, 1) := by decide +kernel
theorem d_V_lookAtTargets_33 : decode b_V_lookAtTargets 33 = .ok (.invokevirtual 231, 3) := by decide +kernel
theorem d_V_lookAtTargets_36 : decode b_V_lookAtTargets 36 = .ok (.ifCond .eq 7, 3) := by decide +kernel
theorem d_V_lookAtTargets_39 : decode b_V_lookAtTargets 39 = .ok (.iconst 1, 1) := by decide +kernel
theorem d_V_lookAtTargets_40 : decode b_V_lookAtTargets 40 = .ok (.goto 4, 3) := by decide +kernel
theorem d_V_lookAtTargets_43 : decode b_V_lookAtTargets 43 = .ok (.iconst 0, 1) := by decide +kernel
theorem d_V_lookAtTargets_44 : decode b_V_lookAtTargets 44 = .ok (.bastore, 1) := by decide +kernel
theorem d_V_lookAtTargets_45 : decode b_V_lookAtTargets 45 = .ok (.iinc 2 1, 3) := by decide +kernel
theorem d_V_lookAtTargets_48 : decode b_V_lookAtTargets 48 = .ok (.goto (-46), 3) := by decide +kernel
theorem d_V_lookAtTargets_51 : decode b_V_lookAtTargets 51 = .ok (.return_, 1) := by decide +kernel
theorem d_V_isAtSomeTarget_0 : decode b_V_isAtSomeTarget 0 = .ok (.iconst 0, 1) := by decide +kernel
theorem d_V_isAtSomeTarget_1 : decode b_V_isAtSomeTarget 1 = .ok (.istore_n 2, 1) := by decide +kernel
theorem d_V_isAtSomeTarget_2 : decode b_V_isAtSomeTarget 2 = .ok (.iload_n 2, 1) := by decide +kernel
theorem d_V_isAtSomeTarget_3 : decode b_V_isAtSomeTarget 3 = .ok (.aload_n 0, 1) := by decide +kernel
theorem d_V_isAtSomeTarget_4 : decode b_V_isAtSomeTarget 4 = .ok (.getfield 111, 3) := by decide +kernel
theorem d_V_isAtSomeTarget_7 : decode b_V_isAtSomeTarget 7 = .ok (.if_icmp .ge 40, 3) := by decide +kernel
theorem d_V_isAtSomeTarget_10 : decode b_V_isAtSomeTarget 10 = .ok (.aload_n 0, 1) := by decide +kernel
theorem d_V_isAtSomeTarget_11 : decode b_V_isAtSomeTarget 11 = .ok (.getfield 40, 3) := by decide +kernel
theorem d_V_isAtSomeTarget_14 : decode b_V_isAtSomeTarget 14 = .ok (.aload_n 0, 1) := by decide +kernel
theorem d_V_isAtSomeTarget_15 : decode b_V_isAtSomeTarget 15 = .ok (.getfield 61, 3) := by decide +kernel
theorem d_V_isAtSomeTarget_18 : decode b_V_isAtSomeTarget 18 = .ok (.iload_n 2, 1) := by decide +kernel
theorem d_V_isAtSomeTarget_19 : decode b_V_isAtSomeTarget 19 = .ok (.iaload, 1) := by decide +kernel
theorem d_V_isAtSomeTarget_20 : decode b_V_isAtSomeTarget 20 = .ok (.aaload, 1) := by decide +kernel
theorem d_V_isAtSomeTarget_21 : decode b_V_isAtSomeTarget 21 = .ok (.astore_n 3, 1) := by decide +kernel
theorem d_V_isAtSomeTarget_22 : decode b_V_isAtSomeTarget 22 = .ok (.aload_n 3, 1) := by decide +kernel
theorem d_V_isAtSomeTarget_23 : decode b_V_isAtSomeTarget 23 = .ok (.getfield 190, 3) := by decide +kernel
theorem d_V_isAtSomeTarget_26 : decode b_V_isAtSomeTarget 26 = .ok (.iload_n 1, 1) := by decide +kernel
theorem d_V_isAtSomeTarget_27 : decode b_V_isAtSomeTarget 27 = .ok (.baload, 1) := by decide +kernel
