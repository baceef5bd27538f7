/-! The methods, and the words that their instructions link. -/
def f_C_isEmpty : jw_F := (y_C_isEmpty, b_C_isEmpty, 1, some .boolean, 0, 0)
def f_C_learn : jw_F := (y_C_learn, b_C_learn, 5, none, 2, 45)
def f_C_rise : jw_F := (y_C_rise, b_C_rise, 4, none, 1, 22)
def f_G_isMade : jw_F := (y_G_isMade, b_G_isMade, 2, some .boolean, 0, 0)
def f_G_clockCount : jw_F := (y_G_clockCount, b_G_clockCount, 3, some .int, 0, 0)
def f_G_add : jw_F := (y_G_add, b_G_add, 6, some .int, 1, 26)
def f_G_numberWritten : jw_F := (y_G_numberWritten, b_G_numberWritten, 5, some .int, 0, 0)
def f_G_isAtOrBelow : jw_F := (y_G_isAtOrBelow, b_G_isAtOrBelow, 4, some .boolean, 1, 22)
def f_N_hasHintOf : jw_F := (y_N_hasHintOf, b_N_hasHintOf, 2, some .boolean, 0, 0)
def f_N_take : jw_F := (y_N_take, b_N_take, 3, some .boolean, 3, 67)
def f_N_isPassed : jw_F := (y_N_isPassed, b_N_isPassed, 3, some .boolean, 2, 45)
def f_N_hasBeside : jw_F := (y_N_hasBeside, b_N_hasBeside, 3, some .boolean, 0, 0)
def f_N_takeAll : jw_F := (y_N_takeAll, b_N_takeAll, 4, some .int, 4, 89)
def f_N_dropAll : jw_F := (y_N_dropAll, b_N_dropAll, 3, none, 0, 0)
def f_N_writeOut : jw_F := (y_N_writeOut, b_N_writeOut, 5, some .int, 0, 0)
def f_R_lookUp : jw_F := (y_R_lookUp, b_R_lookUp, 5, none, 1, 23)
def f_R_hasHome : jw_F := (y_R_hasHome, b_R_hasHome, 2, some .boolean, 1, 23)
def f_R_isAmongFirst : jw_F := (y_R_isAmongFirst, b_R_isAmongFirst, 4, some .boolean, 0, 0)
def f_V_token : jw_F := (y_V_token, b_V_token, 3, some .boolean, 1, 20)
def f_V_remove : jw_F := (y_V_remove, b_V_remove, 2, some .boolean, 1, 20)
def f_V_power : jw_F := (y_V_power, b_V_power, 3, some .boolean, 1, 20)
def f_V_cut : jw_F := (y_V_cut, b_V_cut, 4, some .boolean, 2, 42)
def f_V_put : jw_F := (y_V_put, b_V_put, 7, some .int, 5, 111)
def f_V_get : jw_F := (y_V_get, b_V_get, 6, some .int, 5, 112)
def f_V_found : jw_F := (y_V_found, b_V_found, 4, some .int, 0, 0)
def f_V_repaired : jw_F := (y_V_repaired, b_V_repaired, 1, some .int, 0, 0)
def f_V_handOver : jw_F := (y_V_handOver, b_V_handOver, 4, some .int, 6, 136)
def f_V_compare : jw_F := (y_V_compare, b_V_compare, 4, some .int, 6, 135)
def f_V_home : jw_F := (y_V_home, b_V_home, 3, some .int, 2, 47)
def f_V_targets : jw_F := (y_V_targets, b_V_targets, 3, some .int, 4, 87)
def f_V_holds : jw_F := (y_V_holds, b_V_holds, 5, some .int, 1, 21)
def f_V_count : jw_F := (y_V_count, b_V_count, 3, some .int, 1, 24)
def f_V_hints : jw_F := (y_V_hints, b_V_hints, 4, some .int, 1, 21)
def f_V_versions : jw_F := (y_V_versions, b_V_versions, 1, some .int, 0, 0)
def f_V_version : jw_F := (y_V_version, b_V_version, 3, some .int, 1, 22)
def f_V_context : jw_F := (y_V_context, b_V_context, 3, some .int, 1, 20)
def f_V_isNode : jw_F := (y_V_isNode, b_V_isNode, 1, some .boolean, 0, 0)
def f_V_areTwoNodes : jw_F := (y_V_areTwoNodes, b_V_areTwoNodes, 2, some .boolean, 1, 20)
def f_V_isPosition : jw_F := (y_V_isPosition, b_V_isPosition, 1, some .boolean, 0, 0)
def f_V_isKey : jw_F := (y_V_isKey, b_V_isKey, 1, some .boolean, 0, 0)
def f_V_isContext : jw_F := (y_V_isContext, b_V_isContext, 1, some .boolean, 0, 0)
def f_V_mayKnow : jw_F := (y_V_mayKnow, b_V_mayKnow, 3, some .boolean, 1, 20)
def f_V_line : jw_F := (y_V_line, b_V_line, 2, some .int, 1, 21)
def f_V_reaches : jw_F := (y_V_reaches, b_V_reaches, 3, some .boolean, 2, 42)
def f_V_aim : jw_F := (y_V_aim, b_V_aim, 4, none, 3, 64)
def f_V_sendToHomes : jw_F := (y_V_sendToHomes, b_V_sendToHomes, 3, none, 4, 89)
def f_V_leaveHints : jw_F := (y_V_leaveHints, b_V_leaveHints, 6, none, 3, 64)
def f_V_lookAtTargets : jw_F := (y_V_lookAtTargets, b_V_lookAtTargets, 3, none, 2, 44)
def f_V_isAtSomeTarget : jw_F := (y_V_isAtSomeTarget, b_V_isAtSomeTarget, 4, some .boolean, 1, 21)
def f_V_keepLatest : jw_F := (y_V_keepLatest, b_V_keepLatest, 3, some .int, 3, 67)
def f_V_isPassedBySeen : jw_F := (y_V_isPassedBySeen, b_V_isPassedBySeen, 3, some .boolean, 2, 45)
def f_V_handOverHints : jw_F := (y_V_handOverHints, b_V_handOverHints, 5, some .int, 4, 89)
def f_V_handOverKey : jw_F := (y_V_handOverKey, b_V_handOverKey, 5, some .int, 5, 112)
def f_V_reachesAllHomes : jw_F := (y_V_reachesAllHomes, b_V_reachesAllHomes, 3, some .boolean, 3, 64)
def f_V_share : jw_F := (y_V_share, b_V_share, 4, some .boolean, 2, 47)
def f_V_differ : jw_F := (y_V_differ, b_V_differ, 5, some .boolean, 0, 0)
def f_V_exchange : jw_F := (y_V_exchange, b_V_exchange, 4, none, 5, 112)
def f_V_countComparedParts : jw_F := (y_V_countComparedParts, b_V_countComparedParts, 4, some .int, 0, 0)
def f_M_isNode : jw_F := (y_M_isNode, b_M_isNode, 1, some .boolean, 0, 0)
def f_M_isKey : jw_F := (y_M_isKey, b_M_isKey, 1, some .boolean, 0, 0)
def f_M_reaches : jw_F := (y_M_reaches, b_M_reaches, 3, some .boolean, 0, 0)
def f_M_token : jw_F := (y_M_token, b_M_token, 3, some .boolean, 1, 20)
def f_M_remove : jw_F := (y_M_remove, b_M_remove, 2, some .boolean, 0, 0)
def f_M_power : jw_F := (y_M_power, b_M_power, 3, some .boolean, 1, 20)
def f_M_cut : jw_F := (y_M_cut, b_M_cut, 4, some .boolean, 1, 20)
def f_M_placeIn : jw_F := (y_M_placeIn, b_M_placeIn, 3, some .int, 0, 0)
def f_M_list : jw_F := (y_M_list, b_M_list, 4, none, 1, 22)
def f_M_homes : jw_F := (y_M_homes, b_M_homes, 1, some .int, 0, 0)
def f_M_isHome : jw_F := (y_M_isHome, b_M_isHome, 4, some .boolean, 2, 45)
def f_M_home : jw_F := (y_M_home, b_M_home, 3, some .int, 2, 45)
def f_M_aim : jw_F := (y_M_aim, b_M_aim, 4, none, 2, 45)
def f_M_targets : jw_F := (y_M_targets, b_M_targets, 3, some .int, 3, 68)
def f_M_standsFor : jw_F := (y_M_standsFor, b_M_standsFor, 5, some .int, 1, 22)
def f_M_below : jw_F := (y_M_below, b_M_below, 5, some .boolean, 0, 0)
def f_M_take : jw_F := (y_M_take, b_M_take, 4, none, 1, 24)
def f_M_put : jw_F := (y_M_put, b_M_put, 9, some .int, 3, 68)
def f_M_shown : jw_F := (y_M_shown, b_M_shown, 4, some .boolean, 0, 0)
def f_M_isFound : jw_F := (y_M_isFound, b_M_isFound, 4, some .boolean, 1, 24)
def f_M_get : jw_F := (y_M_get, b_M_get, 8, some .int, 3, 70)
def f_M_repair : jw_F := (y_M_repair, b_M_repair, 4, none, 2, 47)
def f_M_found : jw_F := (y_M_found, b_M_found, 2, some .int, 0, 0)
def f_M_repaired : jw_F := (y_M_repaired, b_M_repaired, 1, some .int, 0, 0)
def f_M_handOver : jw_F := (y_M_handOver, b_M_handOver, 5, some .int, 4, 93)
def f_M_moved : jw_F := (y_M_moved, b_M_moved, 6, some .int, 3, 68)
def f_M_differ : jw_F := (y_M_differ, b_M_differ, 6, some .boolean, 3, 68)
def f_M_exchange : jw_F := (y_M_exchange, b_M_exchange, 5, none, 2, 47)
def f_M_compare : jw_F := (y_M_compare, b_M_compare, 8, some .int, 4, 93)
def f_M_holds : jw_F := (y_M_holds, b_M_holds, 3, some .int, 1, 20)
def f_M_count : jw_F := (y_M_count, b_M_count, 5, some .int, 1, 20)
def f_M_hints : jw_F := (y_M_hints, b_M_hints, 4, some .int, 1, 20)
def f_M_versions : jw_F := (y_M_versions, b_M_versions, 1, some .int, 0, 0)
def f_M_version : jw_F := (y_M_version, b_M_version, 3, some .int, 0, 0)
def f_M_context : jw_F := (y_M_context, b_M_context, 3, some .int, 1, 20)
def f_J_fill : jw_F := (y_J_fill, b_J_fill, 4, none, 0, 0)
theorem jc_b_m4 : (Int8.ofInt (-4)).toInt32 = (-4) := by decide
theorem jc_b_m3 : (Int8.ofInt (-3)).toInt32 = (-3) := by decide
theorem jc_b_m2 : (Int8.ofInt (-2)).toInt32 = (-2) := by decide
theorem jc_b_6 : (Int8.ofInt 6).toInt32 = 6 := by decide
theorem jc_b_15 : (Int8.ofInt 15).toInt32 = 15 := by decide
theorem jc_b_16 : (Int8.ofInt 16).toInt32 = 16 := by decide
theorem jc_b_31 : (Int8.ofInt 31).toInt32 = 31 := by decide
theorem jc_b_32 : (Int8.ofInt 32).toInt32 = 32 := by decide
theorem jc_b_40 : (Int8.ofInt 40).toInt32 = 40 := by decide
theorem jc_i_m1 : Int32.ofInt (-1) = (-1) := by decide
theorem jc_i_0 : Int32.ofInt 0 = 0 := by decide
theorem jc_i_1 : Int32.ofInt 1 = 1 := by decide
theorem jc_i_2 : Int32.ofInt 2 = 2 := by decide
theorem jc_i_3 : Int32.ofInt 3 = 3 := by decide
theorem jc_i_4 : Int32.ofInt 4 = 4 := by decide
theorem jc_i_5 : Int32.ofInt 5 = 5 := by decide
theorem jw_fl_V_18 : Cond.fieldLink R_V 18 (T_V 0).1 (T_V 0).2.1 (T_V 0).2.2.1 ∈ jw_ws := jw_in (by decide +kernel) (by decide +kernel)
theorem jw_fl_V_24 : Cond.fieldLink R_V 24 (T_V 5).1 (T_V 5).2.1 (T_V 5).2.2.1 ∈ jw_ws := jw_in (by decide +kernel) (by decide +kernel)
theorem jw_fl_V_28 : Cond.fieldLink R_V 28 (T_V 6).1 (T_V 6).2.1 (T_V 6).2.2.1 ∈ jw_ws := jw_in (by decide +kernel) (by decide +kernel)
theorem jw_fl_V_34 : Cond.fieldLink R_V 34 (T_V 1).1 (T_V 1).2.1 (T_V 1).2.2.1 ∈ jw_ws := jw_in (by decide +kernel) (by decide +kernel)
theorem jw_fl_V_40 : Cond.fieldLink R_V 40 (T_V 2).1 (T_V 2).2.1 (T_V 2).2.2.1 ∈ jw_ws := jw_in (by decide +kernel) (by decide +kernel)
theorem jw_fl_V_49 : Cond.fieldLink R_V 49 (T_V 4).1 (T_V 4).2.1 (T_V 4).2.2.1 ∈ jw_ws := jw_in (by decide +kernel) (by decide +kernel)
theorem jw_fl_V_54 : Cond.fieldLink R_V 54 (T_V 3).1 (T_V 3).2.1 (T_V 3).2.2.1 ∈ jw_ws := jw_in (by decide +kernel) (by decide +kernel)
theorem jw_fl_V_58 : Cond.fieldLink R_V 58 (T_V 7).1 (T_V 7).2.1 (T_V 7).2.2.1 ∈ jw_ws := jw_in (by decide +kernel) (by decide +kernel)
theorem jw_fl_V_61 : Cond.fieldLink R_V 61 (T_V 9).1 (T_V 9).2.1 (T_V 9).2.2.1 ∈ jw_ws := jw_in (by decide +kernel) (by decide +kernel)
theorem jw_fl_V_65 : Cond.fieldLink R_V 65 (T_V 12).1 (T_V 12).2.1 (T_V 12).2.2.1 ∈ jw_ws := jw_in (by decide +kernel) (by decide +kernel)
theorem jw_fl_V_68 : Cond.fieldLink R_V 68 (T_V 13).1 (T_V 13).2.1 (T_V 13).2.2.1 ∈ jw_ws := jw_in (by decide +kernel) (by decide +kernel)
theorem jw_fl_V_71 : Cond.fieldLink R_V 71 (T_V 14).1 (T_V 14).2.1 (T_V 14).2.2.1 ∈ jw_ws := jw_in (by decide +kernel) (by decide +kernel)
theorem jw_fl_V_74 : Cond.fieldLink R_V 74 (T_V 15).1 (T_V 15).2.1 (T_V 15).2.2.1 ∈ jw_ws := jw_in (by decide +kernel) (by decide +kernel)
theorem jw_fl_V_84 : Cond.fieldLink R_V 84 (T_R 1).1 (T_R 1).2.1 (T_R 1).2.2.1 ∈ jw_ws := jw_in (by decide +kernel) (by decide +kernel)
theorem jw_fl_V_87 : Cond.fieldLink R_V 87 (T_N 3).1 (T_N 3).2.1 (T_N 3).2.2.1 ∈ jw_ws := jw_in (by decide +kernel) (by decide +kernel)
theorem jw_fl_V_104 : Cond.fieldLink R_V 104 (T_G 4).1 (T_G 4).2.1 (T_G 4).2.2.1 ∈ jw_ws := jw_in (by decide +kernel) (by decide +kernel)
theorem jw_fl_V_111 : Cond.fieldLink R_V 111 (T_V 10).1 (T_V 10).2.1 (T_V 10).2.2.1 ∈ jw_ws := jw_in (by decide +kernel) (by decide +kernel)
theorem jw_fl_V_117 : Cond.fieldLink R_V 117 (T_C 0).1 (T_C 0).2.1 (T_C 0).2.2.1 ∈ jw_ws := jw_in (by decide +kernel) (by decide +kernel)
theorem jw_fl_V_144 : Cond.fieldLink R_V 144 (T_V 8).1 (T_V 8).2.1 (T_V 8).2.2.1 ∈ jw_ws := jw_in (by decide +kernel) (by decide +kernel)
theorem jw_fl_V_147 : Cond.fieldLink R_V 147 (T_V 11).1 (T_V 11).2.1 (T_V 11).2.2.1 ∈ jw_ws := jw_in (by decide +kernel) (by decide +kernel)
theorem jw_fl_V_181 : Cond.fieldLink R_V 181 (T_R 4).1 (T_R 4).2.1 (T_R 4).2.2.1 ∈ jw_ws := jw_in (by decide +kernel) (by decide +kernel)
theorem jw_fl_V_184 : Cond.fieldLink R_V 184 (T_R 2).1 (T_R 2).2.1 (T_R 2).2.2.1 ∈ jw_ws := jw_in (by decide +kernel) (by decide +kernel)
theorem jw_fl_V_190 : Cond.fieldLink R_V 190 (T_N 1).1 (T_N 1).2.1 (T_N 1).2.2.1 ∈ jw_ws := jw_in (by decide +kernel) (by decide +kernel)
theorem jw_fl_V_200 : Cond.fieldLink R_V 200 (T_G 0).1 (T_G 0).2.1 (T_G 0).2.2.1 ∈ jw_ws := jw_in (by decide +kernel) (by decide +kernel)
theorem jw_fl_V_203 : Cond.fieldLink R_V 203 (T_G 1).1 (T_G 1).2.1 (T_G 1).2.2.1 ∈ jw_ws := jw_in (by decide +kernel) (by decide +kernel)
theorem jw_fl_V_213 : Cond.fieldLink R_V 213 (T_C 1).1 (T_C 1).2.1 (T_C 1).2.2.1 ∈ jw_ws := jw_in (by decide +kernel) (by decide +kernel)
theorem jw_fl_V_219 : Cond.fieldLink R_V 219 (T_R 3).1 (T_R 3).2.1 (T_R 3).2.2.1 ∈ jw_ws := jw_in (by decide +kernel) (by decide +kernel)
theorem jw_fl_V_222 : Cond.fieldLink R_V 222 (T_R 0).1 (T_R 0).2.1 (T_R 0).2.2.1 ∈ jw_ws := jw_in (by decide +kernel) (by decide +kernel)
theorem jw_fl_V_228 : Cond.fieldLink R_V 228 (T_N 2).1 (T_N 2).2.1 (T_N 2).2.2.1 ∈ jw_ws := jw_in (by decide +kernel) (by decide +kernel)
theorem jw_fl_C_9 : Cond.fieldLink R_C 9 (T_C 0).1 (T_C 0).2.1 (T_C 0).2.2.1 ∈ jw_ws := jw_in (by decide +kernel) (by decide +kernel)
theorem jw_fl_C_15 : Cond.fieldLink R_C 15 (T_C 1).1 (T_C 1).2.1 (T_C 1).2.2.1 ∈ jw_ws := jw_in (by decide +kernel) (by decide +kernel)
theorem jw_fl_C_25 : Cond.fieldLink R_C 25 (T_G 4).1 (T_G 4).2.1 (T_G 4).2.2.1 ∈ jw_ws := jw_in (by decide +kernel) (by decide +kernel)
theorem jw_fl_G_9 : Cond.fieldLink R_G 9 (T_G 0).1 (T_G 0).2.1 (T_G 0).2.2.1 ∈ jw_ws := jw_in (by decide +kernel) (by decide +kernel)
theorem jw_fl_G_15 : Cond.fieldLink R_G 15 (T_G 1).1 (T_G 1).2.1 (T_G 1).2.2.1 ∈ jw_ws := jw_in (by decide +kernel) (by decide +kernel)
theorem jw_fl_G_18 : Cond.fieldLink R_G 18 (T_G 2).1 (T_G 2).2.1 (T_G 2).2.2.1 ∈ jw_ws := jw_in (by decide +kernel) (by decide +kernel)
theorem jw_fl_G_21 : Cond.fieldLink R_G 21 (T_G 3).1 (T_G 3).2.1 (T_G 3).2.2.1 ∈ jw_ws := jw_in (by decide +kernel) (by decide +kernel)
theorem jw_fl_G_24 : Cond.fieldLink R_G 24 (T_G 4).1 (T_G 4).2.1 (T_G 4).2.2.1 ∈ jw_ws := jw_in (by decide +kernel) (by decide +kernel)
theorem jw_fl_N_9 : Cond.fieldLink R_N 9 (T_N 0).1 (T_N 0).2.1 (T_N 0).2.2.1 ∈ jw_ws := jw_in (by decide +kernel) (by decide +kernel)
theorem jw_fl_N_15 : Cond.fieldLink R_N 15 (T_N 1).1 (T_N 1).2.1 (T_N 1).2.2.1 ∈ jw_ws := jw_in (by decide +kernel) (by decide +kernel)
theorem jw_fl_N_19 : Cond.fieldLink R_N 19 (T_N 2).1 (T_N 2).2.1 (T_N 2).2.2.1 ∈ jw_ws := jw_in (by decide +kernel) (by decide +kernel)
theorem jw_fl_N_37 : Cond.fieldLink R_N 37 (T_G 4).1 (T_G 4).2.1 (T_G 4).2.2.1 ∈ jw_ws := jw_in (by decide +kernel) (by decide +kernel)
theorem jw_fl_N_50 : Cond.fieldLink R_N 50 (T_G 0).1 (T_G 0).2.1 (T_G 0).2.2.1 ∈ jw_ws := jw_in (by decide +kernel) (by decide +kernel)
theorem jw_fl_R_9 : Cond.fieldLink R_R 9 (T_R 0).1 (T_R 0).2.1 (T_R 0).2.2.1 ∈ jw_ws := jw_in (by decide +kernel) (by decide +kernel)
theorem jw_fl_R_15 : Cond.fieldLink R_R 15 (T_R 1).1 (T_R 1).2.1 (T_R 1).2.2.1 ∈ jw_ws := jw_in (by decide +kernel) (by decide +kernel)
theorem jw_fl_R_25 : Cond.fieldLink R_R 25 (T_R 2).1 (T_R 2).2.1 (T_R 2).2.2.1 ∈ jw_ws := jw_in (by decide +kernel) (by decide +kernel)
theorem jw_fl_R_28 : Cond.fieldLink R_R 28 (T_R 3).1 (T_R 3).2.1 (T_R 3).2.2.1 ∈ jw_ws := jw_in (by decide +kernel) (by decide +kernel)
theorem jw_fl_R_41 : Cond.fieldLink R_R 41 (T_R 4).1 (T_R 4).2.1 (T_R 4).2.2.1 ∈ jw_ws := jw_in (by decide +kernel) (by decide +kernel)
theorem jw_fl_M_7 : Cond.fieldLink R_M 7 (T_M 3).1 (T_M 3).2.1 (T_M 3).2.2.1 ∈ jw_ws := jw_in (by decide +kernel) (by decide +kernel)
theorem jw_fl_M_13 : Cond.fieldLink R_M 13 (T_M 4).1 (T_M 4).2.1 (T_M 4).2.2.1 ∈ jw_ws := jw_in (by decide +kernel) (by decide +kernel)
theorem jw_fl_M_16 : Cond.fieldLink R_M 16 (T_M 5).1 (T_M 5).2.1 (T_M 5).2.2.1 ∈ jw_ws := jw_in (by decide +kernel) (by decide +kernel)
theorem jw_fl_M_20 : Cond.fieldLink R_M 20 (T_M 7).1 (T_M 7).2.1 (T_M 7).2.2.1 ∈ jw_ws := jw_in (by decide +kernel) (by decide +kernel)
theorem jw_fl_M_23 : Cond.fieldLink R_M 23 (T_M 8).1 (T_M 8).2.1 (T_M 8).2.2.1 ∈ jw_ws := jw_in (by decide +kernel) (by decide +kernel)
theorem jw_fl_M_26 : Cond.fieldLink R_M 26 (T_M 9).1 (T_M 9).2.1 (T_M 9).2.2.1 ∈ jw_ws := jw_in (by decide +kernel) (by decide +kernel)
theorem jw_fl_M_29 : Cond.fieldLink R_M 29 (T_M 10).1 (T_M 10).2.1 (T_M 10).2.2.1 ∈ jw_ws := jw_in (by decide +kernel) (by decide +kernel)
theorem jw_fl_M_32 : Cond.fieldLink R_M 32 (T_M 11).1 (T_M 11).2.1 (T_M 11).2.2.1 ∈ jw_ws := jw_in (by decide +kernel) (by decide +kernel)
theorem jw_fl_M_35 : Cond.fieldLink R_M 35 (T_M 12).1 (T_M 12).2.1 (T_M 12).2.2.1 ∈ jw_ws := jw_in (by decide +kernel) (by decide +kernel)
theorem jw_fl_M_38 : Cond.fieldLink R_M 38 (T_M 13).1 (T_M 13).2.1 (T_M 13).2.2.1 ∈ jw_ws := jw_in (by decide +kernel) (by decide +kernel)
theorem jw_fl_M_41 : Cond.fieldLink R_M 41 (T_M 14).1 (T_M 14).2.1 (T_M 14).2.2.1 ∈ jw_ws := jw_in (by decide +kernel) (by decide +kernel)
theorem jw_fl_M_44 : Cond.fieldLink R_M 44 (T_M 15).1 (T_M 15).2.1 (T_M 15).2.2.1 ∈ jw_ws := jw_in (by decide +kernel) (by decide +kernel)
theorem jw_fl_M_47 : Cond.fieldLink R_M 47 (T_M 16).1 (T_M 16).2.1 (T_M 16).2.2.1 ∈ jw_ws := jw_in (by decide +kernel) (by decide +kernel)
theorem jw_fl_M_50 : Cond.fieldLink R_M 50 (T_M 17).1 (T_M 17).2.1 (T_M 17).2.2.1 ∈ jw_ws := jw_in (by decide +kernel) (by decide +kernel)
theorem jw_fl_M_53 : Cond.fieldLink R_M 53 (T_M 20).1 (T_M 20).2.1 (T_M 20).2.2.1 ∈ jw_ws := jw_in (by decide +kernel) (by decide +kernel)
theorem jw_fl_M_56 : Cond.fieldLink R_M 56 (T_M 22).1 (T_M 22).2.1 (T_M 22).2.2.1 ∈ jw_ws := jw_in (by decide +kernel) (by decide +kernel)
theorem jw_fl_M_59 : Cond.fieldLink R_M 59 (T_M 0).1 (T_M 0).2.1 (T_M 0).2.2.1 ∈ jw_ws := jw_in (by decide +kernel) (by decide +kernel)
theorem jw_fl_M_63 : Cond.fieldLink R_M 63 (T_M 1).1 (T_M 1).2.1 (T_M 1).2.2.1 ∈ jw_ws := jw_in (by decide +kernel) (by decide +kernel)
theorem jw_fl_M_66 : Cond.fieldLink R_M 66 (T_M 2).1 (T_M 2).2.1 (T_M 2).2.2.1 ∈ jw_ws := jw_in (by decide +kernel) (by decide +kernel)
theorem jw_fl_M_73 : Cond.fieldLink R_M 73 (T_M 21).1 (T_M 21).2.1 (T_M 21).2.2.1 ∈ jw_ws := jw_in (by decide +kernel) (by decide +kernel)
theorem jw_fl_M_91 : Cond.fieldLink R_M 91 (T_M 23).1 (T_M 23).2.1 (T_M 23).2.2.1 ∈ jw_ws := jw_in (by decide +kernel) (by decide +kernel)
theorem jw_fl_M_102 : Cond.fieldLink R_M 102 (T_M 6).1 (T_M 6).2.1 (T_M 6).2.2.1 ∈ jw_ws := jw_in (by decide +kernel) (by decide +kernel)
theorem jw_fl_M_118 : Cond.fieldLink R_M 118 (T_M 18).1 (T_M 18).2.1 (T_M 18).2.2.1 ∈ jw_ws := jw_in (by decide +kernel) (by decide +kernel)
theorem jw_fl_M_127 : Cond.fieldLink R_M 127 (T_M 19).1 (T_M 19).2.1 (T_M 19).2.2.1 ∈ jw_ws := jw_in (by decide +kernel) (by decide +kernel)
set_option maxRecDepth 100000 in
theorem jw_cd_f_C_isEmpty : Cond.code f_C_isEmpty.1 f_C_isEmpty.2.1 f_C_isEmpty.2.2.1 f_C_isEmpty.2.2.2.1 ∈ jw_ws := jw_in (List.mem_append_right _ (List.mem_of_getElem? (i := 218) rfl)) rfl
set_option maxRecDepth 100000 in
theorem jw_cd_f_C_learn : Cond.code f_C_learn.1 f_C_learn.2.1 f_C_learn.2.2.1 f_C_learn.2.2.2.1 ∈ jw_ws := jw_in (List.mem_append_right _ (List.mem_of_getElem? (i := 305) rfl)) rfl
set_option maxRecDepth 100000 in
theorem jw_cd_f_C_rise : Cond.code f_C_rise.1 f_C_rise.2.1 f_C_rise.2.2.1 f_C_rise.2.2.2.1 ∈ jw_ws := jw_in (List.mem_append_right _ (List.mem_of_getElem? (i := 310) rfl)) rfl
set_option maxRecDepth 100000 in
theorem jw_cd_f_G_add : Cond.code f_G_add.1 f_G_add.2.1 f_G_add.2.2.1 f_G_add.2.2.2.1 ∈ jw_ws := jw_in (List.mem_append_right _ (List.mem_of_getElem? (i := 241) rfl)) rfl
set_option maxRecDepth 100000 in
theorem jw_cd_f_G_clockCount : Cond.code f_G_clockCount.1 f_G_clockCount.2.1 f_G_clockCount.2.2.1 f_G_clockCount.2.2.2.1 ∈ jw_ws := jw_in (List.mem_append_right _ (List.mem_of_getElem? (i := 272) rfl)) rfl
set_option maxRecDepth 100000 in
theorem jw_cd_f_G_isAtOrBelow : Cond.code f_G_isAtOrBelow.1 f_G_isAtOrBelow.2.1 f_G_isAtOrBelow.2.2.1 f_G_isAtOrBelow.2.2.2.1 ∈ jw_ws := jw_in (List.mem_append_right _ (List.mem_of_getElem? (i := 268) rfl)) rfl
set_option maxRecDepth 100000 in
theorem jw_cd_f_G_isMade : Cond.code f_G_isMade.1 f_G_isMade.2.1 f_G_isMade.2.2.1 f_G_isMade.2.2.2.1 ∈ jw_ws := jw_in (List.mem_append_right _ (List.mem_of_getElem? (i := 389) rfl)) rfl
set_option maxRecDepth 100000 in
theorem jw_cd_f_G_numberWritten : Cond.code f_G_numberWritten.1 f_G_numberWritten.2.1 f_G_numberWritten.2.2.1 f_G_numberWritten.2.2.2.1 ∈ jw_ws := jw_in (List.mem_append_right _ (List.mem_of_getElem? (i := 248) rfl)) rfl
set_option maxRecDepth 100000 in
theorem jw_cd_f_J_fill : Cond.code f_J_fill.1 f_J_fill.2.1 f_J_fill.2.2.1 f_J_fill.2.2.2.1 ∈ jw_ws := jw_in (List.mem_append_right _ (List.mem_of_getElem? (i := 29) rfl)) rfl
set_option maxRecDepth 100000 in
theorem jw_cd_f_M_aim : Cond.code f_M_aim.1 f_M_aim.2.1 f_M_aim.2.2.1 f_M_aim.2.2.2.1 ∈ jw_ws := jw_in (List.mem_append_right _ (List.mem_of_getElem? (i := 538) rfl)) rfl
set_option maxRecDepth 100000 in
theorem jw_cd_f_M_below : Cond.code f_M_below.1 f_M_below.2.1 f_M_below.2.2.1 f_M_below.2.2.2.1 ∈ jw_ws := jw_in (List.mem_append_right _ (List.mem_of_getElem? (i := 558) rfl)) rfl
set_option maxRecDepth 100000 in
theorem jw_cd_f_M_count : Cond.code f_M_count.1 f_M_count.2.1 f_M_count.2.2.1 f_M_count.2.2.2.1 ∈ jw_ws := jw_in (List.mem_append_right _ (List.mem_of_getElem? (i := 594) rfl)) rfl
set_option maxRecDepth 100000 in
theorem jw_cd_f_M_differ : Cond.code f_M_differ.1 f_M_differ.2.1 f_M_differ.2.2.1 f_M_differ.2.2.2.1 ∈ jw_ws := jw_in (List.mem_append_right _ (List.mem_of_getElem? (i := 606) rfl)) rfl
set_option maxRecDepth 100000 in
theorem jw_cd_f_M_exchange : Cond.code f_M_exchange.1 f_M_exchange.2.1 f_M_exchange.2.2.1 f_M_exchange.2.2.2.1 ∈ jw_ws := jw_in (List.mem_append_right _ (List.mem_of_getElem? (i := 610) rfl)) rfl
set_option maxRecDepth 100000 in
theorem jw_cd_f_M_homes : Cond.code f_M_homes.1 f_M_homes.2.1 f_M_homes.2.2.1 f_M_homes.2.2.2.1 ∈ jw_ws := jw_in (List.mem_append_right _ (List.mem_of_getElem? (i := 530) rfl)) rfl
set_option maxRecDepth 100000 in
theorem jw_cd_f_M_isFound : Cond.code f_M_isFound.1 f_M_isFound.2.1 f_M_isFound.2.2.1 f_M_isFound.2.2.2.1 ∈ jw_ws := jw_in (List.mem_append_right _ (List.mem_of_getElem? (i := 566) rfl)) rfl
set_option maxRecDepth 100000 in
theorem jw_cd_f_M_isHome : Cond.code f_M_isHome.1 f_M_isHome.2.1 f_M_isHome.2.2.1 f_M_isHome.2.2.2.1 ∈ jw_ws := jw_in (List.mem_append_right _ (List.mem_of_getElem? (i := 598) rfl)) rfl
set_option maxRecDepth 100000 in
theorem jw_cd_f_M_isKey : Cond.code f_M_isKey.1 f_M_isKey.2.1 f_M_isKey.2.2.1 f_M_isKey.2.2.2.1 ∈ jw_ws := jw_in (List.mem_append_right _ (List.mem_of_getElem? (i := 518) rfl)) rfl
set_option maxRecDepth 100000 in
theorem jw_cd_f_M_isNode : Cond.code f_M_isNode.1 f_M_isNode.2.1 f_M_isNode.2.2.1 f_M_isNode.2.2.2.1 ∈ jw_ws := jw_in (List.mem_append_right _ (List.mem_of_getElem? (i := 499) rfl)) rfl
set_option maxRecDepth 100000 in
theorem jw_cd_f_M_list : Cond.code f_M_list.1 f_M_list.2.1 f_M_list.2.2.1 f_M_list.2.2.2.1 ∈ jw_ws := jw_in (List.mem_append_right _ (List.mem_of_getElem? (i := 522) rfl)) rfl
set_option maxRecDepth 100000 in
theorem jw_cd_f_M_moved : Cond.code f_M_moved.1 f_M_moved.2.1 f_M_moved.2.2.1 f_M_moved.2.2.2.1 ∈ jw_ws := jw_in (List.mem_append_right _ (List.mem_of_getElem? (i := 590) rfl)) rfl
set_option maxRecDepth 100000 in
theorem jw_cd_f_M_placeIn : Cond.code f_M_placeIn.1 f_M_placeIn.2.1 f_M_placeIn.2.2.1 f_M_placeIn.2.2.2.1 ∈ jw_ws := jw_in (List.mem_append_right _ (List.mem_of_getElem? (i := 526) rfl)) rfl
set_option maxRecDepth 100000 in
theorem jw_cd_f_M_reaches : Cond.code f_M_reaches.1 f_M_reaches.2.1 f_M_reaches.2.2.1 f_M_reaches.2.2.2.1 ∈ jw_ws := jw_in (List.mem_append_right _ (List.mem_of_getElem? (i := 542) rfl)) rfl
set_option maxRecDepth 100000 in
theorem jw_cd_f_M_repair : Cond.code f_M_repair.1 f_M_repair.2.1 f_M_repair.2.2.1 f_M_repair.2.2.2.1 ∈ jw_ws := jw_in (List.mem_append_right _ (List.mem_of_getElem? (i := 574) rfl)) rfl
set_option maxRecDepth 100000 in
theorem jw_cd_f_M_shown : Cond.code f_M_shown.1 f_M_shown.2.1 f_M_shown.2.2.1 f_M_shown.2.2.2.1 ∈ jw_ws := jw_in (List.mem_append_right _ (List.mem_of_getElem? (i := 570) rfl)) rfl
set_option maxRecDepth 100000 in
theorem jw_cd_f_M_standsFor : Cond.code f_M_standsFor.1 f_M_standsFor.2.1 f_M_standsFor.2.2.1 f_M_standsFor.2.2.2.1 ∈ jw_ws := jw_in (List.mem_append_right _ (List.mem_of_getElem? (i := 550) rfl)) rfl
set_option maxRecDepth 100000 in
theorem jw_cd_f_M_take : Cond.code f_M_take.1 f_M_take.2.1 f_M_take.2.2.1 f_M_take.2.2.2.1 ∈ jw_ws := jw_in (List.mem_append_right _ (List.mem_of_getElem? (i := 554) rfl)) rfl
set_option maxRecDepth 100000 in
theorem jw_cd_f_N_dropAll : Cond.code f_N_dropAll.1 f_N_dropAll.2.1 f_N_dropAll.2.2.1 f_N_dropAll.2.2.2.1 ∈ jw_ws := jw_in (List.mem_append_right _ (List.mem_of_getElem? (i := 353) rfl)) rfl
set_option maxRecDepth 100000 in
theorem jw_cd_f_N_hasBeside : Cond.code f_N_hasBeside.1 f_N_hasBeside.2.1 f_N_hasBeside.2.2.1 f_N_hasBeside.2.2.2.1 ∈ jw_ws := jw_in (List.mem_append_right _ (List.mem_of_getElem? (i := 264) rfl)) rfl
set_option maxRecDepth 100000 in
theorem jw_cd_f_N_hasHintOf : Cond.code f_N_hasHintOf.1 f_N_hasHintOf.2.1 f_N_hasHintOf.2.2.1 f_N_hasHintOf.2.2.2.1 ∈ jw_ws := jw_in (List.mem_append_right _ (List.mem_of_getElem? (i := 292) rfl)) rfl
set_option maxRecDepth 100000 in
theorem jw_cd_f_N_isPassed : Cond.code f_N_isPassed.1 f_N_isPassed.2.1 f_N_isPassed.2.2.1 f_N_isPassed.2.2.2.1 ∈ jw_ws := jw_in (List.mem_append_right _ (List.mem_of_getElem? (i := 260) rfl)) rfl
set_option maxRecDepth 100000 in
theorem jw_cd_f_N_take : Cond.code f_N_take.1 f_N_take.2.1 f_N_take.2.2.1 f_N_take.2.2.2.1 ∈ jw_ws := jw_in (List.mem_append_right _ (List.mem_of_getElem? (i := 256) rfl)) rfl
set_option maxRecDepth 100000 in
theorem jw_cd_f_N_takeAll : Cond.code f_N_takeAll.1 f_N_takeAll.2.1 f_N_takeAll.2.2.1 f_N_takeAll.2.2.2.1 ∈ jw_ws := jw_in (List.mem_append_right _ (List.mem_of_getElem? (i := 316) rfl)) rfl
set_option maxRecDepth 100000 in
theorem jw_cd_f_N_writeOut : Cond.code f_N_writeOut.1 f_N_writeOut.2.1 f_N_writeOut.2.2.1 f_N_writeOut.2.2.2.1 ∈ jw_ws := jw_in (List.mem_append_right _ (List.mem_of_getElem? (i := 341) rfl)) rfl
set_option maxRecDepth 100000 in
theorem jw_cd_f_R_hasHome : Cond.code f_R_hasHome.1 f_R_hasHome.2.1 f_R_hasHome.2.2.1 f_R_hasHome.2.2.2.1 ∈ jw_ws := jw_in (List.mem_append_right _ (List.mem_of_getElem? (i := 345) rfl)) rfl
set_option maxRecDepth 100000 in
theorem jw_cd_f_R_isAmongFirst : Cond.code f_R_isAmongFirst.1 f_R_isAmongFirst.2.1 f_R_isAmongFirst.2.2.1 f_R_isAmongFirst.2.2.2.1 ∈ jw_ws := jw_in (List.mem_append_right _ (List.mem_of_getElem? (i := 230) rfl)) rfl
set_option maxRecDepth 100000 in
theorem jw_cd_f_R_lookUp : Cond.code f_R_lookUp.1 f_R_lookUp.2.1 f_R_lookUp.2.2.1 f_R_lookUp.2.2.2.1 ∈ jw_ws := jw_in (List.mem_append_right _ (List.mem_of_getElem? (i := 226) rfl)) rfl
set_option maxRecDepth 100000 in
theorem jw_cd_f_V_aim : Cond.code f_V_aim.1 f_V_aim.2.1 f_V_aim.2.2.1 f_V_aim.2.2.2.1 ∈ jw_ws := jw_in (List.mem_append_right _ (List.mem_of_getElem? (i := 222) rfl)) rfl
set_option maxRecDepth 100000 in
theorem jw_cd_f_V_areTwoNodes : Cond.code f_V_areTwoNodes.1 f_V_areTwoNodes.2.1 f_V_areTwoNodes.2.2.1 f_V_areTwoNodes.2.2.2.1 ∈ jw_ws := jw_in (List.mem_append_right _ (List.mem_of_getElem? (i := 194) rfl)) rfl
set_option maxRecDepth 100000 in
theorem jw_cd_f_V_countComparedParts : Cond.code f_V_countComparedParts.1 f_V_countComparedParts.2.1 f_V_countComparedParts.2.2.1 f_V_countComparedParts.2.2.2.1 ∈ jw_ws := jw_in (List.mem_append_right _ (List.mem_of_getElem? (i := 373) rfl)) rfl
set_option maxRecDepth 100000 in
theorem jw_cd_f_V_differ : Cond.code f_V_differ.1 f_V_differ.2.1 f_V_differ.2.2.1 f_V_differ.2.2.2.1 ∈ jw_ws := jw_in (List.mem_append_right _ (List.mem_of_getElem? (i := 365) rfl)) rfl
set_option maxRecDepth 100000 in
theorem jw_cd_f_V_exchange : Cond.code f_V_exchange.1 f_V_exchange.2.1 f_V_exchange.2.2.1 f_V_exchange.2.2.2.1 ∈ jw_ws := jw_in (List.mem_append_right _ (List.mem_of_getElem? (i := 369) rfl)) rfl
set_option maxRecDepth 100000 in
theorem jw_cd_f_V_handOverHints : Cond.code f_V_handOverHints.1 f_V_handOverHints.2.1 f_V_handOverHints.2.2.1 f_V_handOverHints.2.2.2.1 ∈ jw_ws := jw_in (List.mem_append_right _ (List.mem_of_getElem? (i := 333) rfl)) rfl
set_option maxRecDepth 100000 in
theorem jw_cd_f_V_handOverKey : Cond.code f_V_handOverKey.1 f_V_handOverKey.2.1 f_V_handOverKey.2.2.1 f_V_handOverKey.2.2.2.1 ∈ jw_ws := jw_in (List.mem_append_right _ (List.mem_of_getElem? (i := 337) rfl)) rfl
set_option maxRecDepth 100000 in
theorem jw_cd_f_V_isAtSomeTarget : Cond.code f_V_isAtSomeTarget.1 f_V_isAtSomeTarget.2.1 f_V_isAtSomeTarget.2.2.1 f_V_isAtSomeTarget.2.2.2.1 ∈ jw_ws := jw_in (List.mem_append_right _ (List.mem_of_getElem? (i := 288) rfl)) rfl
set_option maxRecDepth 100000 in
theorem jw_cd_f_V_isContext : Cond.code f_V_isContext.1 f_V_isContext.2.1 f_V_isContext.2.2.1 f_V_isContext.2.2.2.1 ∈ jw_ws := jw_in (List.mem_append_right _ (List.mem_of_getElem? (i := 214) rfl)) rfl
set_option maxRecDepth 100000 in
theorem jw_cd_f_V_isKey : Cond.code f_V_isKey.1 f_V_isKey.2.1 f_V_isKey.2.2.1 f_V_isKey.2.2.2.1 ∈ jw_ws := jw_in (List.mem_append_right _ (List.mem_of_getElem? (i := 207) rfl)) rfl
set_option maxRecDepth 100000 in
theorem jw_cd_f_V_isNode : Cond.code f_V_isNode.1 f_V_isNode.2.1 f_V_isNode.2.2.1 f_V_isNode.2.2.2.1 ∈ jw_ws := jw_in (List.mem_append_right _ (List.mem_of_getElem? (i := 176) rfl)) rfl
set_option maxRecDepth 100000 in
theorem jw_cd_f_V_isPassedBySeen : Cond.code f_V_isPassedBySeen.1 f_V_isPassedBySeen.2.1 f_V_isPassedBySeen.2.2.1 f_V_isPassedBySeen.2.2.2.1 ∈ jw_ws := jw_in (List.mem_append_right _ (List.mem_of_getElem? (i := 300) rfl)) rfl
set_option maxRecDepth 100000 in
theorem jw_cd_f_V_isPosition : Cond.code f_V_isPosition.1 f_V_isPosition.2.1 f_V_isPosition.2.2.1 f_V_isPosition.2.2.2.1 ∈ jw_ws := jw_in (List.mem_append_right _ (List.mem_of_getElem? (i := 179) rfl)) rfl
set_option maxRecDepth 100000 in
theorem jw_cd_f_V_keepLatest : Cond.code f_V_keepLatest.1 f_V_keepLatest.2.1 f_V_keepLatest.2.2.1 f_V_keepLatest.2.2.2.1 ∈ jw_ws := jw_in (List.mem_append_right _ (List.mem_of_getElem? (i := 296) rfl)) rfl
set_option maxRecDepth 100000 in
theorem jw_cd_f_V_leaveHints : Cond.code f_V_leaveHints.1 f_V_leaveHints.2.1 f_V_leaveHints.2.2.1 f_V_leaveHints.2.2.2.1 ∈ jw_ws := jw_in (List.mem_append_right _ (List.mem_of_getElem? (i := 276) rfl)) rfl
set_option maxRecDepth 100000 in
theorem jw_cd_f_V_line : Cond.code f_V_line.1 f_V_line.2.1 f_V_line.2.2.1 f_V_line.2.2.2.1 ∈ jw_ws := jw_in (List.mem_append_right _ (List.mem_of_getElem? (i := 197) rfl)) rfl
set_option maxRecDepth 100000 in
theorem jw_cd_f_V_lookAtTargets : Cond.code f_V_lookAtTargets.1 f_V_lookAtTargets.2.1 f_V_lookAtTargets.2.2.1 f_V_lookAtTargets.2.2.2.1 ∈ jw_ws := jw_in (List.mem_append_right _ (List.mem_of_getElem? (i := 284) rfl)) rfl
set_option maxRecDepth 100000 in
theorem jw_cd_f_V_mayKnow : Cond.code f_V_mayKnow.1 f_V_mayKnow.2.1 f_V_mayKnow.2.2.1 f_V_mayKnow.2.2.2.1 ∈ jw_ws := jw_in (List.mem_append_right _ (List.mem_of_getElem? (i := 211) rfl)) rfl
set_option maxRecDepth 100000 in
theorem jw_cd_f_V_reaches : Cond.code f_V_reaches.1 f_V_reaches.2.1 f_V_reaches.2.2.1 f_V_reaches.2.2.2.1 ∈ jw_ws := jw_in (List.mem_append_right _ (List.mem_of_getElem? (i := 235) rfl)) rfl
set_option maxRecDepth 100000 in
theorem jw_cd_f_V_reachesAllHomes : Cond.code f_V_reachesAllHomes.1 f_V_reachesAllHomes.2.1 f_V_reachesAllHomes.2.2.1 f_V_reachesAllHomes.2.2.2.1 ∈ jw_ws := jw_in (List.mem_append_right _ (List.mem_of_getElem? (i := 349) rfl)) rfl
set_option maxRecDepth 100000 in
theorem jw_cd_f_V_sendToHomes : Cond.code f_V_sendToHomes.1 f_V_sendToHomes.2.1 f_V_sendToHomes.2.2.1 f_V_sendToHomes.2.2.2.1 ∈ jw_ws := jw_in (List.mem_append_right _ (List.mem_of_getElem? (i := 252) rfl)) rfl
set_option maxRecDepth 100000 in
theorem jw_cd_f_V_share : Cond.code f_V_share.1 f_V_share.2.1 f_V_share.2.2.1 f_V_share.2.2.2.1 ∈ jw_ws := jw_in (List.mem_append_right _ (List.mem_of_getElem? (i := 361) rfl)) rfl
theorem jw_ml_V_7 : Cond.methodLink R_V 7 Lib.Math.min.name ∈ jw_ws := jw_in (by decide +kernel) (by decide +kernel)
theorem jw_ml_V_77 : jw_ok R_V 77 f_V_isNode 1 := ⟨jw_in (by decide +kernel) (by decide +kernel), jw_in (by decide +kernel) (by decide +kernel), jw_cd_f_V_isNode, ⟨by decide +kernel, by decide +kernel, by decide +kernel⟩⟩
theorem jw_ml_V_81 : jw_ok R_V 81 f_V_isPosition 1 := ⟨jw_in (by decide +kernel) (by decide +kernel), jw_in (by decide +kernel) (by decide +kernel), jw_cd_f_V_isPosition, ⟨by decide +kernel, by decide +kernel, by decide +kernel⟩⟩
theorem jw_ml_V_91 : jw_ok R_V 91 f_V_areTwoNodes 2 := ⟨jw_in (by decide +kernel) (by decide +kernel), jw_in (by decide +kernel) (by decide +kernel), jw_cd_f_V_areTwoNodes, ⟨by decide +kernel, by decide +kernel, by decide +kernel⟩⟩
theorem jw_ml_V_95 : jw_ok R_V 95 f_V_line 2 := ⟨jw_in (by decide +kernel) (by decide +kernel), jw_in (by decide +kernel) (by decide +kernel), jw_cd_f_V_line, ⟨by decide +kernel, by decide +kernel, by decide +kernel⟩⟩
theorem jw_ml_V_98 : jw_ok R_V 98 f_V_isKey 1 := ⟨jw_in (by decide +kernel) (by decide +kernel), jw_in (by decide +kernel) (by decide +kernel), jw_cd_f_V_isKey, ⟨by decide +kernel, by decide +kernel, by decide +kernel⟩⟩
theorem jw_ml_V_101 : jw_ok R_V 101 f_V_mayKnow 2 := ⟨jw_in (by decide +kernel) (by decide +kernel), jw_in (by decide +kernel) (by decide +kernel), jw_cd_f_V_mayKnow, ⟨by decide +kernel, by decide +kernel, by decide +kernel⟩⟩
theorem jw_ml_V_107 : jw_ok R_V 107 f_V_aim 2 := ⟨jw_in (by decide +kernel) (by decide +kernel), jw_in (by decide +kernel) (by decide +kernel), jw_cd_f_V_aim, ⟨by decide +kernel, by decide +kernel, by decide +kernel⟩⟩
theorem jw_ml_V_120 : jw_ok R_V 120 f_G_add 4 := ⟨jw_in (by decide +kernel) (by decide +kernel), jw_in (by decide +kernel) (by decide +kernel), jw_cd_f_G_add, ⟨by decide +kernel, by decide +kernel, by decide +kernel⟩⟩
theorem jw_ml_V_124 : jw_ok R_V 124 f_V_sendToHomes 1 := ⟨jw_in (by decide +kernel) (by decide +kernel), jw_in (by decide +kernel) (by decide +kernel), jw_cd_f_V_sendToHomes, ⟨by decide +kernel, by decide +kernel, by decide +kernel⟩⟩
theorem jw_ml_V_127 : jw_ok R_V 127 f_V_leaveHints 2 := ⟨jw_in (by decide +kernel) (by decide +kernel), jw_in (by decide +kernel) (by decide +kernel), jw_cd_f_V_leaveHints, ⟨by decide +kernel, by decide +kernel, by decide +kernel⟩⟩
theorem jw_ml_V_130 : jw_ok R_V 130 f_V_isContext 1 := ⟨jw_in (by decide +kernel) (by decide +kernel), jw_in (by decide +kernel) (by decide +kernel), jw_cd_f_V_isContext, ⟨by decide +kernel, by decide +kernel, by decide +kernel⟩⟩
theorem jw_ml_V_133 : jw_ok R_V 133 f_V_lookAtTargets 1 := ⟨jw_in (by decide +kernel) (by decide +kernel), jw_in (by decide +kernel) (by decide +kernel), jw_cd_f_V_lookAtTargets, ⟨by decide +kernel, by decide +kernel, by decide +kernel⟩⟩
theorem jw_ml_V_136 : jw_ok R_V 136 f_V_keepLatest 0 := ⟨jw_in (by decide +kernel) (by decide +kernel), jw_in (by decide +kernel) (by decide +kernel), jw_cd_f_V_keepLatest, ⟨by decide +kernel, by decide +kernel, by decide +kernel⟩⟩
theorem jw_ml_V_140 : jw_ok R_V 140 f_C_learn 3 := ⟨jw_in (by decide +kernel) (by decide +kernel), jw_in (by decide +kernel) (by decide +kernel), jw_cd_f_C_learn, ⟨by decide +kernel, by decide +kernel, by decide +kernel⟩⟩
theorem jw_ml_V_150 : jw_ok R_V 150 f_N_takeAll 1 := ⟨jw_in (by decide +kernel) (by decide +kernel), jw_in (by decide +kernel) (by decide +kernel), jw_cd_f_N_takeAll, ⟨by decide +kernel, by decide +kernel, by decide +kernel⟩⟩
theorem jw_ml_V_154 : jw_ok R_V 154 f_V_handOverHints 1 := ⟨jw_in (by decide +kernel) (by decide +kernel), jw_in (by decide +kernel) (by decide +kernel), jw_cd_f_V_handOverHints, ⟨by decide +kernel, by decide +kernel, by decide +kernel⟩⟩
theorem jw_ml_V_158 : jw_ok R_V 158 f_V_handOverKey 2 := ⟨jw_in (by decide +kernel) (by decide +kernel), jw_in (by decide +kernel) (by decide +kernel), jw_cd_f_V_handOverKey, ⟨by decide +kernel, by decide +kernel, by decide +kernel⟩⟩
theorem jw_ml_V_161 : jw_ok R_V 161 f_V_reaches 2 := ⟨jw_in (by decide +kernel) (by decide +kernel), jw_in (by decide +kernel) (by decide +kernel), jw_cd_f_V_reaches, ⟨by decide +kernel, by decide +kernel, by decide +kernel⟩⟩
theorem jw_ml_V_164 : jw_ok R_V 164 f_V_share 3 := ⟨jw_in (by decide +kernel) (by decide +kernel), jw_in (by decide +kernel) (by decide +kernel), jw_cd_f_V_share, ⟨by decide +kernel, by decide +kernel, by decide +kernel⟩⟩
theorem jw_ml_V_168 : jw_ok R_V 168 f_V_differ 3 := ⟨jw_in (by decide +kernel) (by decide +kernel), jw_in (by decide +kernel) (by decide +kernel), jw_cd_f_V_differ, ⟨by decide +kernel, by decide +kernel, by decide +kernel⟩⟩
theorem jw_ml_V_171 : jw_ok R_V 171 f_V_exchange 3 := ⟨jw_in (by decide +kernel) (by decide +kernel), jw_in (by decide +kernel) (by decide +kernel), jw_cd_f_V_exchange, ⟨by decide +kernel, by decide +kernel, by decide +kernel⟩⟩
theorem jw_ml_V_175 : jw_ok R_V 175 f_V_countComparedParts 0 := ⟨jw_in (by decide +kernel) (by decide +kernel), jw_in (by decide +kernel) (by decide +kernel), jw_cd_f_V_countComparedParts, ⟨by decide +kernel, by decide +kernel, by decide +kernel⟩⟩
theorem jw_ml_V_178 : jw_ok R_V 178 f_R_lookUp 1 := ⟨jw_in (by decide +kernel) (by decide +kernel), jw_in (by decide +kernel) (by decide +kernel), jw_cd_f_R_lookUp, ⟨by decide +kernel, by decide +kernel, by decide +kernel⟩⟩
theorem jw_ml_V_187 : jw_ok R_V 187 f_G_isMade 1 := ⟨jw_in (by decide +kernel) (by decide +kernel), jw_in (by decide +kernel) (by decide +kernel), jw_cd_f_G_isMade, ⟨by decide +kernel, by decide +kernel, by decide +kernel⟩⟩
theorem jw_ml_V_193 : jw_ok R_V 193 f_N_hasHintOf 1 := ⟨jw_in (by decide +kernel) (by decide +kernel), jw_in (by decide +kernel) (by decide +kernel), jw_cd_f_N_hasHintOf, ⟨by decide +kernel, by decide +kernel, by decide +kernel⟩⟩
theorem jw_ml_V_196 : jw_ok R_V 196 f_N_writeOut 2 := ⟨jw_in (by decide +kernel) (by decide +kernel), jw_in (by decide +kernel) (by decide +kernel), jw_cd_f_N_writeOut, ⟨by decide +kernel, by decide +kernel, by decide +kernel⟩⟩
theorem jw_ml_V_206 : jw_ok R_V 206 f_G_clockCount 2 := ⟨jw_in (by decide +kernel) (by decide +kernel), jw_in (by decide +kernel) (by decide +kernel), jw_cd_f_G_clockCount, ⟨by decide +kernel, by decide +kernel, by decide +kernel⟩⟩
theorem jw_ml_V_209 : jw_ok R_V 209 f_C_isEmpty 0 := ⟨jw_in (by decide +kernel) (by decide +kernel), jw_in (by decide +kernel) (by decide +kernel), jw_cd_f_C_isEmpty, ⟨by decide +kernel, by decide +kernel, by decide +kernel⟩⟩
theorem jw_ml_V_216 : Cond.methodLink R_V 216 Lib.Math.max.name ∈ jw_ws := jw_in (by decide +kernel) (by decide +kernel)
theorem jw_ml_V_225 : jw_ok R_V 225 f_N_take 1 := ⟨jw_in (by decide +kernel) (by decide +kernel), jw_in (by decide +kernel) (by decide +kernel), jw_cd_f_N_take, ⟨by decide +kernel, by decide +kernel, by decide +kernel⟩⟩
theorem jw_ml_V_231 : jw_ok R_V 231 f_V_isAtSomeTarget 1 := ⟨jw_in (by decide +kernel) (by decide +kernel), jw_in (by decide +kernel) (by decide +kernel), jw_cd_f_V_isAtSomeTarget, ⟨by decide +kernel, by decide +kernel, by decide +kernel⟩⟩
theorem jw_ml_V_234 : jw_ok R_V 234 f_V_isPassedBySeen 1 := ⟨jw_in (by decide +kernel) (by decide +kernel), jw_in (by decide +kernel) (by decide +kernel), jw_cd_f_V_isPassedBySeen, ⟨by decide +kernel, by decide +kernel, by decide +kernel⟩⟩
theorem jw_ml_V_237 : jw_ok R_V 237 f_G_isAtOrBelow 2 := ⟨jw_in (by decide +kernel) (by decide +kernel), jw_in (by decide +kernel) (by decide +kernel), jw_cd_f_G_isAtOrBelow, ⟨by decide +kernel, by decide +kernel, by decide +kernel⟩⟩
theorem jw_ml_V_240 : jw_ok R_V 240 f_R_hasHome 1 := ⟨jw_in (by decide +kernel) (by decide +kernel), jw_in (by decide +kernel) (by decide +kernel), jw_cd_f_R_hasHome, ⟨by decide +kernel, by decide +kernel, by decide +kernel⟩⟩
theorem jw_ml_V_243 : jw_ok R_V 243 f_V_reachesAllHomes 1 := ⟨jw_in (by decide +kernel) (by decide +kernel), jw_in (by decide +kernel) (by decide +kernel), jw_cd_f_V_reachesAllHomes, ⟨by decide +kernel, by decide +kernel, by decide +kernel⟩⟩
theorem jw_ml_V_246 : jw_ok R_V 246 f_N_dropAll 1 := ⟨jw_in (by decide +kernel) (by decide +kernel), jw_in (by decide +kernel) (by decide +kernel), jw_cd_f_N_dropAll, ⟨by decide +kernel, by decide +kernel, by decide +kernel⟩⟩
theorem jw_ml_C_19 : jw_ok R_C 19 f_J_fill 2 := ⟨jw_in (by decide +kernel) (by decide +kernel), jw_in (by decide +kernel) (by decide +kernel), jw_cd_f_J_fill, ⟨by decide +kernel, by decide +kernel, by decide +kernel⟩⟩
theorem jw_ml_C_30 : jw_ok R_C 30 f_C_rise 2 := ⟨jw_in (by decide +kernel) (by decide +kernel), jw_in (by decide +kernel) (by decide +kernel), jw_cd_f_C_rise, ⟨by decide +kernel, by decide +kernel, by decide +kernel⟩⟩
theorem jw_ml_C_34 : jw_ok R_C 34 f_G_clockCount 2 := ⟨jw_in (by decide +kernel) (by decide +kernel), jw_in (by decide +kernel) (by decide +kernel), jw_cd_f_G_clockCount, ⟨by decide +kernel, by decide +kernel, by decide +kernel⟩⟩
theorem jw_ml_C_38 : Cond.methodLink R_C 38 Lib.Math.max.name ∈ jw_ws := jw_in (by decide +kernel) (by decide +kernel)
theorem jw_ml_G_28 : Cond.methodLink R_G 28 arraycopyName ∈ jw_ws := jw_in (by decide +kernel) (by decide +kernel)
theorem jw_ml_G_34 : jw_ok R_G 34 f_G_numberWritten 2 := ⟨jw_in (by decide +kernel) (by decide +kernel), jw_in (by decide +kernel) (by decide +kernel), jw_cd_f_G_numberWritten, ⟨by decide +kernel, by decide +kernel, by decide +kernel⟩⟩
theorem jw_ml_G_38 : jw_ok R_G 38 f_G_clockCount 2 := ⟨jw_in (by decide +kernel) (by decide +kernel), jw_in (by decide +kernel) (by decide +kernel), jw_cd_f_G_clockCount, ⟨by decide +kernel, by decide +kernel, by decide +kernel⟩⟩
theorem jw_ml_N_33 : jw_ok R_N 33 f_N_isPassed 1 := ⟨jw_in (by decide +kernel) (by decide +kernel), jw_in (by decide +kernel) (by decide +kernel), jw_cd_f_N_isPassed, ⟨by decide +kernel, by decide +kernel, by decide +kernel⟩⟩
theorem jw_ml_N_43 : jw_ok R_N 43 f_N_hasBeside 2 := ⟨jw_in (by decide +kernel) (by decide +kernel), jw_in (by decide +kernel) (by decide +kernel), jw_cd_f_N_hasBeside, ⟨by decide +kernel, by decide +kernel, by decide +kernel⟩⟩
theorem jw_ml_N_47 : jw_ok R_N 47 f_G_isAtOrBelow 2 := ⟨jw_in (by decide +kernel) (by decide +kernel), jw_in (by decide +kernel) (by decide +kernel), jw_cd_f_G_isAtOrBelow, ⟨by decide +kernel, by decide +kernel, by decide +kernel⟩⟩
theorem jw_ml_N_53 : jw_ok R_N 53 f_N_take 1 := ⟨jw_in (by decide +kernel) (by decide +kernel), jw_in (by decide +kernel) (by decide +kernel), jw_cd_f_N_take, ⟨by decide +kernel, by decide +kernel, by decide +kernel⟩⟩
theorem jw_ml_R_31 : jw_ok R_R 31 f_R_isAmongFirst 2 := ⟨jw_in (by decide +kernel) (by decide +kernel), jw_in (by decide +kernel) (by decide +kernel), jw_cd_f_R_isAmongFirst, ⟨by decide +kernel, by decide +kernel, by decide +kernel⟩⟩
theorem jw_ml_R_35 : Cond.methodLink R_R 35 Lib.Math.min.name ∈ jw_ws := jw_in (by decide +kernel) (by decide +kernel)
theorem jw_ml_M_69 : jw_ok R_M 69 f_M_isNode 1 := ⟨jw_in (by decide +kernel) (by decide +kernel), jw_in (by decide +kernel) (by decide +kernel), jw_cd_f_M_isNode, ⟨by decide +kernel, by decide +kernel, by decide +kernel⟩⟩
theorem jw_ml_M_76 : jw_ok R_M 76 f_M_placeIn 1 := ⟨jw_in (by decide +kernel) (by decide +kernel), jw_in (by decide +kernel) (by decide +kernel), jw_cd_f_M_placeIn, ⟨by decide +kernel, by decide +kernel, by decide +kernel⟩⟩
theorem jw_ml_M_80 : jw_ok R_M 80 f_M_list 1 := ⟨jw_in (by decide +kernel) (by decide +kernel), jw_in (by decide +kernel) (by decide +kernel), jw_cd_f_M_list, ⟨by decide +kernel, by decide +kernel, by decide +kernel⟩⟩
theorem jw_ml_M_84 : jw_ok R_M 84 f_M_isKey 1 := ⟨jw_in (by decide +kernel) (by decide +kernel), jw_in (by decide +kernel) (by decide +kernel), jw_cd_f_M_isKey, ⟨by decide +kernel, by decide +kernel, by decide +kernel⟩⟩
theorem jw_ml_M_87 : jw_ok R_M 87 f_M_homes 0 := ⟨jw_in (by decide +kernel) (by decide +kernel), jw_in (by decide +kernel) (by decide +kernel), jw_cd_f_M_homes, ⟨by decide +kernel, by decide +kernel, by decide +kernel⟩⟩
theorem jw_ml_M_94 : jw_ok R_M 94 f_M_reaches 2 := ⟨jw_in (by decide +kernel) (by decide +kernel), jw_in (by decide +kernel) (by decide +kernel), jw_cd_f_M_reaches, ⟨by decide +kernel, by decide +kernel, by decide +kernel⟩⟩
theorem jw_ml_M_98 : jw_ok R_M 98 f_M_aim 2 := ⟨jw_in (by decide +kernel) (by decide +kernel), jw_in (by decide +kernel) (by decide +kernel), jw_cd_f_M_aim, ⟨by decide +kernel, by decide +kernel, by decide +kernel⟩⟩
theorem jw_ml_M_105 : jw_ok R_M 105 f_M_below 2 := ⟨jw_in (by decide +kernel) (by decide +kernel), jw_in (by decide +kernel) (by decide +kernel), jw_cd_f_M_below, ⟨by decide +kernel, by decide +kernel, by decide +kernel⟩⟩
theorem jw_ml_M_108 : jw_ok R_M 108 f_M_standsFor 2 := ⟨jw_in (by decide +kernel) (by decide +kernel), jw_in (by decide +kernel) (by decide +kernel), jw_cd_f_M_standsFor, ⟨by decide +kernel, by decide +kernel, by decide +kernel⟩⟩
theorem jw_ml_M_112 : jw_ok R_M 112 f_M_take 2 := ⟨jw_in (by decide +kernel) (by decide +kernel), jw_in (by decide +kernel) (by decide +kernel), jw_cd_f_M_take, ⟨by decide +kernel, by decide +kernel, by decide +kernel⟩⟩
theorem jw_ml_M_115 : jw_ok R_M 115 f_M_shown 1 := ⟨jw_in (by decide +kernel) (by decide +kernel), jw_in (by decide +kernel) (by decide +kernel), jw_cd_f_M_shown, ⟨by decide +kernel, by decide +kernel, by decide +kernel⟩⟩
theorem jw_ml_M_121 : jw_ok R_M 121 f_M_isFound 2 := ⟨jw_in (by decide +kernel) (by decide +kernel), jw_in (by decide +kernel) (by decide +kernel), jw_cd_f_M_isFound, ⟨by decide +kernel, by decide +kernel, by decide +kernel⟩⟩
theorem jw_ml_M_124 : jw_ok R_M 124 f_M_repair 0 := ⟨jw_in (by decide +kernel) (by decide +kernel), jw_in (by decide +kernel) (by decide +kernel), jw_cd_f_M_repair, ⟨by decide +kernel, by decide +kernel, by decide +kernel⟩⟩
theorem jw_ml_M_130 : jw_ok R_M 130 f_M_moved 2 := ⟨jw_in (by decide +kernel) (by decide +kernel), jw_in (by decide +kernel) (by decide +kernel), jw_cd_f_M_moved, ⟨by decide +kernel, by decide +kernel, by decide +kernel⟩⟩
theorem jw_ml_M_133 : jw_ok R_M 133 f_M_count 2 := ⟨jw_in (by decide +kernel) (by decide +kernel), jw_in (by decide +kernel) (by decide +kernel), jw_cd_f_M_count, ⟨by decide +kernel, by decide +kernel, by decide +kernel⟩⟩
theorem jw_ml_M_136 : jw_ok R_M 136 f_M_isHome 2 := ⟨jw_in (by decide +kernel) (by decide +kernel), jw_in (by decide +kernel) (by decide +kernel), jw_cd_f_M_isHome, ⟨by decide +kernel, by decide +kernel, by decide +kernel⟩⟩
theorem jw_ml_M_139 : jw_ok R_M 139 f_M_differ 3 := ⟨jw_in (by decide +kernel) (by decide +kernel), jw_in (by decide +kernel) (by decide +kernel), jw_cd_f_M_differ, ⟨by decide +kernel, by decide +kernel, by decide +kernel⟩⟩
theorem jw_ml_M_143 : jw_ok R_M 143 f_M_exchange 3 := ⟨jw_in (by decide +kernel) (by decide +kernel), jw_in (by decide +kernel) (by decide +kernel), jw_cd_f_M_exchange, ⟨by decide +kernel, by decide +kernel, by decide +kernel⟩⟩
theorem jw_in_f_C_isEmpty : Cond.instanceMethod f_C_isEmpty.1 ∈ jw_ws := jw_in (by decide +kernel) (by decide +kernel)
theorem jw_se_f_C_isEmpty : Cond.selects f_C_isEmpty.1.cls f_C_isEmpty.1 f_C_isEmpty.1 ∈ jw_ws := jw_in (by decide +kernel) (by decide +kernel)
theorem jw_in_f_C_learn : Cond.instanceMethod f_C_learn.1 ∈ jw_ws := jw_in (by decide +kernel) (by decide +kernel)
theorem jw_se_f_C_learn : Cond.selects f_C_learn.1.cls f_C_learn.1 f_C_learn.1 ∈ jw_ws := jw_in (by decide +kernel) (by decide +kernel)
theorem jw_in_f_C_rise : Cond.instanceMethod f_C_rise.1 ∈ jw_ws := jw_in (by decide +kernel) (by decide +kernel)
theorem jw_se_f_C_rise : Cond.selects f_C_rise.1.cls f_C_rise.1 f_C_rise.1 ∈ jw_ws := jw_in (by decide +kernel) (by decide +kernel)
theorem jw_in_f_G_add : Cond.instanceMethod f_G_add.1 ∈ jw_ws := jw_in (by decide +kernel) (by decide +kernel)
theorem jw_se_f_G_add : Cond.selects f_G_add.1.cls f_G_add.1 f_G_add.1 ∈ jw_ws := jw_in (by decide +kernel) (by decide +kernel)
theorem jw_in_f_G_clockCount : Cond.instanceMethod f_G_clockCount.1 ∈ jw_ws := jw_in (by decide +kernel) (by decide +kernel)
theorem jw_se_f_G_clockCount : Cond.selects f_G_clockCount.1.cls f_G_clockCount.1 f_G_clockCount.1 ∈ jw_ws := jw_in (by decide +kernel) (by decide +kernel)
theorem jw_in_f_G_isAtOrBelow : Cond.instanceMethod f_G_isAtOrBelow.1 ∈ jw_ws := jw_in (by decide +kernel) (by decide +kernel)
theorem jw_se_f_G_isAtOrBelow : Cond.selects f_G_isAtOrBelow.1.cls f_G_isAtOrBelow.1 f_G_isAtOrBelow.1 ∈ jw_ws := jw_in (by decide +kernel) (by decide +kernel)
theorem jw_in_f_G_isMade : Cond.instanceMethod f_G_isMade.1 ∈ jw_ws := jw_in (by decide +kernel) (by decide +kernel)
theorem jw_se_f_G_isMade : Cond.selects f_G_isMade.1.cls f_G_isMade.1 f_G_isMade.1 ∈ jw_ws := jw_in (by decide +kernel) (by decide +kernel)
theorem jw_in_f_G_numberWritten : Cond.instanceMethod f_G_numberWritten.1 ∈ jw_ws := jw_in (by decide +kernel) (by decide +kernel)
theorem jw_se_f_G_numberWritten : Cond.selects f_G_numberWritten.1.cls f_G_numberWritten.1 f_G_numberWritten.1 ∈ jw_ws := jw_in (by decide +kernel) (by decide +kernel)
theorem jw_in_f_M_aim : Cond.instanceMethod f_M_aim.1 ∈ jw_ws := jw_in (by decide +kernel) (by decide +kernel)
theorem jw_se_f_M_aim : Cond.selects f_M_aim.1.cls f_M_aim.1 f_M_aim.1 ∈ jw_ws := jw_in (by decide +kernel) (by decide +kernel)
theorem jw_in_f_M_below : Cond.instanceMethod f_M_below.1 ∈ jw_ws := jw_in (by decide +kernel) (by decide +kernel)
theorem jw_se_f_M_below : Cond.selects f_M_below.1.cls f_M_below.1 f_M_below.1 ∈ jw_ws := jw_in (by decide +kernel) (by decide +kernel)
theorem jw_in_f_M_count : Cond.instanceMethod f_M_count.1 ∈ jw_ws := jw_in (by decide +kernel) (by decide +kernel)
theorem jw_se_f_M_count : Cond.selects f_M_count.1.cls f_M_count.1 f_M_count.1 ∈ jw_ws := jw_in (by decide +kernel) (by decide +kernel)
theorem jw_in_f_M_differ : Cond.instanceMethod f_M_differ.1 ∈ jw_ws := jw_in (by decide +kernel) (by decide +kernel)
theorem jw_se_f_M_differ : Cond.selects f_M_differ.1.cls f_M_differ.1 f_M_differ.1 ∈ jw_ws := jw_in (by decide +kernel) (by decide +kernel)
theorem jw_in_f_M_exchange : Cond.instanceMethod f_M_exchange.1 ∈ jw_ws := jw_in (by decide +kernel) (by decide +kernel)
theorem jw_se_f_M_exchange : Cond.selects f_M_exchange.1.cls f_M_exchange.1 f_M_exchange.1 ∈ jw_ws := jw_in (by decide +kernel) (by decide +kernel)
theorem jw_in_f_M_homes : Cond.instanceMethod f_M_homes.1 ∈ jw_ws := jw_in (by decide +kernel) (by decide +kernel)
theorem jw_se_f_M_homes : Cond.selects f_M_homes.1.cls f_M_homes.1 f_M_homes.1 ∈ jw_ws := jw_in (by decide +kernel) (by decide +kernel)
theorem jw_in_f_M_isFound : Cond.instanceMethod f_M_isFound.1 ∈ jw_ws := jw_in (by decide +kernel) (by decide +kernel)
theorem jw_se_f_M_isFound : Cond.selects f_M_isFound.1.cls f_M_isFound.1 f_M_isFound.1 ∈ jw_ws := jw_in (by decide +kernel) (by decide +kernel)
theorem jw_in_f_M_isHome : Cond.instanceMethod f_M_isHome.1 ∈ jw_ws := jw_in (by decide +kernel) (by decide +kernel)
theorem jw_se_f_M_isHome : Cond.selects f_M_isHome.1.cls f_M_isHome.1 f_M_isHome.1 ∈ jw_ws := jw_in (by decide +kernel) (by decide +kernel)
theorem jw_in_f_M_list : Cond.instanceMethod f_M_list.1 ∈ jw_ws := jw_in (by decide +kernel) (by decide +kernel)
theorem jw_se_f_M_list : Cond.selects f_M_list.1.cls f_M_list.1 f_M_list.1 ∈ jw_ws := jw_in (by decide +kernel) (by decide +kernel)
theorem jw_in_f_M_moved : Cond.instanceMethod f_M_moved.1 ∈ jw_ws := jw_in (by decide +kernel) (by decide +kernel)
theorem jw_se_f_M_moved : Cond.selects f_M_moved.1.cls f_M_moved.1 f_M_moved.1 ∈ jw_ws := jw_in (by decide +kernel) (by decide +kernel)
theorem jw_in_f_M_placeIn : Cond.instanceMethod f_M_placeIn.1 ∈ jw_ws := jw_in (by decide +kernel) (by decide +kernel)
theorem jw_se_f_M_placeIn : Cond.selects f_M_placeIn.1.cls f_M_placeIn.1 f_M_placeIn.1 ∈ jw_ws := jw_in (by decide +kernel) (by decide +kernel)
theorem jw_in_f_M_reaches : Cond.instanceMethod f_M_reaches.1 ∈ jw_ws := jw_in (by decide +kernel) (by decide +kernel)
theorem jw_se_f_M_reaches : Cond.selects f_M_reaches.1.cls f_M_reaches.1 f_M_reaches.1 ∈ jw_ws := jw_in (by decide +kernel) (by decide +kernel)
theorem jw_in_f_M_repair : Cond.instanceMethod f_M_repair.1 ∈ jw_ws := jw_in (by decide +kernel) (by decide +kernel)
theorem jw_se_f_M_repair : Cond.selects f_M_repair.1.cls f_M_repair.1 f_M_repair.1 ∈ jw_ws := jw_in (by decide +kernel) (by decide +kernel)
theorem jw_in_f_M_shown : Cond.instanceMethod f_M_shown.1 ∈ jw_ws := jw_in (by decide +kernel) (by decide +kernel)
theorem jw_se_f_M_shown : Cond.selects f_M_shown.1.cls f_M_shown.1 f_M_shown.1 ∈ jw_ws := jw_in (by decide +kernel) (by decide +kernel)
theorem jw_in_f_M_standsFor : Cond.instanceMethod f_M_standsFor.1 ∈ jw_ws := jw_in (by decide +kernel) (by decide +kernel)
theorem jw_se_f_M_standsFor : Cond.selects f_M_standsFor.1.cls f_M_standsFor.1 f_M_standsFor.1 ∈ jw_ws := jw_in (by decide +kernel) (by decide +kernel)
theorem jw_in_f_M_take : Cond.instanceMethod f_M_take.1 ∈ jw_ws := jw_in (by decide +kernel) (by decide +kernel)
theorem jw_se_f_M_take : Cond.selects f_M_take.1.cls f_M_take.1 f_M_take.1 ∈ jw_ws := jw_in (by decide +kernel) (by decide +kernel)
theorem jw_in_f_N_dropAll : Cond.instanceMethod f_N_dropAll.1 ∈ jw_ws := jw_in (by decide +kernel) (by decide +kernel)
theorem jw_se_f_N_dropAll : Cond.selects f_N_dropAll.1.cls f_N_dropAll.1 f_N_dropAll.1 ∈ jw_ws := jw_in (by decide +kernel) (by decide +kernel)
theorem jw_in_f_N_hasBeside : Cond.instanceMethod f_N_hasBeside.1 ∈ jw_ws := jw_in (by decide +kernel) (by decide +kernel)
theorem jw_se_f_N_hasBeside : Cond.selects f_N_hasBeside.1.cls f_N_hasBeside.1 f_N_hasBeside.1 ∈ jw_ws := jw_in (by decide +kernel) (by decide +kernel)
theorem jw_in_f_N_hasHintOf : Cond.instanceMethod f_N_hasHintOf.1 ∈ jw_ws := jw_in (by decide +kernel) (by decide +kernel)
theorem jw_se_f_N_hasHintOf : Cond.selects f_N_hasHintOf.1.cls f_N_hasHintOf.1 f_N_hasHintOf.1 ∈ jw_ws := jw_in (by decide +kernel) (by decide +kernel)
theorem jw_in_f_N_isPassed : Cond.instanceMethod f_N_isPassed.1 ∈ jw_ws := jw_in (by decide +kernel) (by decide +kernel)
theorem jw_se_f_N_isPassed : Cond.selects f_N_isPassed.1.cls f_N_isPassed.1 f_N_isPassed.1 ∈ jw_ws := jw_in (by decide +kernel) (by decide +kernel)
theorem jw_in_f_N_take : Cond.instanceMethod f_N_take.1 ∈ jw_ws := jw_in (by decide +kernel) (by decide +kernel)
theorem jw_se_f_N_take : Cond.selects f_N_take.1.cls f_N_take.1 f_N_take.1 ∈ jw_ws := jw_in (by decide +kernel) (by decide +kernel)
theorem jw_in_f_N_takeAll : Cond.instanceMethod f_N_takeAll.1 ∈ jw_ws := jw_in (by decide +kernel) (by decide +kernel)
theorem jw_se_f_N_takeAll : Cond.selects f_N_takeAll.1.cls f_N_takeAll.1 f_N_takeAll.1 ∈ jw_ws := jw_in (by decide +kernel) (by decide +kernel)
theorem jw_in_f_N_writeOut : Cond.instanceMethod f_N_writeOut.1 ∈ jw_ws := jw_in (by decide +kernel) (by decide +kernel)
theorem jw_se_f_N_writeOut : Cond.selects f_N_writeOut.1.cls f_N_writeOut.1 f_N_writeOut.1 ∈ jw_ws := jw_in (by decide +kernel) (by decide +kernel)
theorem jw_in_f_R_hasHome : Cond.instanceMethod f_R_hasHome.1 ∈ jw_ws := jw_in (by decide +kernel) (by decide +kernel)
theorem jw_se_f_R_hasHome : Cond.selects f_R_hasHome.1.cls f_R_hasHome.1 f_R_hasHome.1 ∈ jw_ws := jw_in (by decide +kernel) (by decide +kernel)
theorem jw_in_f_R_isAmongFirst : Cond.instanceMethod f_R_isAmongFirst.1 ∈ jw_ws := jw_in (by decide +kernel) (by decide +kernel)
theorem jw_se_f_R_isAmongFirst : Cond.selects f_R_isAmongFirst.1.cls f_R_isAmongFirst.1 f_R_isAmongFirst.1 ∈ jw_ws := jw_in (by decide +kernel) (by decide +kernel)
theorem jw_in_f_R_lookUp : Cond.instanceMethod f_R_lookUp.1 ∈ jw_ws := jw_in (by decide +kernel) (by decide +kernel)
theorem jw_se_f_R_lookUp : Cond.selects f_R_lookUp.1.cls f_R_lookUp.1 f_R_lookUp.1 ∈ jw_ws := jw_in (by decide +kernel) (by decide +kernel)
theorem jw_in_f_V_aim : Cond.instanceMethod f_V_aim.1 ∈ jw_ws := jw_in (by decide +kernel) (by decide +kernel)
theorem jw_se_f_V_aim : Cond.selects f_V_aim.1.cls f_V_aim.1 f_V_aim.1 ∈ jw_ws := jw_in (by decide +kernel) (by decide +kernel)
theorem jw_in_f_V_countComparedParts : Cond.instanceMethod f_V_countComparedParts.1 ∈ jw_ws := jw_in (by decide +kernel) (by decide +kernel)
theorem jw_se_f_V_countComparedParts : Cond.selects f_V_countComparedParts.1.cls f_V_countComparedParts.1 f_V_countComparedParts.1 ∈ jw_ws := jw_in (by decide +kernel) (by decide +kernel)
theorem jw_in_f_V_differ : Cond.instanceMethod f_V_differ.1 ∈ jw_ws := jw_in (by decide +kernel) (by decide +kernel)
theorem jw_se_f_V_differ : Cond.selects f_V_differ.1.cls f_V_differ.1 f_V_differ.1 ∈ jw_ws := jw_in (by decide +kernel) (by decide +kernel)
theorem jw_in_f_V_exchange : Cond.instanceMethod f_V_exchange.1 ∈ jw_ws := jw_in (by decide +kernel) (by decide +kernel)
theorem jw_se_f_V_exchange : Cond.selects f_V_exchange.1.cls f_V_exchange.1 f_V_exchange.1 ∈ jw_ws := jw_in (by decide +kernel) (by decide +kernel)
theorem jw_in_f_V_handOverHints : Cond.instanceMethod f_V_handOverHints.1 ∈ jw_ws := jw_in (by decide +kernel) (by decide +kernel)
theorem jw_se_f_V_handOverHints : Cond.selects f_V_handOverHints.1.cls f_V_handOverHints.1 f_V_handOverHints.1 ∈ jw_ws := jw_in (by decide +kernel) (by decide +kernel)
theorem jw_in_f_V_handOverKey : Cond.instanceMethod f_V_handOverKey.1 ∈ jw_ws := jw_in (by decide +kernel) (by decide +kernel)
theorem jw_se_f_V_handOverKey : Cond.selects f_V_handOverKey.1.cls f_V_handOverKey.1 f_V_handOverKey.1 ∈ jw_ws := jw_in (by decide +kernel) (by decide +kernel)
theorem jw_in_f_V_isAtSomeTarget : Cond.instanceMethod f_V_isAtSomeTarget.1 ∈ jw_ws := jw_in (by decide +kernel) (by decide +kernel)
theorem jw_se_f_V_isAtSomeTarget : Cond.selects f_V_isAtSomeTarget.1.cls f_V_isAtSomeTarget.1 f_V_isAtSomeTarget.1 ∈ jw_ws := jw_in (by decide +kernel) (by decide +kernel)
theorem jw_in_f_V_isPassedBySeen : Cond.instanceMethod f_V_isPassedBySeen.1 ∈ jw_ws := jw_in (by decide +kernel) (by decide +kernel)
theorem jw_se_f_V_isPassedBySeen : Cond.selects f_V_isPassedBySeen.1.cls f_V_isPassedBySeen.1 f_V_isPassedBySeen.1 ∈ jw_ws := jw_in (by decide +kernel) (by decide +kernel)
theorem jw_in_f_V_keepLatest : Cond.instanceMethod f_V_keepLatest.1 ∈ jw_ws := jw_in (by decide +kernel) (by decide +kernel)
theorem jw_se_f_V_keepLatest : Cond.selects f_V_keepLatest.1.cls f_V_keepLatest.1 f_V_keepLatest.1 ∈ jw_ws := jw_in (by decide +kernel) (by decide +kernel)
theorem jw_in_f_V_leaveHints : Cond.instanceMethod f_V_leaveHints.1 ∈ jw_ws := jw_in (by decide +kernel) (by decide +kernel)
theorem jw_se_f_V_leaveHints : Cond.selects f_V_leaveHints.1.cls f_V_leaveHints.1 f_V_leaveHints.1 ∈ jw_ws := jw_in (by decide +kernel) (by decide +kernel)
theorem jw_in_f_V_lookAtTargets : Cond.instanceMethod f_V_lookAtTargets.1 ∈ jw_ws := jw_in (by decide +kernel) (by decide +kernel)
theorem jw_se_f_V_lookAtTargets : Cond.selects f_V_lookAtTargets.1.cls f_V_lookAtTargets.1 f_V_lookAtTargets.1 ∈ jw_ws := jw_in (by decide +kernel) (by decide +kernel)
theorem jw_in_f_V_mayKnow : Cond.instanceMethod f_V_mayKnow.1 ∈ jw_ws := jw_in (by decide +kernel) (by decide +kernel)
theorem jw_se_f_V_mayKnow : Cond.selects f_V_mayKnow.1.cls f_V_mayKnow.1 f_V_mayKnow.1 ∈ jw_ws := jw_in (by decide +kernel) (by decide +kernel)
theorem jw_in_f_V_reaches : Cond.instanceMethod f_V_reaches.1 ∈ jw_ws := jw_in (by decide +kernel) (by decide +kernel)
theorem jw_se_f_V_reaches : Cond.selects f_V_reaches.1.cls f_V_reaches.1 f_V_reaches.1 ∈ jw_ws := jw_in (by decide +kernel) (by decide +kernel)
theorem jw_in_f_V_reachesAllHomes : Cond.instanceMethod f_V_reachesAllHomes.1 ∈ jw_ws := jw_in (by decide +kernel) (by decide +kernel)
theorem jw_se_f_V_reachesAllHomes : Cond.selects f_V_reachesAllHomes.1.cls f_V_reachesAllHomes.1 f_V_reachesAllHomes.1 ∈ jw_ws := jw_in (by decide +kernel) (by decide +kernel)
theorem jw_in_f_V_sendToHomes : Cond.instanceMethod f_V_sendToHomes.1 ∈ jw_ws := jw_in (by decide +kernel) (by decide +kernel)
theorem jw_se_f_V_sendToHomes : Cond.selects f_V_sendToHomes.1.cls f_V_sendToHomes.1 f_V_sendToHomes.1 ∈ jw_ws := jw_in (by decide +kernel) (by decide +kernel)
theorem jw_in_f_V_share : Cond.instanceMethod f_V_share.1 ∈ jw_ws := jw_in (by decide +kernel) (by decide +kernel)
theorem jw_se_f_V_share : Cond.selects f_V_share.1.cls f_V_share.1 f_V_share.1 ∈ jw_ws := jw_in (by decide +kernel) (by decide +kernel)
theorem jw_st_f_J_fill : Cond.static f_J_fill.1 ∈ jw_ws := jw_in (by decide +kernel) (by decide +kernel)
theorem jw_st_f_M_isKey : Cond.static f_M_isKey.1 ∈ jw_ws := jw_in (by decide +kernel) (by decide +kernel)
theorem jw_st_f_M_isNode : Cond.static f_M_isNode.1 ∈ jw_ws := jw_in (by decide +kernel) (by decide +kernel)
theorem jw_st_f_V_areTwoNodes : Cond.static f_V_areTwoNodes.1 ∈ jw_ws := jw_in (by decide +kernel) (by decide +kernel)
theorem jw_st_f_V_isContext : Cond.static f_V_isContext.1 ∈ jw_ws := jw_in (by decide +kernel) (by decide +kernel)
theorem jw_st_f_V_isKey : Cond.static f_V_isKey.1 ∈ jw_ws := jw_in (by decide +kernel) (by decide +kernel)
theorem jw_st_f_V_isNode : Cond.static f_V_isNode.1 ∈ jw_ws := jw_in (by decide +kernel) (by decide +kernel)
theorem jw_st_f_V_isPosition : Cond.static f_V_isPosition.1 ∈ jw_ws := jw_in (by decide +kernel) (by decide +kernel)
theorem jw_st_f_V_line : Cond.static f_V_line.1 ∈ jw_ws := jw_in (by decide +kernel) (by decide +kernel)
theorem jw_w_min2 : Cond.static Lib.Math.min.name ∈ jw_ws := jw_in (by decide +kernel) (by decide +kernel)
theorem jw_w_min3 : Cond.initialized "java/lang/Math" ∈ jw_ws := jw_in (by decide +kernel) (by decide +kernel)
set_option maxRecDepth 100000 in
theorem jw_w_min4 : Cond.code Lib.Math.min.name Lib.Math.min.code 2 (some .int) ∈ jw_ws := jw_in (List.mem_append_right _ (List.mem_of_getElem? (i := 20) rfl)) rfl
theorem jw_w_max2 : Cond.static Lib.Math.max.name ∈ jw_ws := jw_in (by decide +kernel) (by decide +kernel)
theorem jw_w_max3 : Cond.initialized "java/lang/Math" ∈ jw_ws := jw_w_min3
set_option maxRecDepth 100000 in
theorem jw_w_max4 : Cond.code Lib.Math.max.name Lib.Math.max.code 2 (some .int) ∈ jw_ws := jw_in (List.mem_append_right _ (List.mem_of_getElem? (i := 200) rfl)) rfl
theorem jw_w_cp2 : Cond.native arraycopyName ∈ jw_ws := jw_in (by decide +kernel) (by decide +kernel)
theorem jw_w_cp3 : Cond.static arraycopyName ∈ jw_ws := jw_in (by decide +kernel) (by decide +kernel)
theorem jw_w_cp4 : Cond.initialized "java/lang/System" ∈ jw_ws := jw_in (by decide +kernel) (by decide +kernel)
theorem jw_ks : Cond.fieldLink R_V 114 "VersionRing" "NOTHING_KNOWN" "[I" ∈ jw_ws := jw_in (by decide +kernel) (by decide +kernel)
