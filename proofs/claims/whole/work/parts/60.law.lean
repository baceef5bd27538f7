/-! The law: from its loop's head (by program: wip/whole/gen/law.py) -/
def f_L_law : jw_F := (y_L_law, b_L_law, 4, some .boolean, 7, 159)
def jw_lt_L_law (c : Nat) : Nat := [148, 181, 204, 253, 312, 365, 408, 431, 444, 467, 500, 533, 566, 599, 632, 655, 668, 701].getD c 734
def jw_lo_L_law : Array Int := #[86, 119, 142, 191, 250, 303, 346, 369, 382, 405, 438, 471, 504, 537, 570, 593, 606, 639]
theorem jw_lt_in : ∀ c, c < 18 → ∃ off, jw_lo_L_law[c]? = some off ∧ (62 : Int) + off = (jw_lt_L_law c : Int)
  | 0, _ => ⟨86, rfl, rfl⟩
  | 1, _ => ⟨119, rfl, rfl⟩
  | 2, _ => ⟨142, rfl, rfl⟩
  | 3, _ => ⟨191, rfl, rfl⟩
  | 4, _ => ⟨250, rfl, rfl⟩
  | 5, _ => ⟨303, rfl, rfl⟩
  | 6, _ => ⟨346, rfl, rfl⟩
  | 7, _ => ⟨369, rfl, rfl⟩
  | 8, _ => ⟨382, rfl, rfl⟩
  | 9, _ => ⟨405, rfl, rfl⟩
  | 10, _ => ⟨438, rfl, rfl⟩
  | 11, _ => ⟨471, rfl, rfl⟩
  | 12, _ => ⟨504, rfl, rfl⟩
  | 13, _ => ⟨537, rfl, rfl⟩
  | 14, _ => ⟨570, rfl, rfl⟩
  | 15, _ => ⟨593, rfl, rfl⟩
  | 16, _ => ⟨606, rfl, rfl⟩
  | 17, _ => ⟨639, rfl, rfl⟩
  | c + 18, h => absurd h (by omega)
theorem jw_lt_out {c : Nat} (h : 18 ≤ c) : jw_lt_L_law c = 734 := by
  unfold jw_lt_L_law
  rw [List.getD_eq_getElem?_getD, List.getElem?_eq_none (by simpa using h)]
  rfl
theorem jw_switch {l : Launch} {X : jw_X0} {E : jw_E} {A : Nat → Prop} {L : List (Option Value)} {S : List Value} {M : jw_Mem} {c : Nat} {x : Int32} (hd : decode f_L_law.2.1 62 = .ok (.tableswitch 672 0 17 jw_lo_L_law, 86)) (hc : c < 32 ∧ x = nI c) (h : jw_X l X E A f_L_law (jw_lt_L_law c) L S M) : jw_X l X E A f_L_law 62 L (.int x :: S) M := by
  obtain ⟨h1, rfl⟩ := hc
  have ht : (nI c).toInt = (c : Int) := nI_toInt (by omega)
  by_cases e : c < 18
  · obtain ⟨off, g1, g2⟩ := jw_lt_in c e
    refine jw_tableIn hd (by rw [ht]; omega) (by rw [ht]; omega) (off := off) ?_ g2 h
    rw [ht, show ((c : Int) - 0).toNat = c by omega]
    exact g1
  · rw [jw_lt_out (by omega)] at h
    exact jw_tableOut hd (Or.inr (by rw [ht]; omega)) (by decide) h
set_option maxRecDepth 100000 in
theorem jw_cd_f_M_compare : Cond.code f_M_compare.1 f_M_compare.2.1 f_M_compare.2.2.1 f_M_compare.2.2.2.1 ∈ jw_ws := jw_in (List.mem_append_right _ (List.mem_of_getElem? (i := 602) rfl)) rfl
set_option maxRecDepth 100000 in
theorem jw_cd_f_M_context : Cond.code f_M_context.1 f_M_context.2.1 f_M_context.2.2.1 f_M_context.2.2.2.1 ∈ jw_ws := jw_in (List.mem_append_right _ (List.mem_of_getElem? (i := 631) rfl)) rfl
set_option maxRecDepth 100000 in
theorem jw_cd_f_M_cut : Cond.code f_M_cut.1 f_M_cut.2.1 f_M_cut.2.2.1 f_M_cut.2.2.2.1 ∈ jw_ws := jw_in (List.mem_append_right _ (List.mem_of_getElem? (i := 511) rfl)) rfl
set_option maxRecDepth 100000 in
theorem jw_cd_f_M_found : Cond.code f_M_found.1 f_M_found.2.1 f_M_found.2.2.1 f_M_found.2.2.2.1 ∈ jw_ws := jw_in (List.mem_append_right _ (List.mem_of_getElem? (i := 578) rfl)) rfl
set_option maxRecDepth 100000 in
theorem jw_cd_f_M_get : Cond.code f_M_get.1 f_M_get.2.1 f_M_get.2.2.1 f_M_get.2.2.2.1 ∈ jw_ws := jw_in (List.mem_append_right _ (List.mem_of_getElem? (i := 562) rfl)) rfl
set_option maxRecDepth 100000 in
theorem jw_cd_f_M_handOver : Cond.code f_M_handOver.1 f_M_handOver.2.1 f_M_handOver.2.2.1 f_M_handOver.2.2.2.1 ∈ jw_ws := jw_in (List.mem_append_right _ (List.mem_of_getElem? (i := 586) rfl)) rfl
set_option maxRecDepth 100000 in
theorem jw_cd_f_M_hints : Cond.code f_M_hints.1 f_M_hints.2.1 f_M_hints.2.2.1 f_M_hints.2.2.2.1 ∈ jw_ws := jw_in (List.mem_append_right _ (List.mem_of_getElem? (i := 619) rfl)) rfl
set_option maxRecDepth 100000 in
theorem jw_cd_f_M_holds : Cond.code f_M_holds.1 f_M_holds.2.1 f_M_holds.2.2.1 f_M_holds.2.2.2.1 ∈ jw_ws := jw_in (List.mem_append_right _ (List.mem_of_getElem? (i := 614) rfl)) rfl
set_option maxRecDepth 100000 in
theorem jw_cd_f_M_home : Cond.code f_M_home.1 f_M_home.2.1 f_M_home.2.2.1 f_M_home.2.2.2.1 ∈ jw_ws := jw_in (List.mem_append_right _ (List.mem_of_getElem? (i := 515) rfl)) rfl
set_option maxRecDepth 100000 in
theorem jw_cd_f_M_power : Cond.code f_M_power.1 f_M_power.2.1 f_M_power.2.2.1 f_M_power.2.2.2.1 ∈ jw_ws := jw_in (List.mem_append_right _ (List.mem_of_getElem? (i := 507) rfl)) rfl
set_option maxRecDepth 100000 in
theorem jw_cd_f_M_put : Cond.code f_M_put.1 f_M_put.2.1 f_M_put.2.2.1 f_M_put.2.2.2.1 ∈ jw_ws := jw_in (List.mem_append_right _ (List.mem_of_getElem? (i := 546) rfl)) rfl
set_option maxRecDepth 100000 in
theorem jw_cd_f_M_remove : Cond.code f_M_remove.1 f_M_remove.2.1 f_M_remove.2.2.1 f_M_remove.2.2.2.1 ∈ jw_ws := jw_in (List.mem_append_right _ (List.mem_of_getElem? (i := 503) rfl)) rfl
set_option maxRecDepth 100000 in
theorem jw_cd_f_M_repaired : Cond.code f_M_repaired.1 f_M_repaired.2.1 f_M_repaired.2.2.1 f_M_repaired.2.2.2.1 ∈ jw_ws := jw_in (List.mem_append_right _ (List.mem_of_getElem? (i := 582) rfl)) rfl
set_option maxRecDepth 100000 in
theorem jw_cd_f_M_targets : Cond.code f_M_targets.1 f_M_targets.2.1 f_M_targets.2.2.1 f_M_targets.2.2.2.1 ∈ jw_ws := jw_in (List.mem_append_right _ (List.mem_of_getElem? (i := 534) rfl)) rfl
set_option maxRecDepth 100000 in
theorem jw_cd_f_M_token : Cond.code f_M_token.1 f_M_token.2.1 f_M_token.2.2.1 f_M_token.2.2.2.1 ∈ jw_ws := jw_in (List.mem_append_right _ (List.mem_of_getElem? (i := 496) rfl)) rfl
set_option maxRecDepth 100000 in
theorem jw_cd_f_M_version : Cond.code f_M_version.1 f_M_version.2.1 f_M_version.2.2.1 f_M_version.2.2.2.1 ∈ jw_ws := jw_in (List.mem_append_right _ (List.mem_of_getElem? (i := 627) rfl)) rfl
set_option maxRecDepth 100000 in
theorem jw_cd_f_M_versions : Cond.code f_M_versions.1 f_M_versions.2.1 f_M_versions.2.2.1 f_M_versions.2.2.2.1 ∈ jw_ws := jw_in (List.mem_append_right _ (List.mem_of_getElem? (i := 623) rfl)) rfl
set_option maxRecDepth 100000 in
theorem jw_cd_f_V_compare : Cond.code f_V_compare.1 f_V_compare.2.1 f_V_compare.2.2.1 f_V_compare.2.2.2.1 ∈ jw_ws := jw_in (List.mem_append_right _ (List.mem_of_getElem? (i := 357) rfl)) rfl
set_option maxRecDepth 100000 in
theorem jw_cd_f_V_context : Cond.code f_V_context.1 f_V_context.2.1 f_V_context.2.2.1 f_V_context.2.2.2.1 ∈ jw_ws := jw_in (List.mem_append_right _ (List.mem_of_getElem? (i := 410) rfl)) rfl
set_option maxRecDepth 100000 in
theorem jw_cd_f_V_count : Cond.code f_V_count.1 f_V_count.2.1 f_V_count.2.2.1 f_V_count.2.2.2.1 ∈ jw_ws := jw_in (List.mem_append_right _ (List.mem_of_getElem? (i := 393) rfl)) rfl
set_option maxRecDepth 100000 in
theorem jw_cd_f_V_cut : Cond.code f_V_cut.1 f_V_cut.2.1 f_V_cut.2.2.1 f_V_cut.2.2.2.1 ∈ jw_ws := jw_in (List.mem_append_right _ (List.mem_of_getElem? (i := 191) rfl)) rfl
set_option maxRecDepth 100000 in
theorem jw_cd_f_V_found : Cond.code f_V_found.1 f_V_found.2.1 f_V_found.2.2.1 f_V_found.2.2.2.1 ∈ jw_ws := jw_in (List.mem_append_right _ (List.mem_of_getElem? (i := 321) rfl)) rfl
set_option maxRecDepth 100000 in
theorem jw_cd_f_V_get : Cond.code f_V_get.1 f_V_get.2.1 f_V_get.2.2.1 f_V_get.2.2.2.1 ∈ jw_ws := jw_in (List.mem_append_right _ (List.mem_of_getElem? (i := 280) rfl)) rfl
set_option maxRecDepth 100000 in
theorem jw_cd_f_V_handOver : Cond.code f_V_handOver.1 f_V_handOver.2.1 f_V_handOver.2.2.1 f_V_handOver.2.2.2.1 ∈ jw_ws := jw_in (List.mem_append_right _ (List.mem_of_getElem? (i := 329) rfl)) rfl
set_option maxRecDepth 100000 in
theorem jw_cd_f_V_hints : Cond.code f_V_hints.1 f_V_hints.2.1 f_V_hints.2.2.1 f_V_hints.2.2.2.1 ∈ jw_ws := jw_in (List.mem_append_right _ (List.mem_of_getElem? (i := 397) rfl)) rfl
set_option maxRecDepth 100000 in
theorem jw_cd_f_V_holds : Cond.code f_V_holds.1 f_V_holds.2.1 f_V_holds.2.2.1 f_V_holds.2.2.2.1 ∈ jw_ws := jw_in (List.mem_append_right _ (List.mem_of_getElem? (i := 385) rfl)) rfl
set_option maxRecDepth 100000 in
theorem jw_cd_f_V_home : Cond.code f_V_home.1 f_V_home.2.1 f_V_home.2.2.1 f_V_home.2.2.2.1 ∈ jw_ws := jw_in (List.mem_append_right _ (List.mem_of_getElem? (i := 377) rfl)) rfl
set_option maxRecDepth 100000 in
theorem jw_cd_f_V_power : Cond.code f_V_power.1 f_V_power.2.1 f_V_power.2.2.1 f_V_power.2.2.2.1 ∈ jw_ws := jw_in (List.mem_append_right _ (List.mem_of_getElem? (i := 187) rfl)) rfl
set_option maxRecDepth 100000 in
theorem jw_cd_f_V_put : Cond.code f_V_put.1 f_V_put.2.1 f_V_put.2.2.1 f_V_put.2.2.2.1 ∈ jw_ws := jw_in (List.mem_append_right _ (List.mem_of_getElem? (i := 204) rfl)) rfl
set_option maxRecDepth 100000 in
theorem jw_cd_f_V_remove : Cond.code f_V_remove.1 f_V_remove.2.1 f_V_remove.2.2.1 f_V_remove.2.2.2.1 ∈ jw_ws := jw_in (List.mem_append_right _ (List.mem_of_getElem? (i := 183) rfl)) rfl
set_option maxRecDepth 100000 in
theorem jw_cd_f_V_repaired : Cond.code f_V_repaired.1 f_V_repaired.2.1 f_V_repaired.2.2.1 f_V_repaired.2.2.2.1 ∈ jw_ws := jw_in (List.mem_append_right _ (List.mem_of_getElem? (i := 325) rfl)) rfl
set_option maxRecDepth 100000 in
theorem jw_cd_f_V_targets : Cond.code f_V_targets.1 f_V_targets.2.1 f_V_targets.2.2.1 f_V_targets.2.2.2.1 ∈ jw_ws := jw_in (List.mem_append_right _ (List.mem_of_getElem? (i := 381) rfl)) rfl
set_option maxRecDepth 100000 in
theorem jw_cd_f_V_token : Cond.code f_V_token.1 f_V_token.2.1 f_V_token.2.2.1 f_V_token.2.2.2.1 ∈ jw_ws := jw_in (List.mem_append_right _ (List.mem_of_getElem? (i := 173) rfl)) rfl
set_option maxRecDepth 100000 in
theorem jw_cd_f_V_version : Cond.code f_V_version.1 f_V_version.2.1 f_V_version.2.2.1 f_V_version.2.2.2.1 ∈ jw_ws := jw_in (List.mem_append_right _ (List.mem_of_getElem? (i := 405) rfl)) rfl
set_option maxRecDepth 100000 in
theorem jw_cd_f_V_versions : Cond.code f_V_versions.1 f_V_versions.2.1 f_V_versions.2.2.1 f_V_versions.2.2.2.1 ∈ jw_ws := jw_in (List.mem_append_right _ (List.mem_of_getElem? (i := 401) rfl)) rfl
theorem jw_ml_L_21 : jw_ok R_L 21 f_V_token 2 := ⟨jw_in (by decide +kernel) (by decide +kernel), jw_in (by decide +kernel) (by decide +kernel), jw_cd_f_V_token, ⟨by decide +kernel, by decide +kernel, by decide +kernel⟩⟩
theorem jw_ml_L_25 : jw_ok R_L 25 f_M_token 2 := ⟨jw_in (by decide +kernel) (by decide +kernel), jw_in (by decide +kernel) (by decide +kernel), jw_cd_f_M_token, ⟨by decide +kernel, by decide +kernel, by decide +kernel⟩⟩
theorem jw_ml_L_26 : jw_ok R_L 26 f_V_remove 1 := ⟨jw_in (by decide +kernel) (by decide +kernel), jw_in (by decide +kernel) (by decide +kernel), jw_cd_f_V_remove, ⟨by decide +kernel, by decide +kernel, by decide +kernel⟩⟩
theorem jw_ml_L_30 : jw_ok R_L 30 f_M_remove 1 := ⟨jw_in (by decide +kernel) (by decide +kernel), jw_in (by decide +kernel) (by decide +kernel), jw_cd_f_M_remove, ⟨by decide +kernel, by decide +kernel, by decide +kernel⟩⟩
theorem jw_ml_L_31 : jw_ok R_L 31 f_V_power 2 := ⟨jw_in (by decide +kernel) (by decide +kernel), jw_in (by decide +kernel) (by decide +kernel), jw_cd_f_V_power, ⟨by decide +kernel, by decide +kernel, by decide +kernel⟩⟩
theorem jw_ml_L_35 : jw_ok R_L 35 f_M_power 2 := ⟨jw_in (by decide +kernel) (by decide +kernel), jw_in (by decide +kernel) (by decide +kernel), jw_cd_f_M_power, ⟨by decide +kernel, by decide +kernel, by decide +kernel⟩⟩
theorem jw_ml_L_36 : jw_ok R_L 36 f_V_cut 3 := ⟨jw_in (by decide +kernel) (by decide +kernel), jw_in (by decide +kernel) (by decide +kernel), jw_cd_f_V_cut, ⟨by decide +kernel, by decide +kernel, by decide +kernel⟩⟩
theorem jw_ml_L_40 : jw_ok R_L 40 f_M_cut 3 := ⟨jw_in (by decide +kernel) (by decide +kernel), jw_in (by decide +kernel) (by decide +kernel), jw_cd_f_M_cut, ⟨by decide +kernel, by decide +kernel, by decide +kernel⟩⟩
theorem jw_ml_L_41 : jw_ok R_L 41 f_V_put 4 := ⟨jw_in (by decide +kernel) (by decide +kernel), jw_in (by decide +kernel) (by decide +kernel), jw_cd_f_V_put, ⟨by decide +kernel, by decide +kernel, by decide +kernel⟩⟩
theorem jw_ml_L_45 : jw_ok R_L 45 f_M_put 4 := ⟨jw_in (by decide +kernel) (by decide +kernel), jw_in (by decide +kernel) (by decide +kernel), jw_cd_f_M_put, ⟨by decide +kernel, by decide +kernel, by decide +kernel⟩⟩
theorem jw_ml_L_46 : jw_ok R_L 46 f_V_get 3 := ⟨jw_in (by decide +kernel) (by decide +kernel), jw_in (by decide +kernel) (by decide +kernel), jw_cd_f_V_get, ⟨by decide +kernel, by decide +kernel, by decide +kernel⟩⟩
theorem jw_ml_L_50 : jw_ok R_L 50 f_M_get 3 := ⟨jw_in (by decide +kernel) (by decide +kernel), jw_in (by decide +kernel) (by decide +kernel), jw_cd_f_M_get, ⟨by decide +kernel, by decide +kernel, by decide +kernel⟩⟩
theorem jw_ml_L_51 : jw_ok R_L 51 f_V_found 1 := ⟨jw_in (by decide +kernel) (by decide +kernel), jw_in (by decide +kernel) (by decide +kernel), jw_cd_f_V_found, ⟨by decide +kernel, by decide +kernel, by decide +kernel⟩⟩
theorem jw_ml_L_55 : jw_ok R_L 55 f_M_found 1 := ⟨jw_in (by decide +kernel) (by decide +kernel), jw_in (by decide +kernel) (by decide +kernel), jw_cd_f_M_found, ⟨by decide +kernel, by decide +kernel, by decide +kernel⟩⟩
theorem jw_ml_L_56 : jw_ok R_L 56 f_V_repaired 0 := ⟨jw_in (by decide +kernel) (by decide +kernel), jw_in (by decide +kernel) (by decide +kernel), jw_cd_f_V_repaired, ⟨by decide +kernel, by decide +kernel, by decide +kernel⟩⟩
theorem jw_ml_L_60 : jw_ok R_L 60 f_M_repaired 0 := ⟨jw_in (by decide +kernel) (by decide +kernel), jw_in (by decide +kernel) (by decide +kernel), jw_cd_f_M_repaired, ⟨by decide +kernel, by decide +kernel, by decide +kernel⟩⟩
theorem jw_ml_L_61 : jw_ok R_L 61 f_V_handOver 1 := ⟨jw_in (by decide +kernel) (by decide +kernel), jw_in (by decide +kernel) (by decide +kernel), jw_cd_f_V_handOver, ⟨by decide +kernel, by decide +kernel, by decide +kernel⟩⟩
theorem jw_ml_L_64 : jw_ok R_L 64 f_M_handOver 1 := ⟨jw_in (by decide +kernel) (by decide +kernel), jw_in (by decide +kernel) (by decide +kernel), jw_cd_f_M_handOver, ⟨by decide +kernel, by decide +kernel, by decide +kernel⟩⟩
theorem jw_ml_L_65 : jw_ok R_L 65 f_V_compare 2 := ⟨jw_in (by decide +kernel) (by decide +kernel), jw_in (by decide +kernel) (by decide +kernel), jw_cd_f_V_compare, ⟨by decide +kernel, by decide +kernel, by decide +kernel⟩⟩
theorem jw_ml_L_69 : jw_ok R_L 69 f_M_compare 2 := ⟨jw_in (by decide +kernel) (by decide +kernel), jw_in (by decide +kernel) (by decide +kernel), jw_cd_f_M_compare, ⟨by decide +kernel, by decide +kernel, by decide +kernel⟩⟩
theorem jw_ml_L_70 : jw_ok R_L 70 f_V_home 2 := ⟨jw_in (by decide +kernel) (by decide +kernel), jw_in (by decide +kernel) (by decide +kernel), jw_cd_f_V_home, ⟨by decide +kernel, by decide +kernel, by decide +kernel⟩⟩
theorem jw_ml_L_73 : jw_ok R_L 73 f_M_home 2 := ⟨jw_in (by decide +kernel) (by decide +kernel), jw_in (by decide +kernel) (by decide +kernel), jw_cd_f_M_home, ⟨by decide +kernel, by decide +kernel, by decide +kernel⟩⟩
theorem jw_ml_L_74 : jw_ok R_L 74 f_V_targets 2 := ⟨jw_in (by decide +kernel) (by decide +kernel), jw_in (by decide +kernel) (by decide +kernel), jw_cd_f_V_targets, ⟨by decide +kernel, by decide +kernel, by decide +kernel⟩⟩
theorem jw_ml_L_77 : jw_ok R_L 77 f_M_targets 2 := ⟨jw_in (by decide +kernel) (by decide +kernel), jw_in (by decide +kernel) (by decide +kernel), jw_cd_f_M_targets, ⟨by decide +kernel, by decide +kernel, by decide +kernel⟩⟩
theorem jw_ml_L_78 : jw_ok R_L 78 f_V_holds 2 := ⟨jw_in (by decide +kernel) (by decide +kernel), jw_in (by decide +kernel) (by decide +kernel), jw_cd_f_V_holds, ⟨by decide +kernel, by decide +kernel, by decide +kernel⟩⟩
theorem jw_ml_L_81 : jw_ok R_L 81 f_M_holds 2 := ⟨jw_in (by decide +kernel) (by decide +kernel), jw_in (by decide +kernel) (by decide +kernel), jw_cd_f_M_holds, ⟨by decide +kernel, by decide +kernel, by decide +kernel⟩⟩
theorem jw_ml_L_82 : jw_ok R_L 82 f_V_count 2 := ⟨jw_in (by decide +kernel) (by decide +kernel), jw_in (by decide +kernel) (by decide +kernel), jw_cd_f_V_count, ⟨by decide +kernel, by decide +kernel, by decide +kernel⟩⟩
theorem jw_ml_L_85 : jw_ok R_L 85 f_M_count 2 := ⟨jw_in (by decide +kernel) (by decide +kernel), jw_in (by decide +kernel) (by decide +kernel), jw_cd_f_M_count, ⟨by decide +kernel, by decide +kernel, by decide +kernel⟩⟩
theorem jw_ml_L_86 : jw_ok R_L 86 f_V_hints 1 := ⟨jw_in (by decide +kernel) (by decide +kernel), jw_in (by decide +kernel) (by decide +kernel), jw_cd_f_V_hints, ⟨by decide +kernel, by decide +kernel, by decide +kernel⟩⟩
theorem jw_ml_L_89 : jw_ok R_L 89 f_M_hints 1 := ⟨jw_in (by decide +kernel) (by decide +kernel), jw_in (by decide +kernel) (by decide +kernel), jw_cd_f_M_hints, ⟨by decide +kernel, by decide +kernel, by decide +kernel⟩⟩
theorem jw_ml_L_90 : jw_ok R_L 90 f_V_versions 0 := ⟨jw_in (by decide +kernel) (by decide +kernel), jw_in (by decide +kernel) (by decide +kernel), jw_cd_f_V_versions, ⟨by decide +kernel, by decide +kernel, by decide +kernel⟩⟩
theorem jw_ml_L_93 : jw_ok R_L 93 f_M_versions 0 := ⟨jw_in (by decide +kernel) (by decide +kernel), jw_in (by decide +kernel) (by decide +kernel), jw_cd_f_M_versions, ⟨by decide +kernel, by decide +kernel, by decide +kernel⟩⟩
theorem jw_ml_L_94 : jw_ok R_L 94 f_V_version 2 := ⟨jw_in (by decide +kernel) (by decide +kernel), jw_in (by decide +kernel) (by decide +kernel), jw_cd_f_V_version, ⟨by decide +kernel, by decide +kernel, by decide +kernel⟩⟩
theorem jw_ml_L_97 : jw_ok R_L 97 f_M_version 2 := ⟨jw_in (by decide +kernel) (by decide +kernel), jw_in (by decide +kernel) (by decide +kernel), jw_cd_f_M_version, ⟨by decide +kernel, by decide +kernel, by decide +kernel⟩⟩
theorem jw_ml_L_98 : jw_ok R_L 98 f_V_context 2 := ⟨jw_in (by decide +kernel) (by decide +kernel), jw_in (by decide +kernel) (by decide +kernel), jw_cd_f_V_context, ⟨by decide +kernel, by decide +kernel, by decide +kernel⟩⟩
theorem jw_ml_L_101 : jw_ok R_L 101 f_M_context 2 := ⟨jw_in (by decide +kernel) (by decide +kernel), jw_in (by decide +kernel) (by decide +kernel), jw_cd_f_M_context, ⟨by decide +kernel, by decide +kernel, by decide +kernel⟩⟩
theorem jw_in_f_M_compare : Cond.instanceMethod f_M_compare.1 ∈ jw_ws := jw_in (by decide +kernel) (by decide +kernel)
theorem jw_se_f_M_compare : Cond.selects f_M_compare.1.cls f_M_compare.1 f_M_compare.1 ∈ jw_ws := jw_in (by decide +kernel) (by decide +kernel)
theorem jw_in_f_M_context : Cond.instanceMethod f_M_context.1 ∈ jw_ws := jw_in (by decide +kernel) (by decide +kernel)
theorem jw_se_f_M_context : Cond.selects f_M_context.1.cls f_M_context.1 f_M_context.1 ∈ jw_ws := jw_in (by decide +kernel) (by decide +kernel)
theorem jw_in_f_M_cut : Cond.instanceMethod f_M_cut.1 ∈ jw_ws := jw_in (by decide +kernel) (by decide +kernel)
theorem jw_se_f_M_cut : Cond.selects f_M_cut.1.cls f_M_cut.1 f_M_cut.1 ∈ jw_ws := jw_in (by decide +kernel) (by decide +kernel)
theorem jw_in_f_M_found : Cond.instanceMethod f_M_found.1 ∈ jw_ws := jw_in (by decide +kernel) (by decide +kernel)
theorem jw_se_f_M_found : Cond.selects f_M_found.1.cls f_M_found.1 f_M_found.1 ∈ jw_ws := jw_in (by decide +kernel) (by decide +kernel)
theorem jw_in_f_M_get : Cond.instanceMethod f_M_get.1 ∈ jw_ws := jw_in (by decide +kernel) (by decide +kernel)
theorem jw_se_f_M_get : Cond.selects f_M_get.1.cls f_M_get.1 f_M_get.1 ∈ jw_ws := jw_in (by decide +kernel) (by decide +kernel)
theorem jw_in_f_M_handOver : Cond.instanceMethod f_M_handOver.1 ∈ jw_ws := jw_in (by decide +kernel) (by decide +kernel)
theorem jw_se_f_M_handOver : Cond.selects f_M_handOver.1.cls f_M_handOver.1 f_M_handOver.1 ∈ jw_ws := jw_in (by decide +kernel) (by decide +kernel)
theorem jw_in_f_M_hints : Cond.instanceMethod f_M_hints.1 ∈ jw_ws := jw_in (by decide +kernel) (by decide +kernel)
theorem jw_se_f_M_hints : Cond.selects f_M_hints.1.cls f_M_hints.1 f_M_hints.1 ∈ jw_ws := jw_in (by decide +kernel) (by decide +kernel)
theorem jw_in_f_M_holds : Cond.instanceMethod f_M_holds.1 ∈ jw_ws := jw_in (by decide +kernel) (by decide +kernel)
theorem jw_se_f_M_holds : Cond.selects f_M_holds.1.cls f_M_holds.1 f_M_holds.1 ∈ jw_ws := jw_in (by decide +kernel) (by decide +kernel)
theorem jw_in_f_M_home : Cond.instanceMethod f_M_home.1 ∈ jw_ws := jw_in (by decide +kernel) (by decide +kernel)
theorem jw_se_f_M_home : Cond.selects f_M_home.1.cls f_M_home.1 f_M_home.1 ∈ jw_ws := jw_in (by decide +kernel) (by decide +kernel)
theorem jw_in_f_M_power : Cond.instanceMethod f_M_power.1 ∈ jw_ws := jw_in (by decide +kernel) (by decide +kernel)
theorem jw_se_f_M_power : Cond.selects f_M_power.1.cls f_M_power.1 f_M_power.1 ∈ jw_ws := jw_in (by decide +kernel) (by decide +kernel)
theorem jw_in_f_M_put : Cond.instanceMethod f_M_put.1 ∈ jw_ws := jw_in (by decide +kernel) (by decide +kernel)
theorem jw_se_f_M_put : Cond.selects f_M_put.1.cls f_M_put.1 f_M_put.1 ∈ jw_ws := jw_in (by decide +kernel) (by decide +kernel)
theorem jw_in_f_M_remove : Cond.instanceMethod f_M_remove.1 ∈ jw_ws := jw_in (by decide +kernel) (by decide +kernel)
theorem jw_se_f_M_remove : Cond.selects f_M_remove.1.cls f_M_remove.1 f_M_remove.1 ∈ jw_ws := jw_in (by decide +kernel) (by decide +kernel)
theorem jw_in_f_M_repaired : Cond.instanceMethod f_M_repaired.1 ∈ jw_ws := jw_in (by decide +kernel) (by decide +kernel)
theorem jw_se_f_M_repaired : Cond.selects f_M_repaired.1.cls f_M_repaired.1 f_M_repaired.1 ∈ jw_ws := jw_in (by decide +kernel) (by decide +kernel)
theorem jw_in_f_M_targets : Cond.instanceMethod f_M_targets.1 ∈ jw_ws := jw_in (by decide +kernel) (by decide +kernel)
theorem jw_se_f_M_targets : Cond.selects f_M_targets.1.cls f_M_targets.1 f_M_targets.1 ∈ jw_ws := jw_in (by decide +kernel) (by decide +kernel)
theorem jw_in_f_M_token : Cond.instanceMethod f_M_token.1 ∈ jw_ws := jw_in (by decide +kernel) (by decide +kernel)
theorem jw_se_f_M_token : Cond.selects f_M_token.1.cls f_M_token.1 f_M_token.1 ∈ jw_ws := jw_in (by decide +kernel) (by decide +kernel)
theorem jw_in_f_M_version : Cond.instanceMethod f_M_version.1 ∈ jw_ws := jw_in (by decide +kernel) (by decide +kernel)
theorem jw_se_f_M_version : Cond.selects f_M_version.1.cls f_M_version.1 f_M_version.1 ∈ jw_ws := jw_in (by decide +kernel) (by decide +kernel)
theorem jw_in_f_M_versions : Cond.instanceMethod f_M_versions.1 ∈ jw_ws := jw_in (by decide +kernel) (by decide +kernel)
theorem jw_se_f_M_versions : Cond.selects f_M_versions.1.cls f_M_versions.1 f_M_versions.1 ∈ jw_ws := jw_in (by decide +kernel) (by decide +kernel)
theorem jw_in_f_V_compare : Cond.instanceMethod f_V_compare.1 ∈ jw_ws := jw_in (by decide +kernel) (by decide +kernel)
theorem jw_se_f_V_compare : Cond.selects f_V_compare.1.cls f_V_compare.1 f_V_compare.1 ∈ jw_ws := jw_in (by decide +kernel) (by decide +kernel)
theorem jw_in_f_V_context : Cond.instanceMethod f_V_context.1 ∈ jw_ws := jw_in (by decide +kernel) (by decide +kernel)
theorem jw_se_f_V_context : Cond.selects f_V_context.1.cls f_V_context.1 f_V_context.1 ∈ jw_ws := jw_in (by decide +kernel) (by decide +kernel)
theorem jw_in_f_V_count : Cond.instanceMethod f_V_count.1 ∈ jw_ws := jw_in (by decide +kernel) (by decide +kernel)
theorem jw_se_f_V_count : Cond.selects f_V_count.1.cls f_V_count.1 f_V_count.1 ∈ jw_ws := jw_in (by decide +kernel) (by decide +kernel)
theorem jw_in_f_V_cut : Cond.instanceMethod f_V_cut.1 ∈ jw_ws := jw_in (by decide +kernel) (by decide +kernel)
theorem jw_se_f_V_cut : Cond.selects f_V_cut.1.cls f_V_cut.1 f_V_cut.1 ∈ jw_ws := jw_in (by decide +kernel) (by decide +kernel)
theorem jw_in_f_V_found : Cond.instanceMethod f_V_found.1 ∈ jw_ws := jw_in (by decide +kernel) (by decide +kernel)
theorem jw_se_f_V_found : Cond.selects f_V_found.1.cls f_V_found.1 f_V_found.1 ∈ jw_ws := jw_in (by decide +kernel) (by decide +kernel)
theorem jw_in_f_V_get : Cond.instanceMethod f_V_get.1 ∈ jw_ws := jw_in (by decide +kernel) (by decide +kernel)
theorem jw_se_f_V_get : Cond.selects f_V_get.1.cls f_V_get.1 f_V_get.1 ∈ jw_ws := jw_in (by decide +kernel) (by decide +kernel)
theorem jw_in_f_V_handOver : Cond.instanceMethod f_V_handOver.1 ∈ jw_ws := jw_in (by decide +kernel) (by decide +kernel)
theorem jw_se_f_V_handOver : Cond.selects f_V_handOver.1.cls f_V_handOver.1 f_V_handOver.1 ∈ jw_ws := jw_in (by decide +kernel) (by decide +kernel)
theorem jw_in_f_V_hints : Cond.instanceMethod f_V_hints.1 ∈ jw_ws := jw_in (by decide +kernel) (by decide +kernel)
theorem jw_se_f_V_hints : Cond.selects f_V_hints.1.cls f_V_hints.1 f_V_hints.1 ∈ jw_ws := jw_in (by decide +kernel) (by decide +kernel)
theorem jw_in_f_V_holds : Cond.instanceMethod f_V_holds.1 ∈ jw_ws := jw_in (by decide +kernel) (by decide +kernel)
theorem jw_se_f_V_holds : Cond.selects f_V_holds.1.cls f_V_holds.1 f_V_holds.1 ∈ jw_ws := jw_in (by decide +kernel) (by decide +kernel)
theorem jw_in_f_V_home : Cond.instanceMethod f_V_home.1 ∈ jw_ws := jw_in (by decide +kernel) (by decide +kernel)
theorem jw_se_f_V_home : Cond.selects f_V_home.1.cls f_V_home.1 f_V_home.1 ∈ jw_ws := jw_in (by decide +kernel) (by decide +kernel)
theorem jw_in_f_V_power : Cond.instanceMethod f_V_power.1 ∈ jw_ws := jw_in (by decide +kernel) (by decide +kernel)
theorem jw_se_f_V_power : Cond.selects f_V_power.1.cls f_V_power.1 f_V_power.1 ∈ jw_ws := jw_in (by decide +kernel) (by decide +kernel)
theorem jw_in_f_V_put : Cond.instanceMethod f_V_put.1 ∈ jw_ws := jw_in (by decide +kernel) (by decide +kernel)
theorem jw_se_f_V_put : Cond.selects f_V_put.1.cls f_V_put.1 f_V_put.1 ∈ jw_ws := jw_in (by decide +kernel) (by decide +kernel)
theorem jw_in_f_V_remove : Cond.instanceMethod f_V_remove.1 ∈ jw_ws := jw_in (by decide +kernel) (by decide +kernel)
theorem jw_se_f_V_remove : Cond.selects f_V_remove.1.cls f_V_remove.1 f_V_remove.1 ∈ jw_ws := jw_in (by decide +kernel) (by decide +kernel)
theorem jw_in_f_V_repaired : Cond.instanceMethod f_V_repaired.1 ∈ jw_ws := jw_in (by decide +kernel) (by decide +kernel)
theorem jw_se_f_V_repaired : Cond.selects f_V_repaired.1.cls f_V_repaired.1 f_V_repaired.1 ∈ jw_ws := jw_in (by decide +kernel) (by decide +kernel)
theorem jw_in_f_V_targets : Cond.instanceMethod f_V_targets.1 ∈ jw_ws := jw_in (by decide +kernel) (by decide +kernel)
theorem jw_se_f_V_targets : Cond.selects f_V_targets.1.cls f_V_targets.1 f_V_targets.1 ∈ jw_ws := jw_in (by decide +kernel) (by decide +kernel)
theorem jw_in_f_V_token : Cond.instanceMethod f_V_token.1 ∈ jw_ws := jw_in (by decide +kernel) (by decide +kernel)
theorem jw_se_f_V_token : Cond.selects f_V_token.1.cls f_V_token.1 f_V_token.1 ∈ jw_ws := jw_in (by decide +kernel) (by decide +kernel)
theorem jw_in_f_V_version : Cond.instanceMethod f_V_version.1 ∈ jw_ws := jw_in (by decide +kernel) (by decide +kernel)
theorem jw_se_f_V_version : Cond.selects f_V_version.1.cls f_V_version.1 f_V_version.1 ∈ jw_ws := jw_in (by decide +kernel) (by decide +kernel)
theorem jw_in_f_V_versions : Cond.instanceMethod f_V_versions.1 ∈ jw_ws := jw_in (by decide +kernel) (by decide +kernel)
theorem jw_se_f_V_versions : Cond.selects f_V_versions.1.cls f_V_versions.1 f_V_versions.1 ∈ jw_ws := jw_in (by decide +kernel) (by decide +kernel)
set_option maxRecDepth 100000 in
set_option maxHeartbeats 4000000 in
theorem k_L_law_48 {l : Launch} {X : jw_X0} {G : jw_G} {A : Nat → Prop} {b n : Nat} {xs : Nat → Int32} (hX : jw_scr X A b n xs) {x3 : Int32} {M : jw_Mem} (h : ((((nI n) - 5) < x3 → jw_R l X (jw_g G) A f_L_law 1 M) ∧ (¬ ((nI n) - 5) < x3 → (∃ j1 : Nat, (j1 < n ∧ n < 2147483648 ∧ x3 = nI j1) ∧ (∃ c1 : Nat, (c1 < 32 ∧ ((xs j1) &&& 31) = nI c1) ∧ jw_X l X (jw_g G) A f_L_law (jw_lt_L_law c1) [some (.ref b), some (jw_a G 0), some (jw_a G 41), some (.int x3)] [] M))))) : jw_X l X (jw_g G) A f_L_law 48 [some (.ref b), some (jw_a G 0), some (jw_a G 41), some (.int x3)] [] M := by
  refine jw_iload_n (i := 3) d_L_law_48 rfl rfl ?_
  refine jw_aload_n (i := 0) d_L_law_49 rfl rfl ?_
  refine jw_slen d_L_law_50 hX ?_
  refine jw_iconst (v := 5) d_L_law_51 jc_i_5 ?_
  refine jw_isub d_L_law_52 ?_
  refine jw_icmp_gt (tgt := 740) d_L_law_53 (by decide) (fun hc => ?_) (fun hc => ?_)
  · have h := h.1 hc
    refine jw_iconst (v := 1) d_L_law_740 jc_i_1 ?_
    exact jw_ireturn d_L_law_741 rfl h
  · have h := h.2 hc
    refine jw_aload_n (i := 0) d_L_law_56 rfl rfl ?_
    refine jw_iload_n (i := 3) d_L_law_57 rfl rfl ?_
    obtain ⟨j1, hj1, h⟩ := h
    refine jw_sld2 d_L_law_58 hX hj1 ?_
    refine jw_bipush (v := 31) d_L_law_59 jc_b_31 ?_
    refine jw_iand d_L_law_61 ?_
    obtain ⟨c1, hc1, h⟩ := h
    exact jw_switch d_L_law_62 hc1 h
set_option maxRecDepth 100000 in
set_option maxHeartbeats 4000000 in
theorem k_L_law_148 {l : Launch} {X : jw_X0} {G : jw_G} {A : Nat → Prop} {b n : Nat} {xs : Nat → Int32} (hX : jw_scr X A b n xs) {x3 : Int32} {M : jw_Mem} (h : (∃ j1 : Nat, (j1 < n ∧ n < 2147483648 ∧ (x3 + 1) = nI j1) ∧ (∃ j2 : Nat, (j2 < n ∧ n < 2147483648 ∧ (x3 + 2) = nI j2) ∧ jw_M l (jw_g G) A f_V_token [jw_a G 0, .int (xs j1), .int (xs j2)] M (fun r1 M1 => (∃ j3 : Nat, (j3 < n ∧ n < 2147483648 ∧ (x3 + 1) = nI j3) ∧ (∃ j4 : Nat, (j4 < n ∧ n < 2147483648 ∧ (x3 + 2) = nI j4) ∧ jw_M l (jw_g G) A f_M_token [jw_a G 41, .int (xs j3), .int (xs j4)] M1 (fun r2 M2 => ((r1 = r2 → jw_X l X (jw_g G) A f_L_law 734 [some (.ref b), some (jw_a G 0), some (jw_a G 41), some (.int x3)] [] M2) ∧ (¬ r1 = r2 → jw_R l X (jw_g G) A f_L_law 0 M2))))))))) : jw_X l X (jw_g G) A f_L_law 148 [some (.ref b), some (jw_a G 0), some (jw_a G 41), some (.int x3)] [] M := by
  refine jw_aload_n (i := 1) d_L_law_148 rfl rfl ?_
  refine jw_aload_n (i := 0) d_L_law_149 rfl rfl ?_
  refine jw_iload_n (i := 3) d_L_law_150 rfl rfl ?_
  refine jw_iconst (v := 1) d_L_law_151 jc_i_1 ?_
  refine jw_iadd d_L_law_152 ?_
  obtain ⟨j1, hj1, h⟩ := h
  refine jw_sld2 d_L_law_153 hX hj1 ?_
  refine jw_aload_n (i := 0) d_L_law_154 rfl rfl ?_
  refine jw_iload_n (i := 3) d_L_law_155 rfl rfl ?_
  refine jw_iconst (v := 2) d_L_law_156 jc_i_2 ?_
  refine jw_iadd d_L_law_157 ?_
  obtain ⟨j2, hj2, h⟩ := h
  refine jw_sld2 d_L_law_158 hX hj2 ?_
  refine jw_callV (As := [.int (xs j1), .int (xs j2)]) (S := []) d_L_law_159 jw_k0 jw_c_V jw_ml_L_21 jw_in_f_V_token jw_se_f_V_token ⟨Nat.le_of_ble_eq_true rfl, Nat.le_of_ble_eq_true rfl⟩ rfl rfl (Nat.le_of_ble_eq_true rfl) (jw_M_mono h (fun r1 M1 h => ?_))
  refine jw_st (S' := [.int r1]) rfl ?_
  refine jw_aload_n (i := 2) d_L_law_162 rfl rfl ?_
  refine jw_aload_n (i := 0) d_L_law_163 rfl rfl ?_
  refine jw_iload_n (i := 3) d_L_law_164 rfl rfl ?_
  refine jw_iconst (v := 1) d_L_law_165 jc_i_1 ?_
  refine jw_iadd d_L_law_166 ?_
  obtain ⟨j3, hj3, h⟩ := h
  refine jw_sld2 d_L_law_167 hX hj3 ?_
  refine jw_aload_n (i := 0) d_L_law_168 rfl rfl ?_
  refine jw_iload_n (i := 3) d_L_law_169 rfl rfl ?_
  refine jw_iconst (v := 2) d_L_law_170 jc_i_2 ?_
  refine jw_iadd d_L_law_171 ?_
  obtain ⟨j4, hj4, h⟩ := h
  refine jw_sld2 d_L_law_172 hX hj4 ?_
  refine jw_callV (As := [.int (xs j3), .int (xs j4)]) (S := [.int r1]) d_L_law_173 jw_k41 jw_c_M jw_ml_L_25 jw_in_f_M_token jw_se_f_M_token ⟨Nat.le_of_ble_eq_true rfl, Nat.le_of_ble_eq_true rfl⟩ rfl rfl (Nat.le_of_ble_eq_true rfl) (jw_M_mono h (fun r2 M2 h => ?_))
  refine jw_st (S' := [.int r2, .int r1]) rfl ?_
  refine jw_icmp_eq (tgt := 734) d_L_law_176 (by decide) (fun hc => ?_) (fun hc => ?_)
  · have h := h.1 hc
    exact h
  · have h := h.2 hc
    refine jw_iconst (v := 0) d_L_law_179 jc_i_0 ?_
    exact jw_ireturn d_L_law_180 rfl h
set_option maxRecDepth 100000 in
set_option maxHeartbeats 4000000 in
theorem k_L_law_181 {l : Launch} {X : jw_X0} {G : jw_G} {A : Nat → Prop} {b n : Nat} {xs : Nat → Int32} (hX : jw_scr X A b n xs) {x3 : Int32} {M : jw_Mem} (h : (∃ j1 : Nat, (j1 < n ∧ n < 2147483648 ∧ (x3 + 1) = nI j1) ∧ jw_M l (jw_g G) A f_V_remove [jw_a G 0, .int (xs j1)] M (fun r1 M1 => (∃ j2 : Nat, (j2 < n ∧ n < 2147483648 ∧ (x3 + 1) = nI j2) ∧ jw_M l (jw_g G) A f_M_remove [jw_a G 41, .int (xs j2)] M1 (fun r2 M2 => ((r1 = r2 → jw_X l X (jw_g G) A f_L_law 734 [some (.ref b), some (jw_a G 0), some (jw_a G 41), some (.int x3)] [] M2) ∧ (¬ r1 = r2 → jw_R l X (jw_g G) A f_L_law 0 M2))))))) : jw_X l X (jw_g G) A f_L_law 181 [some (.ref b), some (jw_a G 0), some (jw_a G 41), some (.int x3)] [] M := by
  refine jw_aload_n (i := 1) d_L_law_181 rfl rfl ?_
  refine jw_aload_n (i := 0) d_L_law_182 rfl rfl ?_
  refine jw_iload_n (i := 3) d_L_law_183 rfl rfl ?_
  refine jw_iconst (v := 1) d_L_law_184 jc_i_1 ?_
  refine jw_iadd d_L_law_185 ?_
  obtain ⟨j1, hj1, h⟩ := h
  refine jw_sld2 d_L_law_186 hX hj1 ?_
  refine jw_callV (As := [.int (xs j1)]) (S := []) d_L_law_187 jw_k0 jw_c_V jw_ml_L_26 jw_in_f_V_remove jw_se_f_V_remove ⟨Nat.le_of_ble_eq_true rfl, Nat.le_of_ble_eq_true rfl⟩ rfl rfl (Nat.le_of_ble_eq_true rfl) (jw_M_mono h (fun r1 M1 h => ?_))
  refine jw_st (S' := [.int r1]) rfl ?_
  refine jw_aload_n (i := 2) d_L_law_190 rfl rfl ?_
  refine jw_aload_n (i := 0) d_L_law_191 rfl rfl ?_
  refine jw_iload_n (i := 3) d_L_law_192 rfl rfl ?_
  refine jw_iconst (v := 1) d_L_law_193 jc_i_1 ?_
  refine jw_iadd d_L_law_194 ?_
  obtain ⟨j2, hj2, h⟩ := h
  refine jw_sld2 d_L_law_195 hX hj2 ?_
  refine jw_callV (As := [.int (xs j2)]) (S := [.int r1]) d_L_law_196 jw_k41 jw_c_M jw_ml_L_30 jw_in_f_M_remove jw_se_f_M_remove ⟨Nat.le_of_ble_eq_true rfl, Nat.le_of_ble_eq_true rfl⟩ rfl rfl (Nat.le_of_ble_eq_true rfl) (jw_M_mono h (fun r2 M2 h => ?_))
  refine jw_st (S' := [.int r2, .int r1]) rfl ?_
  refine jw_icmp_eq (tgt := 734) d_L_law_199 (by decide) (fun hc => ?_) (fun hc => ?_)
  · have h := h.1 hc
    exact h
  · have h := h.2 hc
    refine jw_iconst (v := 0) d_L_law_202 jc_i_0 ?_
    exact jw_ireturn d_L_law_203 rfl h
set_option maxRecDepth 100000 in
set_option maxHeartbeats 4000000 in
theorem k_L_law_204 {l : Launch} {X : jw_X0} {G : jw_G} {A : Nat → Prop} {b n : Nat} {xs : Nat → Int32} (hX : jw_scr X A b n xs) {x3 : Int32} {M : jw_Mem} (h : (∃ j1 : Nat, (j1 < n ∧ n < 2147483648 ∧ (x3 + 1) = nI j1) ∧ (∃ j2 : Nat, (j2 < n ∧ n < 2147483648 ∧ (x3 + 2) = nI j2) ∧ (((xs j2) = 0 → jw_M l (jw_g G) A f_V_power [jw_a G 0, .int (xs j1), .int 0] M (fun r1 M1 => (∃ j3 : Nat, (j3 < n ∧ n < 2147483648 ∧ (x3 + 1) = nI j3) ∧ (∃ j4 : Nat, (j4 < n ∧ n < 2147483648 ∧ (x3 + 2) = nI j4) ∧ (((xs j4) = 0 → jw_M l (jw_g G) A f_M_power [jw_a G 41, .int (xs j3), .int 0] M1 (fun r2 M2 => ((r1 = r2 → jw_X l X (jw_g G) A f_L_law 734 [some (.ref b), some (jw_a G 0), some (jw_a G 41), some (.int x3)] [] M2) ∧ (¬ r1 = r2 → jw_R l X (jw_g G) A f_L_law 0 M2)))) ∧ (¬ (xs j4) = 0 → jw_M l (jw_g G) A f_M_power [jw_a G 41, .int (xs j3), .int 1] M1 (fun r3 M3 => ((r1 = r3 → jw_X l X (jw_g G) A f_L_law 734 [some (.ref b), some (jw_a G 0), some (jw_a G 41), some (.int x3)] [] M3) ∧ (¬ r1 = r3 → jw_R l X (jw_g G) A f_L_law 0 M3))))))))) ∧ (¬ (xs j2) = 0 → jw_M l (jw_g G) A f_V_power [jw_a G 0, .int (xs j1), .int 1] M (fun r4 M4 => (∃ j5 : Nat, (j5 < n ∧ n < 2147483648 ∧ (x3 + 1) = nI j5) ∧ (∃ j6 : Nat, (j6 < n ∧ n < 2147483648 ∧ (x3 + 2) = nI j6) ∧ (((xs j6) = 0 → jw_M l (jw_g G) A f_M_power [jw_a G 41, .int (xs j5), .int 0] M4 (fun r5 M5 => ((r4 = r5 → jw_X l X (jw_g G) A f_L_law 734 [some (.ref b), some (jw_a G 0), some (jw_a G 41), some (.int x3)] [] M5) ∧ (¬ r4 = r5 → jw_R l X (jw_g G) A f_L_law 0 M5)))) ∧ (¬ (xs j6) = 0 → jw_M l (jw_g G) A f_M_power [jw_a G 41, .int (xs j5), .int 1] M4 (fun r6 M6 => ((r4 = r6 → jw_X l X (jw_g G) A f_L_law 734 [some (.ref b), some (jw_a G 0), some (jw_a G 41), some (.int x3)] [] M6) ∧ (¬ r4 = r6 → jw_R l X (jw_g G) A f_L_law 0 M6))))))))))))) : jw_X l X (jw_g G) A f_L_law 204 [some (.ref b), some (jw_a G 0), some (jw_a G 41), some (.int x3)] [] M := by
  refine jw_aload_n (i := 1) d_L_law_204 rfl rfl ?_
  refine jw_aload_n (i := 0) d_L_law_205 rfl rfl ?_
  refine jw_iload_n (i := 3) d_L_law_206 rfl rfl ?_
  refine jw_iconst (v := 1) d_L_law_207 jc_i_1 ?_
  refine jw_iadd d_L_law_208 ?_
  obtain ⟨j1, hj1, h⟩ := h
  refine jw_sld2 d_L_law_209 hX hj1 ?_
  refine jw_aload_n (i := 0) d_L_law_210 rfl rfl ?_
  refine jw_iload_n (i := 3) d_L_law_211 rfl rfl ?_
  refine jw_iconst (v := 2) d_L_law_212 jc_i_2 ?_
  refine jw_iadd d_L_law_213 ?_
  obtain ⟨j2, hj2, h⟩ := h
  refine jw_sld2 d_L_law_214 hX hj2 ?_
  refine jw_if_eq (tgt := 222) d_L_law_215 (by decide) (fun hc => ?_) (fun hc => ?_)
  · have h := h.1 hc
    refine jw_iconst (v := 0) d_L_law_222 jc_i_0 ?_
    refine jw_callV (As := [.int (xs j1), .int 0]) (S := []) d_L_law_223 jw_k0 jw_c_V jw_ml_L_31 jw_in_f_V_power jw_se_f_V_power ⟨Nat.le_of_ble_eq_true rfl, Nat.le_of_ble_eq_true rfl⟩ rfl rfl (Nat.le_of_ble_eq_true rfl) (jw_M_mono h (fun r1 M1 h => ?_))
    refine jw_st (S' := [.int r1]) rfl ?_
    refine jw_aload_n (i := 2) d_L_law_226 rfl rfl ?_
    refine jw_aload_n (i := 0) d_L_law_227 rfl rfl ?_
    refine jw_iload_n (i := 3) d_L_law_228 rfl rfl ?_
    refine jw_iconst (v := 1) d_L_law_229 jc_i_1 ?_
    refine jw_iadd d_L_law_230 ?_
    obtain ⟨j3, hj3, h⟩ := h
    refine jw_sld2 d_L_law_231 hX hj3 ?_
    refine jw_aload_n (i := 0) d_L_law_232 rfl rfl ?_
    refine jw_iload_n (i := 3) d_L_law_233 rfl rfl ?_
    refine jw_iconst (v := 2) d_L_law_234 jc_i_2 ?_
    refine jw_iadd d_L_law_235 ?_
    obtain ⟨j4, hj4, h⟩ := h
    refine jw_sld2 d_L_law_236 hX hj4 ?_
    refine jw_if_eq (tgt := 244) d_L_law_237 (by decide) (fun hc => ?_) (fun hc => ?_)
    · have h := h.1 hc
      refine jw_iconst (v := 0) d_L_law_244 jc_i_0 ?_
      refine jw_callV (As := [.int (xs j3), .int 0]) (S := [.int r1]) d_L_law_245 jw_k41 jw_c_M jw_ml_L_35 jw_in_f_M_power jw_se_f_M_power ⟨Nat.le_of_ble_eq_true rfl, Nat.le_of_ble_eq_true rfl⟩ rfl rfl (Nat.le_of_ble_eq_true rfl) (jw_M_mono h (fun r2 M2 h => ?_))
      refine jw_st (S' := [.int r2, .int r1]) rfl ?_
      refine jw_icmp_eq (tgt := 734) d_L_law_248 (by decide) (fun hc => ?_) (fun hc => ?_)
      · have h := h.1 hc
        exact h
      · have h := h.2 hc
        refine jw_iconst (v := 0) d_L_law_251 jc_i_0 ?_
        exact jw_ireturn d_L_law_252 rfl h
    · have h := h.2 hc
      refine jw_iconst (v := 1) d_L_law_240 jc_i_1 ?_
      refine jw_goto (tgt := 245) d_L_law_241 (by decide) ?_
      refine jw_callV (As := [.int (xs j3), .int 1]) (S := [.int r1]) d_L_law_245 jw_k41 jw_c_M jw_ml_L_35 jw_in_f_M_power jw_se_f_M_power ⟨Nat.le_of_ble_eq_true rfl, Nat.le_of_ble_eq_true rfl⟩ rfl rfl (Nat.le_of_ble_eq_true rfl) (jw_M_mono h (fun r3 M3 h => ?_))
      refine jw_st (S' := [.int r3, .int r1]) rfl ?_
      refine jw_icmp_eq (tgt := 734) d_L_law_248 (by decide) (fun hc => ?_) (fun hc => ?_)
      · have h := h.1 hc
        exact h
      · have h := h.2 hc
        refine jw_iconst (v := 0) d_L_law_251 jc_i_0 ?_
        exact jw_ireturn d_L_law_252 rfl h
  · have h := h.2 hc
    refine jw_iconst (v := 1) d_L_law_218 jc_i_1 ?_
    refine jw_goto (tgt := 223) d_L_law_219 (by decide) ?_
    refine jw_callV (As := [.int (xs j1), .int 1]) (S := []) d_L_law_223 jw_k0 jw_c_V jw_ml_L_31 jw_in_f_V_power jw_se_f_V_power ⟨Nat.le_of_ble_eq_true rfl, Nat.le_of_ble_eq_true rfl⟩ rfl rfl (Nat.le_of_ble_eq_true rfl) (jw_M_mono h (fun r4 M4 h => ?_))
    refine jw_st (S' := [.int r4]) rfl ?_
    refine jw_aload_n (i := 2) d_L_law_226 rfl rfl ?_
    refine jw_aload_n (i := 0) d_L_law_227 rfl rfl ?_
    refine jw_iload_n (i := 3) d_L_law_228 rfl rfl ?_
    refine jw_iconst (v := 1) d_L_law_229 jc_i_1 ?_
    refine jw_iadd d_L_law_230 ?_
    obtain ⟨j5, hj5, h⟩ := h
    refine jw_sld2 d_L_law_231 hX hj5 ?_
    refine jw_aload_n (i := 0) d_L_law_232 rfl rfl ?_
    refine jw_iload_n (i := 3) d_L_law_233 rfl rfl ?_
    refine jw_iconst (v := 2) d_L_law_234 jc_i_2 ?_
    refine jw_iadd d_L_law_235 ?_
    obtain ⟨j6, hj6, h⟩ := h
    refine jw_sld2 d_L_law_236 hX hj6 ?_
    refine jw_if_eq (tgt := 244) d_L_law_237 (by decide) (fun hc => ?_) (fun hc => ?_)
    · have h := h.1 hc
      refine jw_iconst (v := 0) d_L_law_244 jc_i_0 ?_
      refine jw_callV (As := [.int (xs j5), .int 0]) (S := [.int r4]) d_L_law_245 jw_k41 jw_c_M jw_ml_L_35 jw_in_f_M_power jw_se_f_M_power ⟨Nat.le_of_ble_eq_true rfl, Nat.le_of_ble_eq_true rfl⟩ rfl rfl (Nat.le_of_ble_eq_true rfl) (jw_M_mono h (fun r5 M5 h => ?_))
      refine jw_st (S' := [.int r5, .int r4]) rfl ?_
      refine jw_icmp_eq (tgt := 734) d_L_law_248 (by decide) (fun hc => ?_) (fun hc => ?_)
      · have h := h.1 hc
        exact h
      · have h := h.2 hc
        refine jw_iconst (v := 0) d_L_law_251 jc_i_0 ?_
        exact jw_ireturn d_L_law_252 rfl h
    · have h := h.2 hc
      refine jw_iconst (v := 1) d_L_law_240 jc_i_1 ?_
      refine jw_goto (tgt := 245) d_L_law_241 (by decide) ?_
      refine jw_callV (As := [.int (xs j5), .int 1]) (S := [.int r4]) d_L_law_245 jw_k41 jw_c_M jw_ml_L_35 jw_in_f_M_power jw_se_f_M_power ⟨Nat.le_of_ble_eq_true rfl, Nat.le_of_ble_eq_true rfl⟩ rfl rfl (Nat.le_of_ble_eq_true rfl) (jw_M_mono h (fun r6 M6 h => ?_))
      refine jw_st (S' := [.int r6, .int r4]) rfl ?_
      refine jw_icmp_eq (tgt := 734) d_L_law_248 (by decide) (fun hc => ?_) (fun hc => ?_)
      · have h := h.1 hc
        exact h
      · have h := h.2 hc
        refine jw_iconst (v := 0) d_L_law_251 jc_i_0 ?_
        exact jw_ireturn d_L_law_252 rfl h
set_option maxRecDepth 100000 in
set_option maxHeartbeats 4000000 in
theorem k_L_law_253 {l : Launch} {X : jw_X0} {G : jw_G} {A : Nat → Prop} {b n : Nat} {xs : Nat → Int32} (hX : jw_scr X A b n xs) {x3 : Int32} {M : jw_Mem} (h : (∃ j1 : Nat, (j1 < n ∧ n < 2147483648 ∧ (x3 + 1) = nI j1) ∧ (∃ j2 : Nat, (j2 < n ∧ n < 2147483648 ∧ (x3 + 2) = nI j2) ∧ (∃ j3 : Nat, (j3 < n ∧ n < 2147483648 ∧ (x3 + 3) = nI j3) ∧ (((xs j3) = 0 → jw_M l (jw_g G) A f_V_cut [jw_a G 0, .int (xs j1), .int (xs j2), .int 0] M (fun r1 M1 => (∃ j4 : Nat, (j4 < n ∧ n < 2147483648 ∧ (x3 + 1) = nI j4) ∧ (∃ j5 : Nat, (j5 < n ∧ n < 2147483648 ∧ (x3 + 2) = nI j5) ∧ (∃ j6 : Nat, (j6 < n ∧ n < 2147483648 ∧ (x3 + 3) = nI j6) ∧ (((xs j6) = 0 → jw_M l (jw_g G) A f_M_cut [jw_a G 41, .int (xs j4), .int (xs j5), .int 0] M1 (fun r2 M2 => ((r1 = r2 → jw_X l X (jw_g G) A f_L_law 734 [some (.ref b), some (jw_a G 0), some (jw_a G 41), some (.int x3)] [] M2) ∧ (¬ r1 = r2 → jw_R l X (jw_g G) A f_L_law 0 M2)))) ∧ (¬ (xs j6) = 0 → jw_M l (jw_g G) A f_M_cut [jw_a G 41, .int (xs j4), .int (xs j5), .int 1] M1 (fun r3 M3 => ((r1 = r3 → jw_X l X (jw_g G) A f_L_law 734 [some (.ref b), some (jw_a G 0), some (jw_a G 41), some (.int x3)] [] M3) ∧ (¬ r1 = r3 → jw_R l X (jw_g G) A f_L_law 0 M3)))))))))) ∧ (¬ (xs j3) = 0 → jw_M l (jw_g G) A f_V_cut [jw_a G 0, .int (xs j1), .int (xs j2), .int 1] M (fun r4 M4 => (∃ j7 : Nat, (j7 < n ∧ n < 2147483648 ∧ (x3 + 1) = nI j7) ∧ (∃ j8 : Nat, (j8 < n ∧ n < 2147483648 ∧ (x3 + 2) = nI j8) ∧ (∃ j9 : Nat, (j9 < n ∧ n < 2147483648 ∧ (x3 + 3) = nI j9) ∧ (((xs j9) = 0 → jw_M l (jw_g G) A f_M_cut [jw_a G 41, .int (xs j7), .int (xs j8), .int 0] M4 (fun r5 M5 => ((r4 = r5 → jw_X l X (jw_g G) A f_L_law 734 [some (.ref b), some (jw_a G 0), some (jw_a G 41), some (.int x3)] [] M5) ∧ (¬ r4 = r5 → jw_R l X (jw_g G) A f_L_law 0 M5)))) ∧ (¬ (xs j9) = 0 → jw_M l (jw_g G) A f_M_cut [jw_a G 41, .int (xs j7), .int (xs j8), .int 1] M4 (fun r6 M6 => ((r4 = r6 → jw_X l X (jw_g G) A f_L_law 734 [some (.ref b), some (jw_a G 0), some (jw_a G 41), some (.int x3)] [] M6) ∧ (¬ r4 = r6 → jw_R l X (jw_g G) A f_L_law 0 M6))))))))))))))) : jw_X l X (jw_g G) A f_L_law 253 [some (.ref b), some (jw_a G 0), some (jw_a G 41), some (.int x3)] [] M := by
  refine jw_aload_n (i := 1) d_L_law_253 rfl rfl ?_
  refine jw_aload_n (i := 0) d_L_law_254 rfl rfl ?_
  refine jw_iload_n (i := 3) d_L_law_255 rfl rfl ?_
  refine jw_iconst (v := 1) d_L_law_256 jc_i_1 ?_
  refine jw_iadd d_L_law_257 ?_
  obtain ⟨j1, hj1, h⟩ := h
  refine jw_sld2 d_L_law_258 hX hj1 ?_
  refine jw_aload_n (i := 0) d_L_law_259 rfl rfl ?_
  refine jw_iload_n (i := 3) d_L_law_260 rfl rfl ?_
  refine jw_iconst (v := 2) d_L_law_261 jc_i_2 ?_
  refine jw_iadd d_L_law_262 ?_
  obtain ⟨j2, hj2, h⟩ := h
  refine jw_sld2 d_L_law_263 hX hj2 ?_
  refine jw_aload_n (i := 0) d_L_law_264 rfl rfl ?_
  refine jw_iload_n (i := 3) d_L_law_265 rfl rfl ?_
  refine jw_iconst (v := 3) d_L_law_266 jc_i_3 ?_
  refine jw_iadd d_L_law_267 ?_
  obtain ⟨j3, hj3, h⟩ := h
  refine jw_sld2 d_L_law_268 hX hj3 ?_
  refine jw_if_eq (tgt := 276) d_L_law_269 (by decide) (fun hc => ?_) (fun hc => ?_)
  · have h := h.1 hc
    refine jw_iconst (v := 0) d_L_law_276 jc_i_0 ?_
    refine jw_callV (As := [.int (xs j1), .int (xs j2), .int 0]) (S := []) d_L_law_277 jw_k0 jw_c_V jw_ml_L_36 jw_in_f_V_cut jw_se_f_V_cut ⟨Nat.le_of_ble_eq_true rfl, Nat.le_of_ble_eq_true rfl⟩ rfl rfl (Nat.le_of_ble_eq_true rfl) (jw_M_mono h (fun r1 M1 h => ?_))
    refine jw_st (S' := [.int r1]) rfl ?_
    refine jw_aload_n (i := 2) d_L_law_280 rfl rfl ?_
    refine jw_aload_n (i := 0) d_L_law_281 rfl rfl ?_
    refine jw_iload_n (i := 3) d_L_law_282 rfl rfl ?_
    refine jw_iconst (v := 1) d_L_law_283 jc_i_1 ?_
    refine jw_iadd d_L_law_284 ?_
    obtain ⟨j4, hj4, h⟩ := h
    refine jw_sld2 d_L_law_285 hX hj4 ?_
    refine jw_aload_n (i := 0) d_L_law_286 rfl rfl ?_
    refine jw_iload_n (i := 3) d_L_law_287 rfl rfl ?_
    refine jw_iconst (v := 2) d_L_law_288 jc_i_2 ?_
    refine jw_iadd d_L_law_289 ?_
    obtain ⟨j5, hj5, h⟩ := h
    refine jw_sld2 d_L_law_290 hX hj5 ?_
    refine jw_aload_n (i := 0) d_L_law_291 rfl rfl ?_
    refine jw_iload_n (i := 3) d_L_law_292 rfl rfl ?_
    refine jw_iconst (v := 3) d_L_law_293 jc_i_3 ?_
    refine jw_iadd d_L_law_294 ?_
    obtain ⟨j6, hj6, h⟩ := h
    refine jw_sld2 d_L_law_295 hX hj6 ?_
    refine jw_if_eq (tgt := 303) d_L_law_296 (by decide) (fun hc => ?_) (fun hc => ?_)
    · have h := h.1 hc
      refine jw_iconst (v := 0) d_L_law_303 jc_i_0 ?_
      refine jw_callV (As := [.int (xs j4), .int (xs j5), .int 0]) (S := [.int r1]) d_L_law_304 jw_k41 jw_c_M jw_ml_L_40 jw_in_f_M_cut jw_se_f_M_cut ⟨Nat.le_of_ble_eq_true rfl, Nat.le_of_ble_eq_true rfl⟩ rfl rfl (Nat.le_of_ble_eq_true rfl) (jw_M_mono h (fun r2 M2 h => ?_))
      refine jw_st (S' := [.int r2, .int r1]) rfl ?_
      refine jw_icmp_eq (tgt := 734) d_L_law_307 (by decide) (fun hc => ?_) (fun hc => ?_)
      · have h := h.1 hc
        exact h
      · have h := h.2 hc
        refine jw_iconst (v := 0) d_L_law_310 jc_i_0 ?_
        exact jw_ireturn d_L_law_311 rfl h
    · have h := h.2 hc
      refine jw_iconst (v := 1) d_L_law_299 jc_i_1 ?_
      refine jw_goto (tgt := 304) d_L_law_300 (by decide) ?_
      refine jw_callV (As := [.int (xs j4), .int (xs j5), .int 1]) (S := [.int r1]) d_L_law_304 jw_k41 jw_c_M jw_ml_L_40 jw_in_f_M_cut jw_se_f_M_cut ⟨Nat.le_of_ble_eq_true rfl, Nat.le_of_ble_eq_true rfl⟩ rfl rfl (Nat.le_of_ble_eq_true rfl) (jw_M_mono h (fun r3 M3 h => ?_))
      refine jw_st (S' := [.int r3, .int r1]) rfl ?_
      refine jw_icmp_eq (tgt := 734) d_L_law_307 (by decide) (fun hc => ?_) (fun hc => ?_)
      · have h := h.1 hc
        exact h
      · have h := h.2 hc
        refine jw_iconst (v := 0) d_L_law_310 jc_i_0 ?_
        exact jw_ireturn d_L_law_311 rfl h
  · have h := h.2 hc
    refine jw_iconst (v := 1) d_L_law_272 jc_i_1 ?_
    refine jw_goto (tgt := 277) d_L_law_273 (by decide) ?_
    refine jw_callV (As := [.int (xs j1), .int (xs j2), .int 1]) (S := []) d_L_law_277 jw_k0 jw_c_V jw_ml_L_36 jw_in_f_V_cut jw_se_f_V_cut ⟨Nat.le_of_ble_eq_true rfl, Nat.le_of_ble_eq_true rfl⟩ rfl rfl (Nat.le_of_ble_eq_true rfl) (jw_M_mono h (fun r4 M4 h => ?_))
    refine jw_st (S' := [.int r4]) rfl ?_
    refine jw_aload_n (i := 2) d_L_law_280 rfl rfl ?_
    refine jw_aload_n (i := 0) d_L_law_281 rfl rfl ?_
    refine jw_iload_n (i := 3) d_L_law_282 rfl rfl ?_
    refine jw_iconst (v := 1) d_L_law_283 jc_i_1 ?_
    refine jw_iadd d_L_law_284 ?_
    obtain ⟨j7, hj7, h⟩ := h
    refine jw_sld2 d_L_law_285 hX hj7 ?_
    refine jw_aload_n (i := 0) d_L_law_286 rfl rfl ?_
    refine jw_iload_n (i := 3) d_L_law_287 rfl rfl ?_
    refine jw_iconst (v := 2) d_L_law_288 jc_i_2 ?_
    refine jw_iadd d_L_law_289 ?_
    obtain ⟨j8, hj8, h⟩ := h
    refine jw_sld2 d_L_law_290 hX hj8 ?_
    refine jw_aload_n (i := 0) d_L_law_291 rfl rfl ?_
    refine jw_iload_n (i := 3) d_L_law_292 rfl rfl ?_
    refine jw_iconst (v := 3) d_L_law_293 jc_i_3 ?_
    refine jw_iadd d_L_law_294 ?_
    obtain ⟨j9, hj9, h⟩ := h
    refine jw_sld2 d_L_law_295 hX hj9 ?_
    refine jw_if_eq (tgt := 303) d_L_law_296 (by decide) (fun hc => ?_) (fun hc => ?_)
    · have h := h.1 hc
      refine jw_iconst (v := 0) d_L_law_303 jc_i_0 ?_
      refine jw_callV (As := [.int (xs j7), .int (xs j8), .int 0]) (S := [.int r4]) d_L_law_304 jw_k41 jw_c_M jw_ml_L_40 jw_in_f_M_cut jw_se_f_M_cut ⟨Nat.le_of_ble_eq_true rfl, Nat.le_of_ble_eq_true rfl⟩ rfl rfl (Nat.le_of_ble_eq_true rfl) (jw_M_mono h (fun r5 M5 h => ?_))
      refine jw_st (S' := [.int r5, .int r4]) rfl ?_
      refine jw_icmp_eq (tgt := 734) d_L_law_307 (by decide) (fun hc => ?_) (fun hc => ?_)
      · have h := h.1 hc
        exact h
      · have h := h.2 hc
        refine jw_iconst (v := 0) d_L_law_310 jc_i_0 ?_
        exact jw_ireturn d_L_law_311 rfl h
    · have h := h.2 hc
      refine jw_iconst (v := 1) d_L_law_299 jc_i_1 ?_
      refine jw_goto (tgt := 304) d_L_law_300 (by decide) ?_
      refine jw_callV (As := [.int (xs j7), .int (xs j8), .int 1]) (S := [.int r4]) d_L_law_304 jw_k41 jw_c_M jw_ml_L_40 jw_in_f_M_cut jw_se_f_M_cut ⟨Nat.le_of_ble_eq_true rfl, Nat.le_of_ble_eq_true rfl⟩ rfl rfl (Nat.le_of_ble_eq_true rfl) (jw_M_mono h (fun r6 M6 h => ?_))
      refine jw_st (S' := [.int r6, .int r4]) rfl ?_
      refine jw_icmp_eq (tgt := 734) d_L_law_307 (by decide) (fun hc => ?_) (fun hc => ?_)
      · have h := h.1 hc
        exact h
      · have h := h.2 hc
        refine jw_iconst (v := 0) d_L_law_310 jc_i_0 ?_
        exact jw_ireturn d_L_law_311 rfl h
set_option maxRecDepth 100000 in
set_option maxHeartbeats 4000000 in
theorem k_L_law_312 {l : Launch} {X : jw_X0} {G : jw_G} {A : Nat → Prop} {b n : Nat} {xs : Nat → Int32} (hX : jw_scr X A b n xs) {x3 : Int32} {M : jw_Mem} (h : (∃ j1 : Nat, (j1 < n ∧ n < 2147483648 ∧ (x3 + 1) = nI j1) ∧ (∃ j2 : Nat, (j2 < n ∧ n < 2147483648 ∧ (x3 + 2) = nI j2) ∧ (∃ j3 : Nat, (j3 < n ∧ n < 2147483648 ∧ (x3 + 3) = nI j3) ∧ (∃ j4 : Nat, (j4 < n ∧ n < 2147483648 ∧ (x3 + 4) = nI j4) ∧ jw_M l (jw_g G) A f_V_put [jw_a G 0, .int (xs j1), .int (xs j2), .int (xs j3), .int (xs j4)] M (fun r1 M1 => (∃ j5 : Nat, (j5 < n ∧ n < 2147483648 ∧ (x3 + 1) = nI j5) ∧ (∃ j6 : Nat, (j6 < n ∧ n < 2147483648 ∧ (x3 + 2) = nI j6) ∧ (∃ j7 : Nat, (j7 < n ∧ n < 2147483648 ∧ (x3 + 3) = nI j7) ∧ (∃ j8 : Nat, (j8 < n ∧ n < 2147483648 ∧ (x3 + 4) = nI j8) ∧ jw_M l (jw_g G) A f_M_put [jw_a G 41, .int (xs j5), .int (xs j6), .int (xs j7), .int (xs j8)] M1 (fun r2 M2 => ((r1 = r2 → jw_X l X (jw_g G) A f_L_law 734 [some (.ref b), some (jw_a G 0), some (jw_a G 41), some (.int x3)] [] M2) ∧ (¬ r1 = r2 → jw_R l X (jw_g G) A f_L_law 0 M2))))))))))))) : jw_X l X (jw_g G) A f_L_law 312 [some (.ref b), some (jw_a G 0), some (jw_a G 41), some (.int x3)] [] M := by
  refine jw_aload_n (i := 1) d_L_law_312 rfl rfl ?_
  refine jw_aload_n (i := 0) d_L_law_313 rfl rfl ?_
  refine jw_iload_n (i := 3) d_L_law_314 rfl rfl ?_
  refine jw_iconst (v := 1) d_L_law_315 jc_i_1 ?_
  refine jw_iadd d_L_law_316 ?_
  obtain ⟨j1, hj1, h⟩ := h
  refine jw_sld2 d_L_law_317 hX hj1 ?_
  refine jw_aload_n (i := 0) d_L_law_318 rfl rfl ?_
  refine jw_iload_n (i := 3) d_L_law_319 rfl rfl ?_
  refine jw_iconst (v := 2) d_L_law_320 jc_i_2 ?_
  refine jw_iadd d_L_law_321 ?_
  obtain ⟨j2, hj2, h⟩ := h
  refine jw_sld2 d_L_law_322 hX hj2 ?_
  refine jw_aload_n (i := 0) d_L_law_323 rfl rfl ?_
  refine jw_iload_n (i := 3) d_L_law_324 rfl rfl ?_
  refine jw_iconst (v := 3) d_L_law_325 jc_i_3 ?_
  refine jw_iadd d_L_law_326 ?_
  obtain ⟨j3, hj3, h⟩ := h
  refine jw_sld2 d_L_law_327 hX hj3 ?_
  refine jw_aload_n (i := 0) d_L_law_328 rfl rfl ?_
  refine jw_iload_n (i := 3) d_L_law_329 rfl rfl ?_
  refine jw_iconst (v := 4) d_L_law_330 jc_i_4 ?_
  refine jw_iadd d_L_law_331 ?_
  obtain ⟨j4, hj4, h⟩ := h
  refine jw_sld2 d_L_law_332 hX hj4 ?_
  refine jw_callV (As := [.int (xs j1), .int (xs j2), .int (xs j3), .int (xs j4)]) (S := []) d_L_law_333 jw_k0 jw_c_V jw_ml_L_41 jw_in_f_V_put jw_se_f_V_put ⟨Nat.le_of_ble_eq_true rfl, Nat.le_of_ble_eq_true rfl⟩ rfl rfl (Nat.le_of_ble_eq_true rfl) (jw_M_mono h (fun r1 M1 h => ?_))
  refine jw_st (S' := [.int r1]) rfl ?_
  refine jw_aload_n (i := 2) d_L_law_336 rfl rfl ?_
  refine jw_aload_n (i := 0) d_L_law_337 rfl rfl ?_
  refine jw_iload_n (i := 3) d_L_law_338 rfl rfl ?_
  refine jw_iconst (v := 1) d_L_law_339 jc_i_1 ?_
  refine jw_iadd d_L_law_340 ?_
  obtain ⟨j5, hj5, h⟩ := h
  refine jw_sld2 d_L_law_341 hX hj5 ?_
  refine jw_aload_n (i := 0) d_L_law_342 rfl rfl ?_
  refine jw_iload_n (i := 3) d_L_law_343 rfl rfl ?_
  refine jw_iconst (v := 2) d_L_law_344 jc_i_2 ?_
  refine jw_iadd d_L_law_345 ?_
  obtain ⟨j6, hj6, h⟩ := h
  refine jw_sld2 d_L_law_346 hX hj6 ?_
  refine jw_aload_n (i := 0) d_L_law_347 rfl rfl ?_
  refine jw_iload_n (i := 3) d_L_law_348 rfl rfl ?_
  refine jw_iconst (v := 3) d_L_law_349 jc_i_3 ?_
  refine jw_iadd d_L_law_350 ?_
  obtain ⟨j7, hj7, h⟩ := h
  refine jw_sld2 d_L_law_351 hX hj7 ?_
  refine jw_aload_n (i := 0) d_L_law_352 rfl rfl ?_
  refine jw_iload_n (i := 3) d_L_law_353 rfl rfl ?_
  refine jw_iconst (v := 4) d_L_law_354 jc_i_4 ?_
  refine jw_iadd d_L_law_355 ?_
  obtain ⟨j8, hj8, h⟩ := h
  refine jw_sld2 d_L_law_356 hX hj8 ?_
  refine jw_callV (As := [.int (xs j5), .int (xs j6), .int (xs j7), .int (xs j8)]) (S := [.int r1]) d_L_law_357 jw_k41 jw_c_M jw_ml_L_45 jw_in_f_M_put jw_se_f_M_put ⟨Nat.le_of_ble_eq_true rfl, Nat.le_of_ble_eq_true rfl⟩ rfl rfl (Nat.le_of_ble_eq_true rfl) (jw_M_mono h (fun r2 M2 h => ?_))
  refine jw_st (S' := [.int r2, .int r1]) rfl ?_
  refine jw_icmp_eq (tgt := 734) d_L_law_360 (by decide) (fun hc => ?_) (fun hc => ?_)
  · have h := h.1 hc
    exact h
  · have h := h.2 hc
    refine jw_iconst (v := 0) d_L_law_363 jc_i_0 ?_
    exact jw_ireturn d_L_law_364 rfl h
set_option maxRecDepth 100000 in
set_option maxHeartbeats 4000000 in
theorem k_L_law_365 {l : Launch} {X : jw_X0} {G : jw_G} {A : Nat → Prop} {b n : Nat} {xs : Nat → Int32} (hX : jw_scr X A b n xs) {x3 : Int32} {M : jw_Mem} (h : (∃ j1 : Nat, (j1 < n ∧ n < 2147483648 ∧ (x3 + 1) = nI j1) ∧ (∃ j2 : Nat, (j2 < n ∧ n < 2147483648 ∧ (x3 + 2) = nI j2) ∧ (∃ j3 : Nat, (j3 < n ∧ n < 2147483648 ∧ (x3 + 3) = nI j3) ∧ jw_M l (jw_g G) A f_V_get [jw_a G 0, .int (xs j1), .int (xs j2), .int (xs j3)] M (fun r1 M1 => (∃ j4 : Nat, (j4 < n ∧ n < 2147483648 ∧ (x3 + 1) = nI j4) ∧ (∃ j5 : Nat, (j5 < n ∧ n < 2147483648 ∧ (x3 + 2) = nI j5) ∧ (∃ j6 : Nat, (j6 < n ∧ n < 2147483648 ∧ (x3 + 3) = nI j6) ∧ jw_M l (jw_g G) A f_M_get [jw_a G 41, .int (xs j4), .int (xs j5), .int (xs j6)] M1 (fun r2 M2 => ((r1 = r2 → jw_X l X (jw_g G) A f_L_law 734 [some (.ref b), some (jw_a G 0), some (jw_a G 41), some (.int x3)] [] M2) ∧ (¬ r1 = r2 → jw_R l X (jw_g G) A f_L_law 0 M2))))))))))) : jw_X l X (jw_g G) A f_L_law 365 [some (.ref b), some (jw_a G 0), some (jw_a G 41), some (.int x3)] [] M := by
  refine jw_aload_n (i := 1) d_L_law_365 rfl rfl ?_
  refine jw_aload_n (i := 0) d_L_law_366 rfl rfl ?_
  refine jw_iload_n (i := 3) d_L_law_367 rfl rfl ?_
  refine jw_iconst (v := 1) d_L_law_368 jc_i_1 ?_
  refine jw_iadd d_L_law_369 ?_
  obtain ⟨j1, hj1, h⟩ := h
  refine jw_sld2 d_L_law_370 hX hj1 ?_
  refine jw_aload_n (i := 0) d_L_law_371 rfl rfl ?_
  refine jw_iload_n (i := 3) d_L_law_372 rfl rfl ?_
  refine jw_iconst (v := 2) d_L_law_373 jc_i_2 ?_
  refine jw_iadd d_L_law_374 ?_
  obtain ⟨j2, hj2, h⟩ := h
  refine jw_sld2 d_L_law_375 hX hj2 ?_
  refine jw_aload_n (i := 0) d_L_law_376 rfl rfl ?_
  refine jw_iload_n (i := 3) d_L_law_377 rfl rfl ?_
  refine jw_iconst (v := 3) d_L_law_378 jc_i_3 ?_
  refine jw_iadd d_L_law_379 ?_
  obtain ⟨j3, hj3, h⟩ := h
  refine jw_sld2 d_L_law_380 hX hj3 ?_
  refine jw_callV (As := [.int (xs j1), .int (xs j2), .int (xs j3)]) (S := []) d_L_law_381 jw_k0 jw_c_V jw_ml_L_46 jw_in_f_V_get jw_se_f_V_get ⟨Nat.le_of_ble_eq_true rfl, Nat.le_of_ble_eq_true rfl⟩ rfl rfl (Nat.le_of_ble_eq_true rfl) (jw_M_mono h (fun r1 M1 h => ?_))
  refine jw_st (S' := [.int r1]) rfl ?_
  refine jw_aload_n (i := 2) d_L_law_384 rfl rfl ?_
  refine jw_aload_n (i := 0) d_L_law_385 rfl rfl ?_
  refine jw_iload_n (i := 3) d_L_law_386 rfl rfl ?_
  refine jw_iconst (v := 1) d_L_law_387 jc_i_1 ?_
  refine jw_iadd d_L_law_388 ?_
  obtain ⟨j4, hj4, h⟩ := h
  refine jw_sld2 d_L_law_389 hX hj4 ?_
  refine jw_aload_n (i := 0) d_L_law_390 rfl rfl ?_
  refine jw_iload_n (i := 3) d_L_law_391 rfl rfl ?_
  refine jw_iconst (v := 2) d_L_law_392 jc_i_2 ?_
  refine jw_iadd d_L_law_393 ?_
  obtain ⟨j5, hj5, h⟩ := h
  refine jw_sld2 d_L_law_394 hX hj5 ?_
  refine jw_aload_n (i := 0) d_L_law_395 rfl rfl ?_
  refine jw_iload_n (i := 3) d_L_law_396 rfl rfl ?_
  refine jw_iconst (v := 3) d_L_law_397 jc_i_3 ?_
  refine jw_iadd d_L_law_398 ?_
  obtain ⟨j6, hj6, h⟩ := h
  refine jw_sld2 d_L_law_399 hX hj6 ?_
  refine jw_callV (As := [.int (xs j4), .int (xs j5), .int (xs j6)]) (S := [.int r1]) d_L_law_400 jw_k41 jw_c_M jw_ml_L_50 jw_in_f_M_get jw_se_f_M_get ⟨Nat.le_of_ble_eq_true rfl, Nat.le_of_ble_eq_true rfl⟩ rfl rfl (Nat.le_of_ble_eq_true rfl) (jw_M_mono h (fun r2 M2 h => ?_))
  refine jw_st (S' := [.int r2, .int r1]) rfl ?_
  refine jw_icmp_eq (tgt := 734) d_L_law_403 (by decide) (fun hc => ?_) (fun hc => ?_)
  · have h := h.1 hc
    exact h
  · have h := h.2 hc
    refine jw_iconst (v := 0) d_L_law_406 jc_i_0 ?_
    exact jw_ireturn d_L_law_407 rfl h
set_option maxRecDepth 100000 in
set_option maxHeartbeats 4000000 in
theorem k_L_law_408 {l : Launch} {X : jw_X0} {G : jw_G} {A : Nat → Prop} {b n : Nat} {xs : Nat → Int32} (hX : jw_scr X A b n xs) {x3 : Int32} {M : jw_Mem} (h : (∃ j1 : Nat, (j1 < n ∧ n < 2147483648 ∧ (x3 + 1) = nI j1) ∧ jw_M l (jw_g G) A f_V_found [jw_a G 0, .int (xs j1)] M (fun r1 M1 => (∃ j2 : Nat, (j2 < n ∧ n < 2147483648 ∧ (x3 + 1) = nI j2) ∧ jw_M l (jw_g G) A f_M_found [jw_a G 41, .int (xs j2)] M1 (fun r2 M2 => ((r1 = r2 → jw_X l X (jw_g G) A f_L_law 734 [some (.ref b), some (jw_a G 0), some (jw_a G 41), some (.int x3)] [] M2) ∧ (¬ r1 = r2 → jw_R l X (jw_g G) A f_L_law 0 M2))))))) : jw_X l X (jw_g G) A f_L_law 408 [some (.ref b), some (jw_a G 0), some (jw_a G 41), some (.int x3)] [] M := by
  refine jw_aload_n (i := 1) d_L_law_408 rfl rfl ?_
  refine jw_aload_n (i := 0) d_L_law_409 rfl rfl ?_
  refine jw_iload_n (i := 3) d_L_law_410 rfl rfl ?_
  refine jw_iconst (v := 1) d_L_law_411 jc_i_1 ?_
  refine jw_iadd d_L_law_412 ?_
  obtain ⟨j1, hj1, h⟩ := h
  refine jw_sld2 d_L_law_413 hX hj1 ?_
  refine jw_callV (As := [.int (xs j1)]) (S := []) d_L_law_414 jw_k0 jw_c_V jw_ml_L_51 jw_in_f_V_found jw_se_f_V_found ⟨Nat.le_of_ble_eq_true rfl, Nat.le_of_ble_eq_true rfl⟩ rfl rfl (Nat.le_of_ble_eq_true rfl) (jw_M_mono h (fun r1 M1 h => ?_))
  refine jw_st (S' := [.int r1]) rfl ?_
  refine jw_aload_n (i := 2) d_L_law_417 rfl rfl ?_
  refine jw_aload_n (i := 0) d_L_law_418 rfl rfl ?_
  refine jw_iload_n (i := 3) d_L_law_419 rfl rfl ?_
  refine jw_iconst (v := 1) d_L_law_420 jc_i_1 ?_
  refine jw_iadd d_L_law_421 ?_
  obtain ⟨j2, hj2, h⟩ := h
  refine jw_sld2 d_L_law_422 hX hj2 ?_
  refine jw_callV (As := [.int (xs j2)]) (S := [.int r1]) d_L_law_423 jw_k41 jw_c_M jw_ml_L_55 jw_in_f_M_found jw_se_f_M_found ⟨Nat.le_of_ble_eq_true rfl, Nat.le_of_ble_eq_true rfl⟩ rfl rfl (Nat.le_of_ble_eq_true rfl) (jw_M_mono h (fun r2 M2 h => ?_))
  refine jw_st (S' := [.int r2, .int r1]) rfl ?_
  refine jw_icmp_eq (tgt := 734) d_L_law_426 (by decide) (fun hc => ?_) (fun hc => ?_)
  · have h := h.1 hc
    exact h
  · have h := h.2 hc
    refine jw_iconst (v := 0) d_L_law_429 jc_i_0 ?_
    exact jw_ireturn d_L_law_430 rfl h
set_option maxRecDepth 100000 in
set_option maxHeartbeats 4000000 in
theorem k_L_law_431 {l : Launch} {X : jw_X0} {G : jw_G} {A : Nat → Prop} {b n : Nat} {xs : Nat → Int32} (hX : jw_scr X A b n xs) {x3 : Int32} {M : jw_Mem} (h : jw_M l (jw_g G) A f_V_repaired [jw_a G 0] M (fun r1 M1 => jw_M l (jw_g G) A f_M_repaired [jw_a G 41] M1 (fun r2 M2 => ((r1 = r2 → jw_X l X (jw_g G) A f_L_law 734 [some (.ref b), some (jw_a G 0), some (jw_a G 41), some (.int x3)] [] M2) ∧ (¬ r1 = r2 → jw_R l X (jw_g G) A f_L_law 0 M2))))) : jw_X l X (jw_g G) A f_L_law 431 [some (.ref b), some (jw_a G 0), some (jw_a G 41), some (.int x3)] [] M := by
  refine jw_aload_n (i := 1) d_L_law_431 rfl rfl ?_
  refine jw_callV (As := []) (S := []) d_L_law_432 jw_k0 jw_c_V jw_ml_L_56 jw_in_f_V_repaired jw_se_f_V_repaired ⟨Nat.le_of_ble_eq_true rfl, Nat.le_of_ble_eq_true rfl⟩ rfl rfl (Nat.le_of_ble_eq_true rfl) (jw_M_mono h (fun r1 M1 h => ?_))
  refine jw_st (S' := [.int r1]) rfl ?_
  refine jw_aload_n (i := 2) d_L_law_435 rfl rfl ?_
  refine jw_callV (As := []) (S := [.int r1]) d_L_law_436 jw_k41 jw_c_M jw_ml_L_60 jw_in_f_M_repaired jw_se_f_M_repaired ⟨Nat.le_of_ble_eq_true rfl, Nat.le_of_ble_eq_true rfl⟩ rfl rfl (Nat.le_of_ble_eq_true rfl) (jw_M_mono h (fun r2 M2 h => ?_))
  refine jw_st (S' := [.int r2, .int r1]) rfl ?_
  refine jw_icmp_eq (tgt := 734) d_L_law_439 (by decide) (fun hc => ?_) (fun hc => ?_)
  · have h := h.1 hc
    exact h
  · have h := h.2 hc
    refine jw_iconst (v := 0) d_L_law_442 jc_i_0 ?_
    exact jw_ireturn d_L_law_443 rfl h
set_option maxRecDepth 100000 in
set_option maxHeartbeats 4000000 in
theorem k_L_law_444 {l : Launch} {X : jw_X0} {G : jw_G} {A : Nat → Prop} {b n : Nat} {xs : Nat → Int32} (hX : jw_scr X A b n xs) {x3 : Int32} {M : jw_Mem} (h : (∃ j1 : Nat, (j1 < n ∧ n < 2147483648 ∧ (x3 + 1) = nI j1) ∧ jw_M l (jw_g G) A f_V_handOver [jw_a G 0, .int (xs j1)] M (fun r1 M1 => (∃ j2 : Nat, (j2 < n ∧ n < 2147483648 ∧ (x3 + 1) = nI j2) ∧ jw_M l (jw_g G) A f_M_handOver [jw_a G 41, .int (xs j2)] M1 (fun r2 M2 => ((r1 = r2 → jw_X l X (jw_g G) A f_L_law 734 [some (.ref b), some (jw_a G 0), some (jw_a G 41), some (.int x3)] [] M2) ∧ (¬ r1 = r2 → jw_R l X (jw_g G) A f_L_law 0 M2))))))) : jw_X l X (jw_g G) A f_L_law 444 [some (.ref b), some (jw_a G 0), some (jw_a G 41), some (.int x3)] [] M := by
  refine jw_aload_n (i := 1) d_L_law_444 rfl rfl ?_
  refine jw_aload_n (i := 0) d_L_law_445 rfl rfl ?_
  refine jw_iload_n (i := 3) d_L_law_446 rfl rfl ?_
  refine jw_iconst (v := 1) d_L_law_447 jc_i_1 ?_
  refine jw_iadd d_L_law_448 ?_
  obtain ⟨j1, hj1, h⟩ := h
  refine jw_sld2 d_L_law_449 hX hj1 ?_
  refine jw_callV (As := [.int (xs j1)]) (S := []) d_L_law_450 jw_k0 jw_c_V jw_ml_L_61 jw_in_f_V_handOver jw_se_f_V_handOver ⟨Nat.le_of_ble_eq_true rfl, Nat.le_of_ble_eq_true rfl⟩ rfl rfl (Nat.le_of_ble_eq_true rfl) (jw_M_mono h (fun r1 M1 h => ?_))
  refine jw_st (S' := [.int r1]) rfl ?_
  refine jw_aload_n (i := 2) d_L_law_453 rfl rfl ?_
  refine jw_aload_n (i := 0) d_L_law_454 rfl rfl ?_
  refine jw_iload_n (i := 3) d_L_law_455 rfl rfl ?_
  refine jw_iconst (v := 1) d_L_law_456 jc_i_1 ?_
  refine jw_iadd d_L_law_457 ?_
  obtain ⟨j2, hj2, h⟩ := h
  refine jw_sld2 d_L_law_458 hX hj2 ?_
  refine jw_callV (As := [.int (xs j2)]) (S := [.int r1]) d_L_law_459 jw_k41 jw_c_M jw_ml_L_64 jw_in_f_M_handOver jw_se_f_M_handOver ⟨Nat.le_of_ble_eq_true rfl, Nat.le_of_ble_eq_true rfl⟩ rfl rfl (Nat.le_of_ble_eq_true rfl) (jw_M_mono h (fun r2 M2 h => ?_))
  refine jw_st (S' := [.int r2, .int r1]) rfl ?_
  refine jw_icmp_eq (tgt := 734) d_L_law_462 (by decide) (fun hc => ?_) (fun hc => ?_)
  · have h := h.1 hc
    exact h
  · have h := h.2 hc
    refine jw_iconst (v := 0) d_L_law_465 jc_i_0 ?_
    exact jw_ireturn d_L_law_466 rfl h
set_option maxRecDepth 100000 in
set_option maxHeartbeats 4000000 in
theorem k_L_law_467 {l : Launch} {X : jw_X0} {G : jw_G} {A : Nat → Prop} {b n : Nat} {xs : Nat → Int32} (hX : jw_scr X A b n xs) {x3 : Int32} {M : jw_Mem} (h : (∃ j1 : Nat, (j1 < n ∧ n < 2147483648 ∧ (x3 + 1) = nI j1) ∧ (∃ j2 : Nat, (j2 < n ∧ n < 2147483648 ∧ (x3 + 2) = nI j2) ∧ jw_M l (jw_g G) A f_V_compare [jw_a G 0, .int (xs j1), .int (xs j2)] M (fun r1 M1 => (∃ j3 : Nat, (j3 < n ∧ n < 2147483648 ∧ (x3 + 1) = nI j3) ∧ (∃ j4 : Nat, (j4 < n ∧ n < 2147483648 ∧ (x3 + 2) = nI j4) ∧ jw_M l (jw_g G) A f_M_compare [jw_a G 41, .int (xs j3), .int (xs j4)] M1 (fun r2 M2 => ((r1 = r2 → jw_X l X (jw_g G) A f_L_law 734 [some (.ref b), some (jw_a G 0), some (jw_a G 41), some (.int x3)] [] M2) ∧ (¬ r1 = r2 → jw_R l X (jw_g G) A f_L_law 0 M2))))))))) : jw_X l X (jw_g G) A f_L_law 467 [some (.ref b), some (jw_a G 0), some (jw_a G 41), some (.int x3)] [] M := by
  refine jw_aload_n (i := 1) d_L_law_467 rfl rfl ?_
  refine jw_aload_n (i := 0) d_L_law_468 rfl rfl ?_
  refine jw_iload_n (i := 3) d_L_law_469 rfl rfl ?_
  refine jw_iconst (v := 1) d_L_law_470 jc_i_1 ?_
  refine jw_iadd d_L_law_471 ?_
  obtain ⟨j1, hj1, h⟩ := h
  refine jw_sld2 d_L_law_472 hX hj1 ?_
  refine jw_aload_n (i := 0) d_L_law_473 rfl rfl ?_
  refine jw_iload_n (i := 3) d_L_law_474 rfl rfl ?_
  refine jw_iconst (v := 2) d_L_law_475 jc_i_2 ?_
  refine jw_iadd d_L_law_476 ?_
  obtain ⟨j2, hj2, h⟩ := h
  refine jw_sld2 d_L_law_477 hX hj2 ?_
  refine jw_callV (As := [.int (xs j1), .int (xs j2)]) (S := []) d_L_law_478 jw_k0 jw_c_V jw_ml_L_65 jw_in_f_V_compare jw_se_f_V_compare ⟨Nat.le_of_ble_eq_true rfl, Nat.le_of_ble_eq_true rfl⟩ rfl rfl (Nat.le_of_ble_eq_true rfl) (jw_M_mono h (fun r1 M1 h => ?_))
  refine jw_st (S' := [.int r1]) rfl ?_
  refine jw_aload_n (i := 2) d_L_law_481 rfl rfl ?_
  refine jw_aload_n (i := 0) d_L_law_482 rfl rfl ?_
  refine jw_iload_n (i := 3) d_L_law_483 rfl rfl ?_
  refine jw_iconst (v := 1) d_L_law_484 jc_i_1 ?_
  refine jw_iadd d_L_law_485 ?_
  obtain ⟨j3, hj3, h⟩ := h
  refine jw_sld2 d_L_law_486 hX hj3 ?_
  refine jw_aload_n (i := 0) d_L_law_487 rfl rfl ?_
  refine jw_iload_n (i := 3) d_L_law_488 rfl rfl ?_
  refine jw_iconst (v := 2) d_L_law_489 jc_i_2 ?_
  refine jw_iadd d_L_law_490 ?_
  obtain ⟨j4, hj4, h⟩ := h
  refine jw_sld2 d_L_law_491 hX hj4 ?_
  refine jw_callV (As := [.int (xs j3), .int (xs j4)]) (S := [.int r1]) d_L_law_492 jw_k41 jw_c_M jw_ml_L_69 jw_in_f_M_compare jw_se_f_M_compare ⟨Nat.le_of_ble_eq_true rfl, Nat.le_of_ble_eq_true rfl⟩ rfl rfl (Nat.le_of_ble_eq_true rfl) (jw_M_mono h (fun r2 M2 h => ?_))
  refine jw_st (S' := [.int r2, .int r1]) rfl ?_
  refine jw_icmp_eq (tgt := 734) d_L_law_495 (by decide) (fun hc => ?_) (fun hc => ?_)
  · have h := h.1 hc
    exact h
  · have h := h.2 hc
    refine jw_iconst (v := 0) d_L_law_498 jc_i_0 ?_
    exact jw_ireturn d_L_law_499 rfl h
set_option maxRecDepth 100000 in
set_option maxHeartbeats 4000000 in
theorem k_L_law_500 {l : Launch} {X : jw_X0} {G : jw_G} {A : Nat → Prop} {b n : Nat} {xs : Nat → Int32} (hX : jw_scr X A b n xs) {x3 : Int32} {M : jw_Mem} (h : (∃ j1 : Nat, (j1 < n ∧ n < 2147483648 ∧ (x3 + 1) = nI j1) ∧ (∃ j2 : Nat, (j2 < n ∧ n < 2147483648 ∧ (x3 + 2) = nI j2) ∧ jw_M l (jw_g G) A f_V_home [jw_a G 0, .int (xs j1), .int (xs j2)] M (fun r1 M1 => (∃ j3 : Nat, (j3 < n ∧ n < 2147483648 ∧ (x3 + 1) = nI j3) ∧ (∃ j4 : Nat, (j4 < n ∧ n < 2147483648 ∧ (x3 + 2) = nI j4) ∧ jw_M l (jw_g G) A f_M_home [jw_a G 41, .int (xs j3), .int (xs j4)] M1 (fun r2 M2 => ((r1 = r2 → jw_X l X (jw_g G) A f_L_law 734 [some (.ref b), some (jw_a G 0), some (jw_a G 41), some (.int x3)] [] M2) ∧ (¬ r1 = r2 → jw_R l X (jw_g G) A f_L_law 0 M2))))))))) : jw_X l X (jw_g G) A f_L_law 500 [some (.ref b), some (jw_a G 0), some (jw_a G 41), some (.int x3)] [] M := by
  refine jw_aload_n (i := 1) d_L_law_500 rfl rfl ?_
  refine jw_aload_n (i := 0) d_L_law_501 rfl rfl ?_
  refine jw_iload_n (i := 3) d_L_law_502 rfl rfl ?_
  refine jw_iconst (v := 1) d_L_law_503 jc_i_1 ?_
  refine jw_iadd d_L_law_504 ?_
  obtain ⟨j1, hj1, h⟩ := h
  refine jw_sld2 d_L_law_505 hX hj1 ?_
  refine jw_aload_n (i := 0) d_L_law_506 rfl rfl ?_
  refine jw_iload_n (i := 3) d_L_law_507 rfl rfl ?_
  refine jw_iconst (v := 2) d_L_law_508 jc_i_2 ?_
  refine jw_iadd d_L_law_509 ?_
  obtain ⟨j2, hj2, h⟩ := h
  refine jw_sld2 d_L_law_510 hX hj2 ?_
  refine jw_callV (As := [.int (xs j1), .int (xs j2)]) (S := []) d_L_law_511 jw_k0 jw_c_V jw_ml_L_70 jw_in_f_V_home jw_se_f_V_home ⟨Nat.le_of_ble_eq_true rfl, Nat.le_of_ble_eq_true rfl⟩ rfl rfl (Nat.le_of_ble_eq_true rfl) (jw_M_mono h (fun r1 M1 h => ?_))
  refine jw_st (S' := [.int r1]) rfl ?_
  refine jw_aload_n (i := 2) d_L_law_514 rfl rfl ?_
  refine jw_aload_n (i := 0) d_L_law_515 rfl rfl ?_
  refine jw_iload_n (i := 3) d_L_law_516 rfl rfl ?_
  refine jw_iconst (v := 1) d_L_law_517 jc_i_1 ?_
  refine jw_iadd d_L_law_518 ?_
  obtain ⟨j3, hj3, h⟩ := h
  refine jw_sld2 d_L_law_519 hX hj3 ?_
  refine jw_aload_n (i := 0) d_L_law_520 rfl rfl ?_
  refine jw_iload_n (i := 3) d_L_law_521 rfl rfl ?_
  refine jw_iconst (v := 2) d_L_law_522 jc_i_2 ?_
  refine jw_iadd d_L_law_523 ?_
  obtain ⟨j4, hj4, h⟩ := h
  refine jw_sld2 d_L_law_524 hX hj4 ?_
  refine jw_callV (As := [.int (xs j3), .int (xs j4)]) (S := [.int r1]) d_L_law_525 jw_k41 jw_c_M jw_ml_L_73 jw_in_f_M_home jw_se_f_M_home ⟨Nat.le_of_ble_eq_true rfl, Nat.le_of_ble_eq_true rfl⟩ rfl rfl (Nat.le_of_ble_eq_true rfl) (jw_M_mono h (fun r2 M2 h => ?_))
  refine jw_st (S' := [.int r2, .int r1]) rfl ?_
  refine jw_icmp_eq (tgt := 734) d_L_law_528 (by decide) (fun hc => ?_) (fun hc => ?_)
  · have h := h.1 hc
    exact h
  · have h := h.2 hc
    refine jw_iconst (v := 0) d_L_law_531 jc_i_0 ?_
    exact jw_ireturn d_L_law_532 rfl h
set_option maxRecDepth 100000 in
set_option maxHeartbeats 4000000 in
theorem k_L_law_533 {l : Launch} {X : jw_X0} {G : jw_G} {A : Nat → Prop} {b n : Nat} {xs : Nat → Int32} (hX : jw_scr X A b n xs) {x3 : Int32} {M : jw_Mem} (h : (∃ j1 : Nat, (j1 < n ∧ n < 2147483648 ∧ (x3 + 1) = nI j1) ∧ (∃ j2 : Nat, (j2 < n ∧ n < 2147483648 ∧ (x3 + 2) = nI j2) ∧ jw_M l (jw_g G) A f_V_targets [jw_a G 0, .int (xs j1), .int (xs j2)] M (fun r1 M1 => (∃ j3 : Nat, (j3 < n ∧ n < 2147483648 ∧ (x3 + 1) = nI j3) ∧ (∃ j4 : Nat, (j4 < n ∧ n < 2147483648 ∧ (x3 + 2) = nI j4) ∧ jw_M l (jw_g G) A f_M_targets [jw_a G 41, .int (xs j3), .int (xs j4)] M1 (fun r2 M2 => ((r1 = r2 → jw_X l X (jw_g G) A f_L_law 734 [some (.ref b), some (jw_a G 0), some (jw_a G 41), some (.int x3)] [] M2) ∧ (¬ r1 = r2 → jw_R l X (jw_g G) A f_L_law 0 M2))))))))) : jw_X l X (jw_g G) A f_L_law 533 [some (.ref b), some (jw_a G 0), some (jw_a G 41), some (.int x3)] [] M := by
  refine jw_aload_n (i := 1) d_L_law_533 rfl rfl ?_
  refine jw_aload_n (i := 0) d_L_law_534 rfl rfl ?_
  refine jw_iload_n (i := 3) d_L_law_535 rfl rfl ?_
  refine jw_iconst (v := 1) d_L_law_536 jc_i_1 ?_
  refine jw_iadd d_L_law_537 ?_
  obtain ⟨j1, hj1, h⟩ := h
  refine jw_sld2 d_L_law_538 hX hj1 ?_
  refine jw_aload_n (i := 0) d_L_law_539 rfl rfl ?_
  refine jw_iload_n (i := 3) d_L_law_540 rfl rfl ?_
  refine jw_iconst (v := 2) d_L_law_541 jc_i_2 ?_
  refine jw_iadd d_L_law_542 ?_
  obtain ⟨j2, hj2, h⟩ := h
  refine jw_sld2 d_L_law_543 hX hj2 ?_
  refine jw_callV (As := [.int (xs j1), .int (xs j2)]) (S := []) d_L_law_544 jw_k0 jw_c_V jw_ml_L_74 jw_in_f_V_targets jw_se_f_V_targets ⟨Nat.le_of_ble_eq_true rfl, Nat.le_of_ble_eq_true rfl⟩ rfl rfl (Nat.le_of_ble_eq_true rfl) (jw_M_mono h (fun r1 M1 h => ?_))
  refine jw_st (S' := [.int r1]) rfl ?_
  refine jw_aload_n (i := 2) d_L_law_547 rfl rfl ?_
  refine jw_aload_n (i := 0) d_L_law_548 rfl rfl ?_
  refine jw_iload_n (i := 3) d_L_law_549 rfl rfl ?_
  refine jw_iconst (v := 1) d_L_law_550 jc_i_1 ?_
  refine jw_iadd d_L_law_551 ?_
  obtain ⟨j3, hj3, h⟩ := h
  refine jw_sld2 d_L_law_552 hX hj3 ?_
  refine jw_aload_n (i := 0) d_L_law_553 rfl rfl ?_
  refine jw_iload_n (i := 3) d_L_law_554 rfl rfl ?_
  refine jw_iconst (v := 2) d_L_law_555 jc_i_2 ?_
  refine jw_iadd d_L_law_556 ?_
  obtain ⟨j4, hj4, h⟩ := h
  refine jw_sld2 d_L_law_557 hX hj4 ?_
  refine jw_callV (As := [.int (xs j3), .int (xs j4)]) (S := [.int r1]) d_L_law_558 jw_k41 jw_c_M jw_ml_L_77 jw_in_f_M_targets jw_se_f_M_targets ⟨Nat.le_of_ble_eq_true rfl, Nat.le_of_ble_eq_true rfl⟩ rfl rfl (Nat.le_of_ble_eq_true rfl) (jw_M_mono h (fun r2 M2 h => ?_))
  refine jw_st (S' := [.int r2, .int r1]) rfl ?_
  refine jw_icmp_eq (tgt := 734) d_L_law_561 (by decide) (fun hc => ?_) (fun hc => ?_)
  · have h := h.1 hc
    exact h
  · have h := h.2 hc
    refine jw_iconst (v := 0) d_L_law_564 jc_i_0 ?_
    exact jw_ireturn d_L_law_565 rfl h
set_option maxRecDepth 100000 in
set_option maxHeartbeats 4000000 in
theorem k_L_law_566 {l : Launch} {X : jw_X0} {G : jw_G} {A : Nat → Prop} {b n : Nat} {xs : Nat → Int32} (hX : jw_scr X A b n xs) {x3 : Int32} {M : jw_Mem} (h : (∃ j1 : Nat, (j1 < n ∧ n < 2147483648 ∧ (x3 + 1) = nI j1) ∧ (∃ j2 : Nat, (j2 < n ∧ n < 2147483648 ∧ (x3 + 2) = nI j2) ∧ jw_M l (jw_g G) A f_V_holds [jw_a G 0, .int (xs j1), .int (xs j2)] M (fun r1 M1 => (∃ j3 : Nat, (j3 < n ∧ n < 2147483648 ∧ (x3 + 1) = nI j3) ∧ (∃ j4 : Nat, (j4 < n ∧ n < 2147483648 ∧ (x3 + 2) = nI j4) ∧ jw_M l (jw_g G) A f_M_holds [jw_a G 41, .int (xs j3), .int (xs j4)] M1 (fun r2 M2 => ((r1 = r2 → jw_X l X (jw_g G) A f_L_law 734 [some (.ref b), some (jw_a G 0), some (jw_a G 41), some (.int x3)] [] M2) ∧ (¬ r1 = r2 → jw_R l X (jw_g G) A f_L_law 0 M2))))))))) : jw_X l X (jw_g G) A f_L_law 566 [some (.ref b), some (jw_a G 0), some (jw_a G 41), some (.int x3)] [] M := by
  refine jw_aload_n (i := 1) d_L_law_566 rfl rfl ?_
  refine jw_aload_n (i := 0) d_L_law_567 rfl rfl ?_
  refine jw_iload_n (i := 3) d_L_law_568 rfl rfl ?_
  refine jw_iconst (v := 1) d_L_law_569 jc_i_1 ?_
  refine jw_iadd d_L_law_570 ?_
  obtain ⟨j1, hj1, h⟩ := h
  refine jw_sld2 d_L_law_571 hX hj1 ?_
  refine jw_aload_n (i := 0) d_L_law_572 rfl rfl ?_
  refine jw_iload_n (i := 3) d_L_law_573 rfl rfl ?_
  refine jw_iconst (v := 2) d_L_law_574 jc_i_2 ?_
  refine jw_iadd d_L_law_575 ?_
  obtain ⟨j2, hj2, h⟩ := h
  refine jw_sld2 d_L_law_576 hX hj2 ?_
  refine jw_callV (As := [.int (xs j1), .int (xs j2)]) (S := []) d_L_law_577 jw_k0 jw_c_V jw_ml_L_78 jw_in_f_V_holds jw_se_f_V_holds ⟨Nat.le_of_ble_eq_true rfl, Nat.le_of_ble_eq_true rfl⟩ rfl rfl (Nat.le_of_ble_eq_true rfl) (jw_M_mono h (fun r1 M1 h => ?_))
  refine jw_st (S' := [.int r1]) rfl ?_
  refine jw_aload_n (i := 2) d_L_law_580 rfl rfl ?_
  refine jw_aload_n (i := 0) d_L_law_581 rfl rfl ?_
  refine jw_iload_n (i := 3) d_L_law_582 rfl rfl ?_
  refine jw_iconst (v := 1) d_L_law_583 jc_i_1 ?_
  refine jw_iadd d_L_law_584 ?_
  obtain ⟨j3, hj3, h⟩ := h
  refine jw_sld2 d_L_law_585 hX hj3 ?_
  refine jw_aload_n (i := 0) d_L_law_586 rfl rfl ?_
  refine jw_iload_n (i := 3) d_L_law_587 rfl rfl ?_
  refine jw_iconst (v := 2) d_L_law_588 jc_i_2 ?_
  refine jw_iadd d_L_law_589 ?_
  obtain ⟨j4, hj4, h⟩ := h
  refine jw_sld2 d_L_law_590 hX hj4 ?_
  refine jw_callV (As := [.int (xs j3), .int (xs j4)]) (S := [.int r1]) d_L_law_591 jw_k41 jw_c_M jw_ml_L_81 jw_in_f_M_holds jw_se_f_M_holds ⟨Nat.le_of_ble_eq_true rfl, Nat.le_of_ble_eq_true rfl⟩ rfl rfl (Nat.le_of_ble_eq_true rfl) (jw_M_mono h (fun r2 M2 h => ?_))
  refine jw_st (S' := [.int r2, .int r1]) rfl ?_
  refine jw_icmp_eq (tgt := 734) d_L_law_594 (by decide) (fun hc => ?_) (fun hc => ?_)
  · have h := h.1 hc
    exact h
  · have h := h.2 hc
    refine jw_iconst (v := 0) d_L_law_597 jc_i_0 ?_
    exact jw_ireturn d_L_law_598 rfl h
set_option maxRecDepth 100000 in
set_option maxHeartbeats 4000000 in
theorem k_L_law_599 {l : Launch} {X : jw_X0} {G : jw_G} {A : Nat → Prop} {b n : Nat} {xs : Nat → Int32} (hX : jw_scr X A b n xs) {x3 : Int32} {M : jw_Mem} (h : (∃ j1 : Nat, (j1 < n ∧ n < 2147483648 ∧ (x3 + 1) = nI j1) ∧ (∃ j2 : Nat, (j2 < n ∧ n < 2147483648 ∧ (x3 + 2) = nI j2) ∧ jw_M l (jw_g G) A f_V_count [jw_a G 0, .int (xs j1), .int (xs j2)] M (fun r1 M1 => (∃ j3 : Nat, (j3 < n ∧ n < 2147483648 ∧ (x3 + 1) = nI j3) ∧ (∃ j4 : Nat, (j4 < n ∧ n < 2147483648 ∧ (x3 + 2) = nI j4) ∧ jw_M l (jw_g G) A f_M_count [jw_a G 41, .int (xs j3), .int (xs j4)] M1 (fun r2 M2 => ((r1 = r2 → jw_X l X (jw_g G) A f_L_law 734 [some (.ref b), some (jw_a G 0), some (jw_a G 41), some (.int x3)] [] M2) ∧ (¬ r1 = r2 → jw_R l X (jw_g G) A f_L_law 0 M2))))))))) : jw_X l X (jw_g G) A f_L_law 599 [some (.ref b), some (jw_a G 0), some (jw_a G 41), some (.int x3)] [] M := by
  refine jw_aload_n (i := 1) d_L_law_599 rfl rfl ?_
  refine jw_aload_n (i := 0) d_L_law_600 rfl rfl ?_
  refine jw_iload_n (i := 3) d_L_law_601 rfl rfl ?_
  refine jw_iconst (v := 1) d_L_law_602 jc_i_1 ?_
  refine jw_iadd d_L_law_603 ?_
  obtain ⟨j1, hj1, h⟩ := h
  refine jw_sld2 d_L_law_604 hX hj1 ?_
  refine jw_aload_n (i := 0) d_L_law_605 rfl rfl ?_
  refine jw_iload_n (i := 3) d_L_law_606 rfl rfl ?_
  refine jw_iconst (v := 2) d_L_law_607 jc_i_2 ?_
  refine jw_iadd d_L_law_608 ?_
  obtain ⟨j2, hj2, h⟩ := h
  refine jw_sld2 d_L_law_609 hX hj2 ?_
  refine jw_callV (As := [.int (xs j1), .int (xs j2)]) (S := []) d_L_law_610 jw_k0 jw_c_V jw_ml_L_82 jw_in_f_V_count jw_se_f_V_count ⟨Nat.le_of_ble_eq_true rfl, Nat.le_of_ble_eq_true rfl⟩ rfl rfl (Nat.le_of_ble_eq_true rfl) (jw_M_mono h (fun r1 M1 h => ?_))
  refine jw_st (S' := [.int r1]) rfl ?_
  refine jw_aload_n (i := 2) d_L_law_613 rfl rfl ?_
  refine jw_aload_n (i := 0) d_L_law_614 rfl rfl ?_
  refine jw_iload_n (i := 3) d_L_law_615 rfl rfl ?_
  refine jw_iconst (v := 1) d_L_law_616 jc_i_1 ?_
  refine jw_iadd d_L_law_617 ?_
  obtain ⟨j3, hj3, h⟩ := h
  refine jw_sld2 d_L_law_618 hX hj3 ?_
  refine jw_aload_n (i := 0) d_L_law_619 rfl rfl ?_
  refine jw_iload_n (i := 3) d_L_law_620 rfl rfl ?_
  refine jw_iconst (v := 2) d_L_law_621 jc_i_2 ?_
  refine jw_iadd d_L_law_622 ?_
  obtain ⟨j4, hj4, h⟩ := h
  refine jw_sld2 d_L_law_623 hX hj4 ?_
  refine jw_callV (As := [.int (xs j3), .int (xs j4)]) (S := [.int r1]) d_L_law_624 jw_k41 jw_c_M jw_ml_L_85 jw_in_f_M_count jw_se_f_M_count ⟨Nat.le_of_ble_eq_true rfl, Nat.le_of_ble_eq_true rfl⟩ rfl rfl (Nat.le_of_ble_eq_true rfl) (jw_M_mono h (fun r2 M2 h => ?_))
  refine jw_st (S' := [.int r2, .int r1]) rfl ?_
  refine jw_icmp_eq (tgt := 734) d_L_law_627 (by decide) (fun hc => ?_) (fun hc => ?_)
  · have h := h.1 hc
    exact h
  · have h := h.2 hc
    refine jw_iconst (v := 0) d_L_law_630 jc_i_0 ?_
    exact jw_ireturn d_L_law_631 rfl h
set_option maxRecDepth 100000 in
set_option maxHeartbeats 4000000 in
theorem k_L_law_632 {l : Launch} {X : jw_X0} {G : jw_G} {A : Nat → Prop} {b n : Nat} {xs : Nat → Int32} (hX : jw_scr X A b n xs) {x3 : Int32} {M : jw_Mem} (h : (∃ j1 : Nat, (j1 < n ∧ n < 2147483648 ∧ (x3 + 1) = nI j1) ∧ jw_M l (jw_g G) A f_V_hints [jw_a G 0, .int (xs j1)] M (fun r1 M1 => (∃ j2 : Nat, (j2 < n ∧ n < 2147483648 ∧ (x3 + 1) = nI j2) ∧ jw_M l (jw_g G) A f_M_hints [jw_a G 41, .int (xs j2)] M1 (fun r2 M2 => ((r1 = r2 → jw_X l X (jw_g G) A f_L_law 734 [some (.ref b), some (jw_a G 0), some (jw_a G 41), some (.int x3)] [] M2) ∧ (¬ r1 = r2 → jw_R l X (jw_g G) A f_L_law 0 M2))))))) : jw_X l X (jw_g G) A f_L_law 632 [some (.ref b), some (jw_a G 0), some (jw_a G 41), some (.int x3)] [] M := by
  refine jw_aload_n (i := 1) d_L_law_632 rfl rfl ?_
  refine jw_aload_n (i := 0) d_L_law_633 rfl rfl ?_
  refine jw_iload_n (i := 3) d_L_law_634 rfl rfl ?_
  refine jw_iconst (v := 1) d_L_law_635 jc_i_1 ?_
  refine jw_iadd d_L_law_636 ?_
  obtain ⟨j1, hj1, h⟩ := h
  refine jw_sld2 d_L_law_637 hX hj1 ?_
  refine jw_callV (As := [.int (xs j1)]) (S := []) d_L_law_638 jw_k0 jw_c_V jw_ml_L_86 jw_in_f_V_hints jw_se_f_V_hints ⟨Nat.le_of_ble_eq_true rfl, Nat.le_of_ble_eq_true rfl⟩ rfl rfl (Nat.le_of_ble_eq_true rfl) (jw_M_mono h (fun r1 M1 h => ?_))
  refine jw_st (S' := [.int r1]) rfl ?_
  refine jw_aload_n (i := 2) d_L_law_641 rfl rfl ?_
  refine jw_aload_n (i := 0) d_L_law_642 rfl rfl ?_
  refine jw_iload_n (i := 3) d_L_law_643 rfl rfl ?_
  refine jw_iconst (v := 1) d_L_law_644 jc_i_1 ?_
  refine jw_iadd d_L_law_645 ?_
  obtain ⟨j2, hj2, h⟩ := h
  refine jw_sld2 d_L_law_646 hX hj2 ?_
  refine jw_callV (As := [.int (xs j2)]) (S := [.int r1]) d_L_law_647 jw_k41 jw_c_M jw_ml_L_89 jw_in_f_M_hints jw_se_f_M_hints ⟨Nat.le_of_ble_eq_true rfl, Nat.le_of_ble_eq_true rfl⟩ rfl rfl (Nat.le_of_ble_eq_true rfl) (jw_M_mono h (fun r2 M2 h => ?_))
  refine jw_st (S' := [.int r2, .int r1]) rfl ?_
  refine jw_icmp_eq (tgt := 734) d_L_law_650 (by decide) (fun hc => ?_) (fun hc => ?_)
  · have h := h.1 hc
    exact h
  · have h := h.2 hc
    refine jw_iconst (v := 0) d_L_law_653 jc_i_0 ?_
    exact jw_ireturn d_L_law_654 rfl h
set_option maxRecDepth 100000 in
set_option maxHeartbeats 4000000 in
theorem k_L_law_655 {l : Launch} {X : jw_X0} {G : jw_G} {A : Nat → Prop} {b n : Nat} {xs : Nat → Int32} (hX : jw_scr X A b n xs) {x3 : Int32} {M : jw_Mem} (h : jw_M l (jw_g G) A f_V_versions [jw_a G 0] M (fun r1 M1 => jw_M l (jw_g G) A f_M_versions [jw_a G 41] M1 (fun r2 M2 => ((r1 = r2 → jw_X l X (jw_g G) A f_L_law 734 [some (.ref b), some (jw_a G 0), some (jw_a G 41), some (.int x3)] [] M2) ∧ (¬ r1 = r2 → jw_R l X (jw_g G) A f_L_law 0 M2))))) : jw_X l X (jw_g G) A f_L_law 655 [some (.ref b), some (jw_a G 0), some (jw_a G 41), some (.int x3)] [] M := by
  refine jw_aload_n (i := 1) d_L_law_655 rfl rfl ?_
  refine jw_callV (As := []) (S := []) d_L_law_656 jw_k0 jw_c_V jw_ml_L_90 jw_in_f_V_versions jw_se_f_V_versions ⟨Nat.le_of_ble_eq_true rfl, Nat.le_of_ble_eq_true rfl⟩ rfl rfl (Nat.le_of_ble_eq_true rfl) (jw_M_mono h (fun r1 M1 h => ?_))
  refine jw_st (S' := [.int r1]) rfl ?_
  refine jw_aload_n (i := 2) d_L_law_659 rfl rfl ?_
  refine jw_callV (As := []) (S := [.int r1]) d_L_law_660 jw_k41 jw_c_M jw_ml_L_93 jw_in_f_M_versions jw_se_f_M_versions ⟨Nat.le_of_ble_eq_true rfl, Nat.le_of_ble_eq_true rfl⟩ rfl rfl (Nat.le_of_ble_eq_true rfl) (jw_M_mono h (fun r2 M2 h => ?_))
  refine jw_st (S' := [.int r2, .int r1]) rfl ?_
  refine jw_icmp_eq (tgt := 734) d_L_law_663 (by decide) (fun hc => ?_) (fun hc => ?_)
  · have h := h.1 hc
    exact h
  · have h := h.2 hc
    refine jw_iconst (v := 0) d_L_law_666 jc_i_0 ?_
    exact jw_ireturn d_L_law_667 rfl h
set_option maxRecDepth 100000 in
set_option maxHeartbeats 4000000 in
theorem k_L_law_668 {l : Launch} {X : jw_X0} {G : jw_G} {A : Nat → Prop} {b n : Nat} {xs : Nat → Int32} (hX : jw_scr X A b n xs) {x3 : Int32} {M : jw_Mem} (h : (∃ j1 : Nat, (j1 < n ∧ n < 2147483648 ∧ (x3 + 1) = nI j1) ∧ (∃ j2 : Nat, (j2 < n ∧ n < 2147483648 ∧ (x3 + 2) = nI j2) ∧ jw_M l (jw_g G) A f_V_version [jw_a G 0, .int (xs j1), .int (xs j2)] M (fun r1 M1 => (∃ j3 : Nat, (j3 < n ∧ n < 2147483648 ∧ (x3 + 1) = nI j3) ∧ (∃ j4 : Nat, (j4 < n ∧ n < 2147483648 ∧ (x3 + 2) = nI j4) ∧ jw_M l (jw_g G) A f_M_version [jw_a G 41, .int (xs j3), .int (xs j4)] M1 (fun r2 M2 => ((r1 = r2 → jw_X l X (jw_g G) A f_L_law 734 [some (.ref b), some (jw_a G 0), some (jw_a G 41), some (.int x3)] [] M2) ∧ (¬ r1 = r2 → jw_R l X (jw_g G) A f_L_law 0 M2))))))))) : jw_X l X (jw_g G) A f_L_law 668 [some (.ref b), some (jw_a G 0), some (jw_a G 41), some (.int x3)] [] M := by
  refine jw_aload_n (i := 1) d_L_law_668 rfl rfl ?_
  refine jw_aload_n (i := 0) d_L_law_669 rfl rfl ?_
  refine jw_iload_n (i := 3) d_L_law_670 rfl rfl ?_
  refine jw_iconst (v := 1) d_L_law_671 jc_i_1 ?_
  refine jw_iadd d_L_law_672 ?_
  obtain ⟨j1, hj1, h⟩ := h
  refine jw_sld2 d_L_law_673 hX hj1 ?_
  refine jw_aload_n (i := 0) d_L_law_674 rfl rfl ?_
  refine jw_iload_n (i := 3) d_L_law_675 rfl rfl ?_
  refine jw_iconst (v := 2) d_L_law_676 jc_i_2 ?_
  refine jw_iadd d_L_law_677 ?_
  obtain ⟨j2, hj2, h⟩ := h
  refine jw_sld2 d_L_law_678 hX hj2 ?_
  refine jw_callV (As := [.int (xs j1), .int (xs j2)]) (S := []) d_L_law_679 jw_k0 jw_c_V jw_ml_L_94 jw_in_f_V_version jw_se_f_V_version ⟨Nat.le_of_ble_eq_true rfl, Nat.le_of_ble_eq_true rfl⟩ rfl rfl (Nat.le_of_ble_eq_true rfl) (jw_M_mono h (fun r1 M1 h => ?_))
  refine jw_st (S' := [.int r1]) rfl ?_
  refine jw_aload_n (i := 2) d_L_law_682 rfl rfl ?_
  refine jw_aload_n (i := 0) d_L_law_683 rfl rfl ?_
  refine jw_iload_n (i := 3) d_L_law_684 rfl rfl ?_
  refine jw_iconst (v := 1) d_L_law_685 jc_i_1 ?_
  refine jw_iadd d_L_law_686 ?_
  obtain ⟨j3, hj3, h⟩ := h
  refine jw_sld2 d_L_law_687 hX hj3 ?_
  refine jw_aload_n (i := 0) d_L_law_688 rfl rfl ?_
  refine jw_iload_n (i := 3) d_L_law_689 rfl rfl ?_
  refine jw_iconst (v := 2) d_L_law_690 jc_i_2 ?_
  refine jw_iadd d_L_law_691 ?_
  obtain ⟨j4, hj4, h⟩ := h
  refine jw_sld2 d_L_law_692 hX hj4 ?_
  refine jw_callV (As := [.int (xs j3), .int (xs j4)]) (S := [.int r1]) d_L_law_693 jw_k41 jw_c_M jw_ml_L_97 jw_in_f_M_version jw_se_f_M_version ⟨Nat.le_of_ble_eq_true rfl, Nat.le_of_ble_eq_true rfl⟩ rfl rfl (Nat.le_of_ble_eq_true rfl) (jw_M_mono h (fun r2 M2 h => ?_))
  refine jw_st (S' := [.int r2, .int r1]) rfl ?_
  refine jw_icmp_eq (tgt := 734) d_L_law_696 (by decide) (fun hc => ?_) (fun hc => ?_)
  · have h := h.1 hc
    exact h
  · have h := h.2 hc
    refine jw_iconst (v := 0) d_L_law_699 jc_i_0 ?_
    exact jw_ireturn d_L_law_700 rfl h
set_option maxRecDepth 100000 in
set_option maxHeartbeats 4000000 in
theorem k_L_law_701 {l : Launch} {X : jw_X0} {G : jw_G} {A : Nat → Prop} {b n : Nat} {xs : Nat → Int32} (hX : jw_scr X A b n xs) {x3 : Int32} {M : jw_Mem} (h : (∃ j1 : Nat, (j1 < n ∧ n < 2147483648 ∧ (x3 + 1) = nI j1) ∧ (∃ j2 : Nat, (j2 < n ∧ n < 2147483648 ∧ (x3 + 2) = nI j2) ∧ jw_M l (jw_g G) A f_V_context [jw_a G 0, .int (xs j1), .int (xs j2)] M (fun r1 M1 => (∃ j3 : Nat, (j3 < n ∧ n < 2147483648 ∧ (x3 + 1) = nI j3) ∧ (∃ j4 : Nat, (j4 < n ∧ n < 2147483648 ∧ (x3 + 2) = nI j4) ∧ jw_M l (jw_g G) A f_M_context [jw_a G 41, .int (xs j3), .int (xs j4)] M1 (fun r2 M2 => ((r1 = r2 → jw_X l X (jw_g G) A f_L_law 734 [some (.ref b), some (jw_a G 0), some (jw_a G 41), some (.int x3)] [] M2) ∧ (¬ r1 = r2 → jw_R l X (jw_g G) A f_L_law 0 M2))))))))) : jw_X l X (jw_g G) A f_L_law 701 [some (.ref b), some (jw_a G 0), some (jw_a G 41), some (.int x3)] [] M := by
  refine jw_aload_n (i := 1) d_L_law_701 rfl rfl ?_
  refine jw_aload_n (i := 0) d_L_law_702 rfl rfl ?_
  refine jw_iload_n (i := 3) d_L_law_703 rfl rfl ?_
  refine jw_iconst (v := 1) d_L_law_704 jc_i_1 ?_
  refine jw_iadd d_L_law_705 ?_
  obtain ⟨j1, hj1, h⟩ := h
  refine jw_sld2 d_L_law_706 hX hj1 ?_
  refine jw_aload_n (i := 0) d_L_law_707 rfl rfl ?_
  refine jw_iload_n (i := 3) d_L_law_708 rfl rfl ?_
  refine jw_iconst (v := 2) d_L_law_709 jc_i_2 ?_
  refine jw_iadd d_L_law_710 ?_
  obtain ⟨j2, hj2, h⟩ := h
  refine jw_sld2 d_L_law_711 hX hj2 ?_
  refine jw_callV (As := [.int (xs j1), .int (xs j2)]) (S := []) d_L_law_712 jw_k0 jw_c_V jw_ml_L_98 jw_in_f_V_context jw_se_f_V_context ⟨Nat.le_of_ble_eq_true rfl, Nat.le_of_ble_eq_true rfl⟩ rfl rfl (Nat.le_of_ble_eq_true rfl) (jw_M_mono h (fun r1 M1 h => ?_))
  refine jw_st (S' := [.int r1]) rfl ?_
  refine jw_aload_n (i := 2) d_L_law_715 rfl rfl ?_
  refine jw_aload_n (i := 0) d_L_law_716 rfl rfl ?_
  refine jw_iload_n (i := 3) d_L_law_717 rfl rfl ?_
  refine jw_iconst (v := 1) d_L_law_718 jc_i_1 ?_
  refine jw_iadd d_L_law_719 ?_
  obtain ⟨j3, hj3, h⟩ := h
  refine jw_sld2 d_L_law_720 hX hj3 ?_
  refine jw_aload_n (i := 0) d_L_law_721 rfl rfl ?_
  refine jw_iload_n (i := 3) d_L_law_722 rfl rfl ?_
  refine jw_iconst (v := 2) d_L_law_723 jc_i_2 ?_
  refine jw_iadd d_L_law_724 ?_
  obtain ⟨j4, hj4, h⟩ := h
  refine jw_sld2 d_L_law_725 hX hj4 ?_
  refine jw_callV (As := [.int (xs j3), .int (xs j4)]) (S := [.int r1]) d_L_law_726 jw_k41 jw_c_M jw_ml_L_101 jw_in_f_M_context jw_se_f_M_context ⟨Nat.le_of_ble_eq_true rfl, Nat.le_of_ble_eq_true rfl⟩ rfl rfl (Nat.le_of_ble_eq_true rfl) (jw_M_mono h (fun r2 M2 h => ?_))
  refine jw_st (S' := [.int r2, .int r1]) rfl ?_
  refine jw_icmp_eq (tgt := 734) d_L_law_729 (by decide) (fun hc => ?_) (fun hc => ?_)
  · have h := h.1 hc
    exact h
  · have h := h.2 hc
    refine jw_iconst (v := 0) d_L_law_732 jc_i_0 ?_
    exact jw_ireturn d_L_law_733 rfl h
set_option maxRecDepth 100000 in
set_option maxHeartbeats 4000000 in
theorem k_L_law_734 {l : Launch} {X : jw_X0} {G : jw_G} {A : Nat → Prop} {b n : Nat} {xs : Nat → Int32} (hX : jw_scr X A b n xs) {x3 : Int32} {M : jw_Mem} (h : jw_X l X (jw_g G) A f_L_law 48 [some (.ref b), some (jw_a G 0), some (jw_a G 41), some (.int (x3 + 5))] [] M) : jw_X l X (jw_g G) A f_L_law 734 [some (.ref b), some (jw_a G 0), some (jw_a G 41), some (.int x3)] [] M := by
  refine jw_iinc (d := 5) d_L_law_734 rfl jc_i_5 (Nat.le_of_ble_eq_true rfl) ?_
  refine jw_goto (tgt := 48) d_L_law_737 (by decide) ?_
  exact h
