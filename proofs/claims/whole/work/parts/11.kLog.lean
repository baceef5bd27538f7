set_option maxRecDepth 100000 in
set_option maxHeartbeats 4000000 in
theorem k_G_isMade_0 {l : Launch} {X : jw_X0} {G : jw_G} {A : Nat → Prop} {x1 : Int32} {M : jw_Mem} (h : ((x1 < 0 → jw_R l X (jw_g G) A f_G_isMade 0 M) ∧ (¬ x1 < 0 → (((M 4 4) ≤ x1 → jw_R l X (jw_g G) A f_G_isMade 0 M) ∧ (¬ (M 4 4) ≤ x1 → jw_R l X (jw_g G) A f_G_isMade 1 M))))) : jw_X l X (jw_g G) A f_G_isMade 0 [some (jw_a G 4), some (.int x1)] [] M := by
  refine jw_iload_n (i := 1) d_G_isMade_0 rfl rfl ?_
  refine jw_if_lt (tgt := 16) d_G_isMade_1 (by decide) (fun hc => ?_) (fun hc => ?_)
  · have h := h.1 hc
    refine jw_iconst (v := 0) d_G_isMade_16 jc_i_0 ?_
    exact jw_ireturn d_G_isMade_17 rfl h
  · have h := h.2 hc
    refine jw_iload_n (i := 1) d_G_isMade_4 rfl rfl ?_
    refine jw_aload_n (i := 0) d_G_isMade_5 rfl rfl ?_
    refine jw_get (j := 4) (v := .int (M 4 4)) d_G_isMade_6 jw_k4 jw_c_G jw_oc_G (Nat.le_of_ble_eq_true rfl) jw_fl_G_24 rfl rfl ?_
    refine jw_icmp_ge (tgt := 16) d_G_isMade_9 (by decide) (fun hc => ?_) (fun hc => ?_)
    · have h := h.1 hc
      refine jw_iconst (v := 0) d_G_isMade_16 jc_i_0 ?_
      exact jw_ireturn d_G_isMade_17 rfl h
    · have h := h.2 hc
      refine jw_iconst (v := 1) d_G_isMade_12 jc_i_1 ?_
      refine jw_goto (tgt := 17) d_G_isMade_13 (by decide) ?_
      exact jw_ireturn d_G_isMade_17 rfl h
set_option maxRecDepth 100000 in
theorem e_G_isMade {l : Launch} {G : jw_G} {A : Nat → Prop} {x1 : Int32} {M : jw_Mem} {Q : Int32 → jw_Mem → Prop} (h : ∀ X : jw_X0, (∀ r M', Q r M' → (r = 0 ∨ r = 1) → jw_R l X (jw_g G) A f_G_isMade r M') → ((x1 < 0 → jw_R l X (jw_g G) A f_G_isMade 0 M) ∧ (¬ x1 < 0 → (((M 4 4) ≤ x1 → jw_R l X (jw_g G) A f_G_isMade 0 M) ∧ (¬ (M 4 4) ≤ x1 → jw_R l X (jw_g G) A f_G_isMade 1 M))))) : jw_M l (jw_g G) A f_G_isMade [jw_a G 4, .int x1] M Q := by
  refine jw_M_of (by decide) (Nat.le_of_ble_eq_true rfl) (by intro v hv; simp at hv; rcases hv with rfl | rfl <;> rfl) (fun X hR => ?_)
  exact k_G_isMade_0  (h X (fun r M' q hb => hR r M' q (fun ty h0 => by cases h0; exact jw_nb hb)))

set_option maxRecDepth 100000 in
set_option maxHeartbeats 4000000 in
theorem k_G_clockCount_0 {l : Launch} {X : jw_X0} {G : jw_G} {A : Nat → Prop} {x1 : Int32} {x2 : Int32} {M : jw_Mem} (h : (∃ j1 : Nat, (j1 < 200 ∧ ((x1 * 5) + x2) = nI j1) ∧ jw_R l X (jw_g G) A f_G_clockCount (M 8 j1) M)) : jw_X l X (jw_g G) A f_G_clockCount 0 [some (jw_a G 4), some (.int x1), some (.int x2)] [] M := by
  refine jw_aload_n (i := 0) d_G_clockCount_0 rfl rfl ?_
  refine jw_get (j := 3) (v := jw_a G 8) d_G_clockCount_1 jw_k4 jw_c_G jw_oc_G (Nat.le_of_ble_eq_true rfl) jw_fl_G_21 rfl rfl ?_
  refine jw_iload_n (i := 1) d_G_clockCount_4 rfl rfl ?_
  refine jw_iconst (v := 5) d_G_clockCount_5 jc_i_5 ?_
  refine jw_imul d_G_clockCount_6 ?_
  refine jw_iload_n (i := 2) d_G_clockCount_7 rfl rfl ?_
  refine jw_iadd d_G_clockCount_8 ?_
  obtain ⟨j1, hj1, h⟩ := h
  refine jw_iald2 d_G_clockCount_9 jw_k8 (Nat.le_of_ble_eq_true rfl) hj1 ?_
  exact jw_ireturn d_G_clockCount_10 rfl h
set_option maxRecDepth 100000 in
theorem e_G_clockCount {l : Launch} {G : jw_G} {A : Nat → Prop} {x1 : Int32} {x2 : Int32} {M : jw_Mem} {Q : Int32 → jw_Mem → Prop} (h : ∀ X : jw_X0, (∀ r M', Q r M' → jw_R l X (jw_g G) A f_G_clockCount r M') → (∃ j1 : Nat, (j1 < 200 ∧ ((x1 * 5) + x2) = nI j1) ∧ jw_R l X (jw_g G) A f_G_clockCount (M 8 j1) M)) : jw_M l (jw_g G) A f_G_clockCount [jw_a G 4, .int x1, .int x2] M Q := by
  refine jw_M_of (by decide) (Nat.le_of_ble_eq_true rfl) (by intro v hv; simp at hv; rcases hv with rfl | rfl | rfl <;> rfl) (fun X hR => ?_)
  exact k_G_clockCount_0  (h X (fun r M' q => hR r M' q (fun ty h0 => by cases h0; rfl)))

set_option maxRecDepth 100000 in
set_option maxHeartbeats 4000000 in
theorem k_G_add_0 {l : Launch} {X : jw_X0} {G : jw_G} {A : Nat → Prop} {x1 : Int32} {x2 : Int32} {x3 : Int32} {q : Nat} (hq : jw_KT[q]? = some (1, 5, [])) {M : jw_Mem} (h : (∃ j1 : Nat, (j1 + 5 ≤ 200 ∧ ((M 4 4) * 5) = nI j1) ∧ jw_M l (jw_g G) A f_G_numberWritten [jw_a G 4, .int x3, .int x1] (jw_UA M 8 (va_cpy (M q) (M 8) 0 j1 5)) (fun r1 M1 => (∃ j2 : Nat, (j2 < 200 ∧ (((M 4 4) * 5) + x3) = nI j2) ∧ (∃ j3 : Nat, (j3 < 40 ∧ (M 4 4) = nI j3) ∧ (∃ j4 : Nat, (j4 < 40 ∧ (M 4 4) = nI j4) ∧ (∃ j5 : Nat, (j5 < 40 ∧ (M 4 4) = nI j5) ∧ jw_R l X (jw_g G) A f_G_add (M 4 4) (jw_U (jw_U (jw_U (jw_U (jw_U M1 8 j2 (1 + r1)) 5 j3 x1) 6 j4 x2) 7 j5 x3) 4 4 (((jw_U (jw_U (jw_U (jw_U M1 8 j2 (1 + r1)) 5 j3 x1) 6 j4 x2) 7 j5 x3) 4 4) + 1))))))))) : jw_X l X (jw_g G) A f_G_add 0 [some (jw_a G 4), some (.int x1), some (.int x2), some (.int x3), some (jw_a G q), none] [] M := by
  refine jw_aload_n (i := 0) d_G_add_0 rfl rfl ?_
  refine jw_get (j := 4) (v := .int (M 4 4)) d_G_add_1 jw_k4 jw_c_G jw_oc_G (Nat.le_of_ble_eq_true rfl) jw_fl_G_24 rfl rfl ?_
  refine jw_istore d_G_add_4 (Nat.le_of_ble_eq_true rfl) ?_
  refine jw_aload d_G_add_6 rfl ?_
  refine jw_iconst (v := 0) d_G_add_8 jc_i_0 ?_
  refine jw_aload_n (i := 0) d_G_add_9 rfl rfl ?_
  refine jw_get (j := 3) (v := jw_a G 8) d_G_add_10 jw_k4 jw_c_G jw_oc_G (Nat.le_of_ble_eq_true rfl) jw_fl_G_21 rfl rfl ?_
  refine jw_iload d_G_add_13 rfl ?_
  refine jw_iconst (v := 5) d_G_add_15 jc_i_5 ?_
  refine jw_imul d_G_add_16 ?_
  refine jw_iconst (v := 5) d_G_add_17 jc_i_5 ?_
  obtain ⟨j1, hj1, h⟩ := h
  refine jw_copy2 d_G_add_18 jw_ml_G_28 jw_w_cp2 jw_w_cp3 jw_w_cp4 hq jw_k8 (Nat.le_of_ble_eq_true rfl) hj1 ⟨Nat.le_of_ble_eq_true rfl, Nat.le_of_ble_eq_true rfl⟩ (Nat.le_of_ble_eq_true rfl) ?_
  refine jw_aload_n (i := 0) d_G_add_21 rfl rfl ?_
  refine jw_get (j := 3) (v := jw_a G 8) d_G_add_22 jw_k4 jw_c_G jw_oc_G (Nat.le_of_ble_eq_true rfl) jw_fl_G_21 rfl rfl ?_
  refine jw_iload d_G_add_25 rfl ?_
  refine jw_iconst (v := 5) d_G_add_27 jc_i_5 ?_
  refine jw_imul d_G_add_28 ?_
  refine jw_iload_n (i := 3) d_G_add_29 rfl rfl ?_
  refine jw_iadd d_G_add_30 ?_
  refine jw_iconst (v := 1) d_G_add_31 jc_i_1 ?_
  refine jw_aload_n (i := 0) d_G_add_32 rfl rfl ?_
  refine jw_iload_n (i := 3) d_G_add_33 rfl rfl ?_
  refine jw_iload_n (i := 1) d_G_add_34 rfl rfl ?_
  refine jw_callV (As := [.int x3, .int x1]) (S := [.int 1, .int (((M 4 4) * 5) + x3), jw_a G 8]) d_G_add_35 jw_k4 jw_c_G jw_ml_G_34 jw_in_f_G_numberWritten jw_se_f_G_numberWritten ⟨Nat.le_of_ble_eq_true rfl, Nat.le_of_ble_eq_true rfl⟩ rfl rfl (Nat.le_of_ble_eq_true rfl) (jw_M_mono h (fun r1 M1 h => ?_))
  refine jw_st (S' := [.int r1, .int 1, .int (((M 4 4) * 5) + x3), jw_a G 8]) rfl ?_
  refine jw_iadd d_G_add_38 ?_
  obtain ⟨j2, hj2, h⟩ := h
  refine jw_iast2 d_G_add_39 jw_k8 (Nat.le_of_ble_eq_true rfl) hj2 ?_
  refine jw_aload_n (i := 0) d_G_add_40 rfl rfl ?_
  refine jw_get (j := 0) (v := jw_a G 5) d_G_add_41 jw_k4 jw_c_G jw_oc_G (Nat.le_of_ble_eq_true rfl) jw_fl_G_9 rfl rfl ?_
  refine jw_iload d_G_add_44 rfl ?_
  refine jw_iload_n (i := 1) d_G_add_46 rfl rfl ?_
  obtain ⟨j3, hj3, h⟩ := h
  refine jw_iast2 d_G_add_47 jw_k5 (Nat.le_of_ble_eq_true rfl) hj3 ?_
  refine jw_aload_n (i := 0) d_G_add_48 rfl rfl ?_
  refine jw_get (j := 1) (v := jw_a G 6) d_G_add_49 jw_k4 jw_c_G jw_oc_G (Nat.le_of_ble_eq_true rfl) jw_fl_G_15 rfl rfl ?_
  refine jw_iload d_G_add_52 rfl ?_
  refine jw_iload_n (i := 2) d_G_add_54 rfl rfl ?_
  obtain ⟨j4, hj4, h⟩ := h
  refine jw_iast2 d_G_add_55 jw_k6 (Nat.le_of_ble_eq_true rfl) hj4 ?_
  refine jw_aload_n (i := 0) d_G_add_56 rfl rfl ?_
  refine jw_get (j := 2) (v := jw_a G 7) d_G_add_57 jw_k4 jw_c_G jw_oc_G (Nat.le_of_ble_eq_true rfl) jw_fl_G_18 rfl rfl ?_
  refine jw_iload d_G_add_60 rfl ?_
  refine jw_iload_n (i := 3) d_G_add_62 rfl rfl ?_
  obtain ⟨j5, hj5, h⟩ := h
  refine jw_iast2 d_G_add_63 jw_k7 (Nat.le_of_ble_eq_true rfl) hj5 ?_
  refine jw_aload_n (i := 0) d_G_add_64 rfl rfl ?_
  refine jw_dup d_G_add_65 rfl ?_
  refine jw_get (j := 4) (v := .int ((jw_U (jw_U (jw_U (jw_U M1 8 j2 (1 + r1)) 5 j3 x1) 6 j4 x2) 7 j5 x3) 4 4)) d_G_add_66 jw_k4 jw_c_G jw_oc_G (Nat.le_of_ble_eq_true rfl) jw_fl_G_24 rfl rfl ?_
  refine jw_iconst (v := 1) d_G_add_69 jc_i_1 ?_
  refine jw_iadd d_G_add_70 ?_
  refine jw_put (j := 4) d_G_add_71 jw_k4 jw_c_G jw_oc_G (Nat.le_of_ble_eq_true rfl) jw_fl_G_24 rfl rfl rfl rfl ?_
  refine jw_iload d_G_add_74 rfl ?_
  exact jw_ireturn d_G_add_76 rfl h
set_option maxRecDepth 100000 in
theorem e_G_add {l : Launch} {G : jw_G} {A : Nat → Prop} {x1 : Int32} {x2 : Int32} {x3 : Int32} {q : Nat} (hq : jw_KT[q]? = some (1, 5, [])) {M : jw_Mem} {Q : Int32 → jw_Mem → Prop} (h : ∀ X : jw_X0, (∀ r M', Q r M' → jw_R l X (jw_g G) A f_G_add r M') → (∃ j1 : Nat, (j1 + 5 ≤ 200 ∧ ((M 4 4) * 5) = nI j1) ∧ jw_M l (jw_g G) A f_G_numberWritten [jw_a G 4, .int x3, .int x1] (jw_UA M 8 (va_cpy (M q) (M 8) 0 j1 5)) (fun r1 M1 => (∃ j2 : Nat, (j2 < 200 ∧ (((M 4 4) * 5) + x3) = nI j2) ∧ (∃ j3 : Nat, (j3 < 40 ∧ (M 4 4) = nI j3) ∧ (∃ j4 : Nat, (j4 < 40 ∧ (M 4 4) = nI j4) ∧ (∃ j5 : Nat, (j5 < 40 ∧ (M 4 4) = nI j5) ∧ jw_R l X (jw_g G) A f_G_add (M 4 4) (jw_U (jw_U (jw_U (jw_U (jw_U M1 8 j2 (1 + r1)) 5 j3 x1) 6 j4 x2) 7 j5 x3) 4 4 (((jw_U (jw_U (jw_U (jw_U M1 8 j2 (1 + r1)) 5 j3 x1) 6 j4 x2) 7 j5 x3) 4 4) + 1))))))))) : jw_M l (jw_g G) A f_G_add [jw_a G 4, .int x1, .int x2, .int x3, jw_a G q] M Q := by
  refine jw_M_of (by decide) (Nat.le_of_ble_eq_true rfl) (by intro v hv; simp at hv; rcases hv with rfl | rfl | rfl | rfl | rfl <;> rfl) (fun X hR => ?_)
  exact k_G_add_0 hq (h X (fun r M' q => hR r M' q (fun ty h0 => by cases h0; rfl)))
set_option maxRecDepth 100000 in
set_option maxHeartbeats 4000000 in
theorem k_G_adds_0 {l : Launch} {X : jw_X0} {G : jw_G} {A : Nat → Prop} {x1 : Int32} {x2 : Int32} {x3 : Int32} {M : jw_Mem} (h : (∃ j1 : Nat, (j1 + 5 ≤ 200 ∧ ((M 4 4) * 5) = nI j1) ∧ jw_M l (jw_g G) A f_G_numberWritten [jw_a G 4, .int x3, .int x1] (jw_UA M 8 (va_cpy (fun _ => 0) (M 8) 0 j1 5)) (fun r1 M1 => (∃ j2 : Nat, (j2 < 200 ∧ (((M 4 4) * 5) + x3) = nI j2) ∧ (∃ j3 : Nat, (j3 < 40 ∧ (M 4 4) = nI j3) ∧ (∃ j4 : Nat, (j4 < 40 ∧ (M 4 4) = nI j4) ∧ (∃ j5 : Nat, (j5 < 40 ∧ (M 4 4) = nI j5) ∧ jw_R l X (jw_g G) A f_G_add (M 4 4) (jw_U (jw_U (jw_U (jw_U (jw_U M1 8 j2 (1 + r1)) 5 j3 x1) 6 j4 x2) 7 j5 x3) 4 4 (((jw_U (jw_U (jw_U (jw_U M1 8 j2 (1 + r1)) 5 j3 x1) 6 j4 x2) 7 j5 x3) 4 4) + 1))))))))) : jw_X l X (jw_g G) A f_G_add 0 [some (jw_a G 4), some (.int x1), some (.int x2), some (.int x3), some (.ref G.2.2.2), none] [] M := by
  refine jw_aload_n (i := 0) d_G_add_0 rfl rfl ?_
  refine jw_get (j := 4) (v := .int (M 4 4)) d_G_add_1 jw_k4 jw_c_G jw_oc_G (Nat.le_of_ble_eq_true rfl) jw_fl_G_24 rfl rfl ?_
  refine jw_istore d_G_add_4 (Nat.le_of_ble_eq_true rfl) ?_
  refine jw_aload d_G_add_6 rfl ?_
  refine jw_iconst (v := 0) d_G_add_8 jc_i_0 ?_
  refine jw_aload_n (i := 0) d_G_add_9 rfl rfl ?_
  refine jw_get (j := 3) (v := jw_a G 8) d_G_add_10 jw_k4 jw_c_G jw_oc_G (Nat.le_of_ble_eq_true rfl) jw_fl_G_21 rfl rfl ?_
  refine jw_iload d_G_add_13 rfl ?_
  refine jw_iconst (v := 5) d_G_add_15 jc_i_5 ?_
  refine jw_imul d_G_add_16 ?_
  refine jw_iconst (v := 5) d_G_add_17 jc_i_5 ?_
  obtain ⟨j1, hj1, h⟩ := h
  refine jw_copyZ2 d_G_add_18 jw_ml_G_28 jw_w_cp2 jw_w_cp3 jw_w_cp4 rfl jw_k8 (Nat.le_of_ble_eq_true rfl) hj1 ⟨Nat.le_of_ble_eq_true rfl, Nat.le_of_ble_eq_true rfl⟩ (Nat.le_of_ble_eq_true rfl) ?_
  refine jw_aload_n (i := 0) d_G_add_21 rfl rfl ?_
  refine jw_get (j := 3) (v := jw_a G 8) d_G_add_22 jw_k4 jw_c_G jw_oc_G (Nat.le_of_ble_eq_true rfl) jw_fl_G_21 rfl rfl ?_
  refine jw_iload d_G_add_25 rfl ?_
  refine jw_iconst (v := 5) d_G_add_27 jc_i_5 ?_
  refine jw_imul d_G_add_28 ?_
  refine jw_iload_n (i := 3) d_G_add_29 rfl rfl ?_
  refine jw_iadd d_G_add_30 ?_
  refine jw_iconst (v := 1) d_G_add_31 jc_i_1 ?_
  refine jw_aload_n (i := 0) d_G_add_32 rfl rfl ?_
  refine jw_iload_n (i := 3) d_G_add_33 rfl rfl ?_
  refine jw_iload_n (i := 1) d_G_add_34 rfl rfl ?_
  refine jw_callV (As := [.int x3, .int x1]) (S := [.int 1, .int (((M 4 4) * 5) + x3), jw_a G 8]) d_G_add_35 jw_k4 jw_c_G jw_ml_G_34 jw_in_f_G_numberWritten jw_se_f_G_numberWritten ⟨Nat.le_of_ble_eq_true rfl, Nat.le_of_ble_eq_true rfl⟩ rfl rfl (Nat.le_of_ble_eq_true rfl) (jw_M_mono h (fun r1 M1 h => ?_))
  refine jw_st (S' := [.int r1, .int 1, .int (((M 4 4) * 5) + x3), jw_a G 8]) rfl ?_
  refine jw_iadd d_G_add_38 ?_
  obtain ⟨j2, hj2, h⟩ := h
  refine jw_iast2 d_G_add_39 jw_k8 (Nat.le_of_ble_eq_true rfl) hj2 ?_
  refine jw_aload_n (i := 0) d_G_add_40 rfl rfl ?_
  refine jw_get (j := 0) (v := jw_a G 5) d_G_add_41 jw_k4 jw_c_G jw_oc_G (Nat.le_of_ble_eq_true rfl) jw_fl_G_9 rfl rfl ?_
  refine jw_iload d_G_add_44 rfl ?_
  refine jw_iload_n (i := 1) d_G_add_46 rfl rfl ?_
  obtain ⟨j3, hj3, h⟩ := h
  refine jw_iast2 d_G_add_47 jw_k5 (Nat.le_of_ble_eq_true rfl) hj3 ?_
  refine jw_aload_n (i := 0) d_G_add_48 rfl rfl ?_
  refine jw_get (j := 1) (v := jw_a G 6) d_G_add_49 jw_k4 jw_c_G jw_oc_G (Nat.le_of_ble_eq_true rfl) jw_fl_G_15 rfl rfl ?_
  refine jw_iload d_G_add_52 rfl ?_
  refine jw_iload_n (i := 2) d_G_add_54 rfl rfl ?_
  obtain ⟨j4, hj4, h⟩ := h
  refine jw_iast2 d_G_add_55 jw_k6 (Nat.le_of_ble_eq_true rfl) hj4 ?_
  refine jw_aload_n (i := 0) d_G_add_56 rfl rfl ?_
  refine jw_get (j := 2) (v := jw_a G 7) d_G_add_57 jw_k4 jw_c_G jw_oc_G (Nat.le_of_ble_eq_true rfl) jw_fl_G_18 rfl rfl ?_
  refine jw_iload d_G_add_60 rfl ?_
  refine jw_iload_n (i := 3) d_G_add_62 rfl rfl ?_
  obtain ⟨j5, hj5, h⟩ := h
  refine jw_iast2 d_G_add_63 jw_k7 (Nat.le_of_ble_eq_true rfl) hj5 ?_
  refine jw_aload_n (i := 0) d_G_add_64 rfl rfl ?_
  refine jw_dup d_G_add_65 rfl ?_
  refine jw_get (j := 4) (v := .int ((jw_U (jw_U (jw_U (jw_U M1 8 j2 (1 + r1)) 5 j3 x1) 6 j4 x2) 7 j5 x3) 4 4)) d_G_add_66 jw_k4 jw_c_G jw_oc_G (Nat.le_of_ble_eq_true rfl) jw_fl_G_24 rfl rfl ?_
  refine jw_iconst (v := 1) d_G_add_69 jc_i_1 ?_
  refine jw_iadd d_G_add_70 ?_
  refine jw_put (j := 4) d_G_add_71 jw_k4 jw_c_G jw_oc_G (Nat.le_of_ble_eq_true rfl) jw_fl_G_24 rfl rfl rfl rfl ?_
  refine jw_iload d_G_add_74 rfl ?_
  exact jw_ireturn d_G_add_76 rfl h
set_option maxRecDepth 100000 in
theorem e_G_adds {l : Launch} {G : jw_G} {A : Nat → Prop} {x1 : Int32} {x2 : Int32} {x3 : Int32} {M : jw_Mem} {Q : Int32 → jw_Mem → Prop} (h : ∀ X : jw_X0, (∀ r M', Q r M' → jw_R l X (jw_g G) A f_G_add r M') → (∃ j1 : Nat, (j1 + 5 ≤ 200 ∧ ((M 4 4) * 5) = nI j1) ∧ jw_M l (jw_g G) A f_G_numberWritten [jw_a G 4, .int x3, .int x1] (jw_UA M 8 (va_cpy (fun _ => 0) (M 8) 0 j1 5)) (fun r1 M1 => (∃ j2 : Nat, (j2 < 200 ∧ (((M 4 4) * 5) + x3) = nI j2) ∧ (∃ j3 : Nat, (j3 < 40 ∧ (M 4 4) = nI j3) ∧ (∃ j4 : Nat, (j4 < 40 ∧ (M 4 4) = nI j4) ∧ (∃ j5 : Nat, (j5 < 40 ∧ (M 4 4) = nI j5) ∧ jw_R l X (jw_g G) A f_G_add (M 4 4) (jw_U (jw_U (jw_U (jw_U (jw_U M1 8 j2 (1 + r1)) 5 j3 x1) 6 j4 x2) 7 j5 x3) 4 4 (((jw_U (jw_U (jw_U (jw_U M1 8 j2 (1 + r1)) 5 j3 x1) 6 j4 x2) 7 j5 x3) 4 4) + 1))))))))) : jw_M l (jw_g G) A f_G_add [jw_a G 4, .int x1, .int x2, .int x3, .ref G.2.2.2] M Q := by
  refine jw_M_of (by decide) (Nat.le_of_ble_eq_true rfl) (by intro v hv; simp at hv; rcases hv with rfl | rfl | rfl | rfl | rfl <;> rfl) (fun X hR => ?_)
  exact k_G_adds_0  (h X (fun r M' q => hR r M' q (fun ty h0 => by cases h0; rfl)))

set_option maxRecDepth 100000 in
set_option maxHeartbeats 4000000 in
theorem k_G_numberWritten_0 {l : Launch} {X : jw_X0} {G : jw_G} {A : Nat → Prop} {x1 : Int32} {x2 : Int32} {M : jw_Mem} (h : jw_X l X (jw_g G) A f_G_numberWritten 5 [some (jw_a G 4), some (.int x1), some (.int x2), some (.int 0), some (.int 0)] [] M) : jw_X l X (jw_g G) A f_G_numberWritten 0 [some (jw_a G 4), some (.int x1), some (.int x2), none, none] [] M := by
  refine jw_iconst (v := 0) d_G_numberWritten_0 jc_i_0 ?_
  refine jw_istore_n (i := 3) d_G_numberWritten_1 rfl (Nat.le_of_ble_eq_true rfl) ?_
  refine jw_iconst (v := 0) d_G_numberWritten_2 jc_i_0 ?_
  refine jw_istore d_G_numberWritten_3 (Nat.le_of_ble_eq_true rfl) ?_
  exact h
set_option maxRecDepth 100000 in
set_option maxHeartbeats 4000000 in
theorem k_G_numberWritten_5 {l : Launch} {X : jw_X0} {G : jw_G} {A : Nat → Prop} {x1 x2 x3 x4 : Int32} {M : jw_Mem} (h : (((M 4 4) ≤ x4 → jw_R l X (jw_g G) A f_G_numberWritten x3 M) ∧ (¬ (M 4 4) ≤ x4 → (∃ j1 : Nat, (j1 < 40 ∧ x4 = nI j1) ∧ ((¬ (M 7 j1) = x1 → jw_X l X (jw_g G) A f_G_numberWritten 5 [some (jw_a G 4), some (.int x1), some (.int x2), some (.int x3), some (.int (x4 + 1))] [] M) ∧ ((M 7 j1) = x1 → (∃ j2 : Nat, (j2 < 40 ∧ x4 = nI j2) ∧ ((¬ (M 5 j2) = x2 → jw_X l X (jw_g G) A f_G_numberWritten 5 [some (jw_a G 4), some (.int x1), some (.int x2), some (.int x3), some (.int (x4 + 1))] [] M) ∧ ((M 5 j2) = x2 → jw_X l X (jw_g G) A f_G_numberWritten 5 [some (jw_a G 4), some (.int x1), some (.int x2), some (.int (x3 + 1)), some (.int (x4 + 1))] [] M))))))))) : jw_X l X (jw_g G) A f_G_numberWritten 5 [some (jw_a G 4), some (.int x1), some (.int x2), some (.int x3), some (.int x4)] [] M := by
  refine jw_iload d_G_numberWritten_5 rfl ?_
  refine jw_aload_n (i := 0) d_G_numberWritten_7 rfl rfl ?_
  refine jw_get (j := 4) (v := .int (M 4 4)) d_G_numberWritten_8 jw_k4 jw_c_G jw_oc_G (Nat.le_of_ble_eq_true rfl) jw_fl_G_24 rfl rfl ?_
  refine jw_icmp_ge (tgt := 45) d_G_numberWritten_11 (by decide) (fun hc => ?_) (fun hc => ?_)
  · have h := h.1 hc
    refine jw_iload_n (i := 3) d_G_numberWritten_45 rfl rfl ?_
    exact jw_ireturn d_G_numberWritten_46 rfl h
  · have h := h.2 hc
    refine jw_aload_n (i := 0) d_G_numberWritten_14 rfl rfl ?_
    refine jw_get (j := 2) (v := jw_a G 7) d_G_numberWritten_15 jw_k4 jw_c_G jw_oc_G (Nat.le_of_ble_eq_true rfl) jw_fl_G_18 rfl rfl ?_
    refine jw_iload d_G_numberWritten_18 rfl ?_
    obtain ⟨j1, hj1, h⟩ := h
    refine jw_iald2 d_G_numberWritten_20 jw_k7 (Nat.le_of_ble_eq_true rfl) hj1 ?_
    refine jw_iload_n (i := 1) d_G_numberWritten_21 rfl rfl ?_
    refine jw_icmp_ne (tgt := 39) d_G_numberWritten_22 (by decide) (fun hc => ?_) (fun hc => ?_)
    · have h := h.1 hc
      refine jw_iinc (d := 1) d_G_numberWritten_39 rfl jc_i_1 (Nat.le_of_ble_eq_true rfl) ?_
      refine jw_goto (tgt := 5) d_G_numberWritten_42 (by decide) ?_
      exact h
    · have h := h.2 hc
      refine jw_aload_n (i := 0) d_G_numberWritten_25 rfl rfl ?_
      refine jw_get (j := 0) (v := jw_a G 5) d_G_numberWritten_26 jw_k4 jw_c_G jw_oc_G (Nat.le_of_ble_eq_true rfl) jw_fl_G_9 rfl rfl ?_
      refine jw_iload d_G_numberWritten_29 rfl ?_
      obtain ⟨j2, hj2, h⟩ := h
      refine jw_iald2 d_G_numberWritten_31 jw_k5 (Nat.le_of_ble_eq_true rfl) hj2 ?_
      refine jw_iload_n (i := 2) d_G_numberWritten_32 rfl rfl ?_
      refine jw_icmp_ne (tgt := 39) d_G_numberWritten_33 (by decide) (fun hc => ?_) (fun hc => ?_)
      · have h := h.1 hc
        refine jw_iinc (d := 1) d_G_numberWritten_39 rfl jc_i_1 (Nat.le_of_ble_eq_true rfl) ?_
        refine jw_goto (tgt := 5) d_G_numberWritten_42 (by decide) ?_
        exact h
      · have h := h.2 hc
        refine jw_iinc (d := 1) d_G_numberWritten_36 rfl jc_i_1 (Nat.le_of_ble_eq_true rfl) ?_
        refine jw_iinc (d := 1) d_G_numberWritten_39 rfl jc_i_1 (Nat.le_of_ble_eq_true rfl) ?_
        refine jw_goto (tgt := 5) d_G_numberWritten_42 (by decide) ?_
        exact h
set_option maxRecDepth 100000 in
theorem e_G_numberWritten {l : Launch} {G : jw_G} {A : Nat → Prop} {x1 : Int32} {x2 : Int32} {M : jw_Mem} {Q : Int32 → jw_Mem → Prop} (h : ∀ X : jw_X0, (∀ r M', Q r M' → jw_R l X (jw_g G) A f_G_numberWritten r M') → jw_X l X (jw_g G) A f_G_numberWritten 5 [some (jw_a G 4), some (.int x1), some (.int x2), some (.int 0), some (.int 0)] [] M) : jw_M l (jw_g G) A f_G_numberWritten [jw_a G 4, .int x1, .int x2] M Q := by
  refine jw_M_of (by decide) (Nat.le_of_ble_eq_true rfl) (by intro v hv; simp at hv; rcases hv with rfl | rfl | rfl <;> rfl) (fun X hR => ?_)
  exact k_G_numberWritten_0  (h X (fun r M' q => hR r M' q (fun ty h0 => by cases h0; rfl)))

set_option maxRecDepth 100000 in
set_option maxHeartbeats 4000000 in
theorem k_G_isAtOrBelow_0 {l : Launch} {X : jw_X0} {G : jw_G} {A : Nat → Prop} {x1 : Int32} {x2 : Int32} {M : jw_Mem} (h : jw_X l X (jw_g G) A f_G_isAtOrBelow 2 [some (jw_a G 4), some (.int x1), some (.int x2), some (.int 0)] [] M) : jw_X l X (jw_g G) A f_G_isAtOrBelow 0 [some (jw_a G 4), some (.int x1), some (.int x2), none] [] M := by
  refine jw_iconst (v := 0) d_G_isAtOrBelow_0 jc_i_0 ?_
  refine jw_istore_n (i := 3) d_G_isAtOrBelow_1 rfl (Nat.le_of_ble_eq_true rfl) ?_
  exact h
set_option maxRecDepth 100000 in
set_option maxHeartbeats 4000000 in
theorem k_G_isAtOrBelow_2 {l : Launch} {X : jw_X0} {G : jw_G} {A : Nat → Prop} {x1 x2 x3 : Int32} {M : jw_Mem} (h : ((5 ≤ x3 → jw_R l X (jw_g G) A f_G_isAtOrBelow 1 M) ∧ (¬ 5 ≤ x3 → jw_M l (jw_g G) A f_G_clockCount [jw_a G 4, .int x1, .int x3] M (fun r1 M1 => jw_M l (jw_g G) A f_G_clockCount [jw_a G 4, .int x2, .int x3] M1 (fun r2 M2 => ((r1 ≤ r2 → jw_X l X (jw_g G) A f_G_isAtOrBelow 2 [some (jw_a G 4), some (.int x1), some (.int x2), some (.int (x3 + 1))] [] M2) ∧ (¬ r1 ≤ r2 → jw_R l X (jw_g G) A f_G_isAtOrBelow 0 M2))))))) : jw_X l X (jw_g G) A f_G_isAtOrBelow 2 [some (jw_a G 4), some (.int x1), some (.int x2), some (.int x3)] [] M := by
  refine jw_iload_n (i := 3) d_G_isAtOrBelow_2 rfl rfl ?_
  refine jw_iconst (v := 5) d_G_isAtOrBelow_3 jc_i_5 ?_
  refine jw_icmp_ge (tgt := 30) d_G_isAtOrBelow_4 (by decide) (fun hc => ?_) (fun hc => ?_)
  · have h := h.1 hc
    refine jw_iconst (v := 1) d_G_isAtOrBelow_30 jc_i_1 ?_
    exact jw_ireturn d_G_isAtOrBelow_31 rfl h
  · have h := h.2 hc
    refine jw_aload_n (i := 0) d_G_isAtOrBelow_7 rfl rfl ?_
    refine jw_iload_n (i := 1) d_G_isAtOrBelow_8 rfl rfl ?_
    refine jw_iload_n (i := 3) d_G_isAtOrBelow_9 rfl rfl ?_
    refine jw_callV (As := [.int x1, .int x3]) (S := []) d_G_isAtOrBelow_10 jw_k4 jw_c_G jw_ml_G_38 jw_in_f_G_clockCount jw_se_f_G_clockCount ⟨Nat.le_of_ble_eq_true rfl, Nat.le_of_ble_eq_true rfl⟩ rfl rfl (Nat.le_of_ble_eq_true rfl) (jw_M_mono h (fun r1 M1 h => ?_))
    refine jw_st (S' := [.int r1]) rfl ?_
    refine jw_aload_n (i := 0) d_G_isAtOrBelow_13 rfl rfl ?_
    refine jw_iload_n (i := 2) d_G_isAtOrBelow_14 rfl rfl ?_
    refine jw_iload_n (i := 3) d_G_isAtOrBelow_15 rfl rfl ?_
    refine jw_callV (As := [.int x2, .int x3]) (S := [.int r1]) d_G_isAtOrBelow_16 jw_k4 jw_c_G jw_ml_G_38 jw_in_f_G_clockCount jw_se_f_G_clockCount ⟨Nat.le_of_ble_eq_true rfl, Nat.le_of_ble_eq_true rfl⟩ rfl rfl (Nat.le_of_ble_eq_true rfl) (jw_M_mono h (fun r2 M2 h => ?_))
    refine jw_st (S' := [.int r2, .int r1]) rfl ?_
    refine jw_icmp_le (tgt := 24) d_G_isAtOrBelow_19 (by decide) (fun hc => ?_) (fun hc => ?_)
    · have h := h.1 hc
      refine jw_iinc (d := 1) d_G_isAtOrBelow_24 rfl jc_i_1 (Nat.le_of_ble_eq_true rfl) ?_
      refine jw_goto (tgt := 2) d_G_isAtOrBelow_27 (by decide) ?_
      exact h
    · have h := h.2 hc
      refine jw_iconst (v := 0) d_G_isAtOrBelow_22 jc_i_0 ?_
      exact jw_ireturn d_G_isAtOrBelow_23 rfl h
set_option maxRecDepth 100000 in
theorem e_G_isAtOrBelow {l : Launch} {G : jw_G} {A : Nat → Prop} {x1 : Int32} {x2 : Int32} {M : jw_Mem} {Q : Int32 → jw_Mem → Prop} (h : ∀ X : jw_X0, (∀ r M', Q r M' → (r = 0 ∨ r = 1) → jw_R l X (jw_g G) A f_G_isAtOrBelow r M') → jw_X l X (jw_g G) A f_G_isAtOrBelow 2 [some (jw_a G 4), some (.int x1), some (.int x2), some (.int 0)] [] M) : jw_M l (jw_g G) A f_G_isAtOrBelow [jw_a G 4, .int x1, .int x2] M Q := by
  refine jw_M_of (by decide) (Nat.le_of_ble_eq_true rfl) (by intro v hv; simp at hv; rcases hv with rfl | rfl | rfl <;> rfl) (fun X hR => ?_)
  exact k_G_isAtOrBelow_0  (h X (fun r M' q hb => hR r M' q (fun ty h0 => by cases h0; exact jw_nb hb)))
