set_option maxRecDepth 100000 in
set_option maxHeartbeats 4000000 in
theorem k_C_isEmpty_0 {l : Launch} {X : jw_X0} {G : jw_G} {A : Nat → Prop} {a : Nat} (ha : a < 4) {M : jw_Mem} (h : ((¬ (M (26 + 2 * a) 1) = (-1) → jw_R l X (jw_g G) A f_C_isEmpty 0 M) ∧ ((M (26 + 2 * a) 1) = (-1) → jw_R l X (jw_g G) A f_C_isEmpty 1 M))) : jw_X l X (jw_g G) A f_C_isEmpty 0 [some (jw_a G (26 + 2 * a))] [] M := by
  refine jw_aload_n (i := 0) d_C_isEmpty_0 rfl rfl ?_
  refine jw_get (j := 1) (v := .int (M (26 + 2 * a) 1)) d_C_isEmpty_1 (jw_kC ha) jw_c_C jw_oc_C (Nat.le_of_ble_eq_true rfl) jw_fl_C_15 rfl rfl ?_
  refine jw_iconst (v := (-1)) d_C_isEmpty_4 jc_i_m1 ?_
  refine jw_icmp_ne (tgt := 12) d_C_isEmpty_5 (by decide) (fun hc => ?_) (fun hc => ?_)
  · have h := h.1 hc
    refine jw_iconst (v := 0) d_C_isEmpty_12 jc_i_0 ?_
    exact jw_ireturn d_C_isEmpty_13 rfl h
  · have h := h.2 hc
    refine jw_iconst (v := 1) d_C_isEmpty_8 jc_i_1 ?_
    refine jw_goto (tgt := 13) d_C_isEmpty_9 (by decide) ?_
    exact jw_ireturn d_C_isEmpty_13 rfl h
set_option maxRecDepth 100000 in
theorem e_C_isEmpty {l : Launch} {G : jw_G} {A : Nat → Prop} {a : Nat} (ha : a < 4) {M : jw_Mem} {Q : Int32 → jw_Mem → Prop} (h : ∀ X : jw_X0, (∀ r M', Q r M' → (r = 0 ∨ r = 1) → jw_R l X (jw_g G) A f_C_isEmpty r M') → ((¬ (M (26 + 2 * a) 1) = (-1) → jw_R l X (jw_g G) A f_C_isEmpty 0 M) ∧ ((M (26 + 2 * a) 1) = (-1) → jw_R l X (jw_g G) A f_C_isEmpty 1 M))) : jw_M l (jw_g G) A f_C_isEmpty [jw_a G (26 + 2 * a)] M Q := by
  refine jw_M_of (by decide) (Nat.le_of_ble_eq_true rfl) (by intro v hv; simp at hv; rcases hv with rfl <;> rfl) (fun X hR => ?_)
  exact k_C_isEmpty_0 ha (h X (fun r M' q hb => hR r M' q (fun ty h0 => by cases h0; exact jw_nb hb)))

set_option maxRecDepth 100000 in
set_option maxHeartbeats 4000000 in
theorem k_C_learn_0 {l : Launch} {X : jw_X0} {G : jw_G} {A : Nat → Prop} {a : Nat} (ha : a < 4) {x1 : Int32} {q : Nat} (hq : jw_KT[q]? = some (2, 40, [])) {M : jw_Mem} (h : jw_M l (jw_g G) A f_J_fill [jw_a G (27 + 2 * a), .int 0] (jw_U M (26 + 2 * a) 1 x1) (fun _ M1 => jw_X l X (jw_g G) A f_C_learn 16 [some (jw_a G (26 + 2 * a)), some (.int x1), some (jw_a G q), some (jw_a G 4), some (.int 0)] [] M1)) : jw_X l X (jw_g G) A f_C_learn 0 [some (jw_a G (26 + 2 * a)), some (.int x1), some (jw_a G q), some (jw_a G 4), none] [] M := by
  refine jw_aload_n (i := 0) d_C_learn_0 rfl rfl ?_
  refine jw_iload_n (i := 1) d_C_learn_1 rfl rfl ?_
  refine jw_put (j := 1) d_C_learn_2 (jw_kC ha) jw_c_C jw_oc_C (Nat.le_of_ble_eq_true rfl) jw_fl_C_15 rfl rfl rfl rfl ?_
  refine jw_aload_n (i := 0) d_C_learn_5 rfl rfl ?_
  refine jw_get (j := 0) (v := jw_a G (27 + 2 * a)) d_C_learn_6 (jw_kC ha) jw_c_C jw_oc_C (Nat.le_of_ble_eq_true rfl) jw_fl_C_9 rfl rfl ?_
  refine jw_iconst (v := 0) d_C_learn_9 jc_i_0 ?_
  refine jw_callS (As := [jw_a G (27 + 2 * a), .int 0]) (S := []) d_C_learn_10 jw_ml_C_19 jw_st_f_J_fill ⟨Nat.le_of_ble_eq_true rfl, Nat.le_of_ble_eq_true rfl⟩ rfl rfl (Nat.le_of_ble_eq_true rfl) (jw_M_mono h (fun r1 M1 h => ?_))
  refine jw_st (S' := []) rfl ?_
  refine jw_iconst (v := 0) d_C_learn_13 jc_i_0 ?_
  refine jw_istore d_C_learn_14 (Nat.le_of_ble_eq_true rfl) ?_
  exact h
set_option maxRecDepth 100000 in
set_option maxHeartbeats 4000000 in
theorem k_C_learn_16 {l : Launch} {X : jw_X0} {G : jw_G} {A : Nat → Prop} {a : Nat} (ha : a < 4) {q : Nat} (hq : jw_KT[q]? = some (2, 40, [])) {x1 x4 : Int32} {M : jw_Mem} (h : (((M 4 4) ≤ x4 → jw_R l X (jw_g G) A f_C_learn 0 M) ∧ (¬ (M 4 4) ≤ x4 → (∃ j1 : Nat, (j1 < 40 ∧ x4 = nI j1) ∧ (((M q j1) = 0 → jw_X l X (jw_g G) A f_C_learn 16 [some (jw_a G (26 + 2 * a)), some (.int x1), some (jw_a G q), some (jw_a G 4), some (.int (x4 + 1))] [] M) ∧ (¬ (M q j1) = 0 → jw_M l (jw_g G) A f_C_rise [jw_a G (26 + 2 * a), .int x4, jw_a G 4] M (fun _ M1 => jw_X l X (jw_g G) A f_C_learn 16 [some (jw_a G (26 + 2 * a)), some (.int x1), some (jw_a G q), some (jw_a G 4), some (.int (x4 + 1))] [] M1))))))) : jw_X l X (jw_g G) A f_C_learn 16 [some (jw_a G (26 + 2 * a)), some (.int x1), some (jw_a G q), some (jw_a G 4), some (.int x4)] [] M := by
  refine jw_iload d_C_learn_16 rfl ?_
  refine jw_aload_n (i := 3) d_C_learn_18 rfl rfl ?_
  refine jw_get (j := 4) (v := .int (M 4 4)) d_C_learn_19 jw_k4 jw_c_G jw_oc_G (Nat.le_of_ble_eq_true rfl) jw_fl_C_25 rfl rfl ?_
  refine jw_icmp_ge (tgt := 45) d_C_learn_22 (by decide) (fun hc => ?_) (fun hc => ?_)
  · have h := h.1 hc
    exact jw_return d_C_learn_45 rfl h
  · have h := h.2 hc
    refine jw_aload_n (i := 2) d_C_learn_25 rfl rfl ?_
    refine jw_iload d_C_learn_26 rfl ?_
    obtain ⟨j1, hj1, h⟩ := h
    refine jw_zald2 d_C_learn_28 hq (Nat.le_of_ble_eq_true rfl) hj1 ?_
    refine jw_if_eq (tgt := 39) d_C_learn_29 (by decide) (fun hc => ?_) (fun hc => ?_)
    · have h := h.1 hc
      refine jw_iinc (d := 1) d_C_learn_39 rfl jc_i_1 (Nat.le_of_ble_eq_true rfl) ?_
      refine jw_goto (tgt := 16) d_C_learn_42 (by decide) ?_
      exact h
    · have h := h.2 hc
      refine jw_aload_n (i := 0) d_C_learn_32 rfl rfl ?_
      refine jw_iload d_C_learn_33 rfl ?_
      refine jw_aload_n (i := 3) d_C_learn_35 rfl rfl ?_
      refine jw_callV (As := [.int x4, jw_a G 4]) (S := []) d_C_learn_36 (jw_kC ha) jw_c_C jw_ml_C_30 jw_in_f_C_rise jw_se_f_C_rise ⟨Nat.le_of_ble_eq_true rfl, Nat.le_of_ble_eq_true rfl⟩ rfl rfl (Nat.le_of_ble_eq_true rfl) (jw_M_mono h (fun r1 M1 h => ?_))
      refine jw_st (S' := []) rfl ?_
      refine jw_iinc (d := 1) d_C_learn_39 rfl jc_i_1 (Nat.le_of_ble_eq_true rfl) ?_
      refine jw_goto (tgt := 16) d_C_learn_42 (by decide) ?_
      exact h
set_option maxRecDepth 100000 in
theorem e_C_learn {l : Launch} {G : jw_G} {A : Nat → Prop} {a : Nat} (ha : a < 4) {x1 : Int32} {q : Nat} (hq : jw_KT[q]? = some (2, 40, [])) {M : jw_Mem} {Q : Int32 → jw_Mem → Prop} (h : ∀ X : jw_X0, (∀ M', Q 0 M' → jw_R l X (jw_g G) A f_C_learn 0 M') → jw_M l (jw_g G) A f_J_fill [jw_a G (27 + 2 * a), .int 0] (jw_U M (26 + 2 * a) 1 x1) (fun _ M1 => jw_X l X (jw_g G) A f_C_learn 16 [some (jw_a G (26 + 2 * a)), some (.int x1), some (jw_a G q), some (jw_a G 4), some (.int 0)] [] M1)) : jw_M l (jw_g G) A f_C_learn [jw_a G (26 + 2 * a), .int x1, jw_a G q, jw_a G 4] M Q := by
  refine jw_M_of (by decide) (Nat.le_of_ble_eq_true rfl) (by intro v hv; simp at hv; rcases hv with rfl | rfl | rfl | rfl <;> rfl) (fun X hR => ?_)
  exact k_C_learn_0 ha hq (h X (fun M' q => hR 0 M' q (fun ty h0 => nomatch h0)))

set_option maxRecDepth 100000 in
set_option maxHeartbeats 4000000 in
theorem k_C_rise_0 {l : Launch} {X : jw_X0} {G : jw_G} {A : Nat → Prop} {a : Nat} (ha : a < 4) {x1 : Int32} {M : jw_Mem} (h : jw_X l X (jw_g G) A f_C_rise 2 [some (jw_a G (26 + 2 * a)), some (.int x1), some (jw_a G 4), some (.int 0)] [] M) : jw_X l X (jw_g G) A f_C_rise 0 [some (jw_a G (26 + 2 * a)), some (.int x1), some (jw_a G 4), none] [] M := by
  refine jw_iconst (v := 0) d_C_rise_0 jc_i_0 ?_
  refine jw_istore_n (i := 3) d_C_rise_1 rfl (Nat.le_of_ble_eq_true rfl) ?_
  exact h
set_option maxRecDepth 100000 in
set_option maxHeartbeats 4000000 in
theorem k_C_rise_2 {l : Launch} {X : jw_X0} {G : jw_G} {A : Nat → Prop} {a : Nat} (ha : a < 4) {x1 x3 : Int32} {M : jw_Mem} (h : ((5 ≤ x3 → jw_R l X (jw_g G) A f_C_rise 0 M) ∧ (¬ 5 ≤ x3 → (∃ j1 : Nat, (j1 < 5 ∧ x3 = nI j1) ∧ jw_M l (jw_g G) A f_G_clockCount [jw_a G 4, .int x1, .int x3] M (fun r1 M1 => (∃ j2 : Nat, (j2 < 5 ∧ x3 = nI j2) ∧ jw_X l X (jw_g G) A f_C_rise 2 [some (jw_a G (26 + 2 * a)), some (.int x1), some (jw_a G 4), some (.int (x3 + 1))] [] (jw_U M1 (27 + 2 * a) j2 (if (M (27 + 2 * a) j1) < r1 then r1 else (M (27 + 2 * a) j1))))))))) : jw_X l X (jw_g G) A f_C_rise 2 [some (jw_a G (26 + 2 * a)), some (.int x1), some (jw_a G 4), some (.int x3)] [] M := by
  refine jw_iload_n (i := 3) d_C_rise_2 rfl rfl ?_
  refine jw_iconst (v := 5) d_C_rise_3 jc_i_5 ?_
  refine jw_icmp_ge (tgt := 34) d_C_rise_4 (by decide) (fun hc => ?_) (fun hc => ?_)
  · have h := h.1 hc
    exact jw_return d_C_rise_34 rfl h
  · have h := h.2 hc
    refine jw_aload_n (i := 0) d_C_rise_7 rfl rfl ?_
    refine jw_get (j := 0) (v := jw_a G (27 + 2 * a)) d_C_rise_8 (jw_kC ha) jw_c_C jw_oc_C (Nat.le_of_ble_eq_true rfl) jw_fl_C_9 rfl rfl ?_
    refine jw_iload_n (i := 3) d_C_rise_11 rfl rfl ?_
    refine jw_aload_n (i := 0) d_C_rise_12 rfl rfl ?_
    refine jw_get (j := 0) (v := jw_a G (27 + 2 * a)) d_C_rise_13 (jw_kC ha) jw_c_C jw_oc_C (Nat.le_of_ble_eq_true rfl) jw_fl_C_9 rfl rfl ?_
    refine jw_iload_n (i := 3) d_C_rise_16 rfl rfl ?_
    obtain ⟨j1, hj1, h⟩ := h
    refine jw_iald2 d_C_rise_17 (jw_kK ha) (Nat.le_of_ble_eq_true rfl) hj1 ?_
    refine jw_aload_n (i := 2) d_C_rise_18 rfl rfl ?_
    refine jw_iload_n (i := 1) d_C_rise_19 rfl rfl ?_
    refine jw_iload_n (i := 3) d_C_rise_20 rfl rfl ?_
    refine jw_callV (As := [.int x1, .int x3]) (S := [.int (M (27 + 2 * a) j1), .int x3, jw_a G (27 + 2 * a)]) d_C_rise_21 jw_k4 jw_c_G jw_ml_C_34 jw_in_f_G_clockCount jw_se_f_G_clockCount ⟨Nat.le_of_ble_eq_true rfl, Nat.le_of_ble_eq_true rfl⟩ rfl rfl (Nat.le_of_ble_eq_true rfl) (jw_M_mono h (fun r1 M1 h => ?_))
    refine jw_st (S' := [.int r1, .int (M (27 + 2 * a) j1), .int x3, jw_a G (27 + 2 * a)]) rfl ?_
    refine jw_mmax d_C_rise_24 jw_ml_C_38 jw_w_max2 jw_w_max3 jw_w_max4 ⟨Nat.le_of_ble_eq_true rfl, Nat.le_of_ble_eq_true rfl⟩ (Nat.le_of_ble_eq_true rfl) ?_
    obtain ⟨j2, hj2, h⟩ := h
    refine jw_iast2 d_C_rise_27 (jw_kK ha) (Nat.le_of_ble_eq_true rfl) hj2 ?_
    refine jw_iinc (d := 1) d_C_rise_28 rfl jc_i_1 (Nat.le_of_ble_eq_true rfl) ?_
    refine jw_goto (tgt := 2) d_C_rise_31 (by decide) ?_
    exact h
set_option maxRecDepth 100000 in
theorem e_C_rise {l : Launch} {G : jw_G} {A : Nat → Prop} {a : Nat} (ha : a < 4) {x1 : Int32} {M : jw_Mem} {Q : Int32 → jw_Mem → Prop} (h : ∀ X : jw_X0, (∀ M', Q 0 M' → jw_R l X (jw_g G) A f_C_rise 0 M') → jw_X l X (jw_g G) A f_C_rise 2 [some (jw_a G (26 + 2 * a)), some (.int x1), some (jw_a G 4), some (.int 0)] [] M) : jw_M l (jw_g G) A f_C_rise [jw_a G (26 + 2 * a), .int x1, jw_a G 4] M Q := by
  refine jw_M_of (by decide) (Nat.le_of_ble_eq_true rfl) (by intro v hv; simp at hv; rcases hv with rfl | rfl | rfl <;> rfl) (fun X hR => ?_)
  exact k_C_rise_0 ha (h X (fun M' q => hR 0 M' q (fun ty h0 => nomatch h0)))
