set_option maxRecDepth 100000 in
set_option maxHeartbeats 4000000 in
theorem k_N_hasHintOf_0 {l : Launch} {X : jw_X0} {G : jw_G} {A : Nat → Prop} {a : Nat} (ha : a < 5) {x1 : Int32} {M : jw_Mem} (h : (∃ j1 : Nat, (j1 < 40 ∧ x1 = nI j1) ∧ (((M (12 + 3 * a) j1) = (-1) → jw_R l X (jw_g G) A f_N_hasHintOf 0 M) ∧ (¬ (M (12 + 3 * a) j1) = (-1) → jw_R l X (jw_g G) A f_N_hasHintOf 1 M)))) : jw_X l X (jw_g G) A f_N_hasHintOf 0 [some (jw_a G (10 + 3 * a)), some (.int x1)] [] M := by
  refine jw_aload_n (i := 0) d_N_hasHintOf_0 rfl rfl ?_
  refine jw_get (j := 2) (v := jw_a G (12 + 3 * a)) d_N_hasHintOf_1 (jw_kN ha) jw_c_N jw_oc_N (Nat.le_of_ble_eq_true rfl) jw_fl_N_19 rfl rfl ?_
  refine jw_iload_n (i := 1) d_N_hasHintOf_4 rfl rfl ?_
  obtain ⟨j1, hj1, h⟩ := h
  refine jw_iald2 d_N_hasHintOf_5 (jw_kI ha) (Nat.le_of_ble_eq_true rfl) hj1 ?_
  refine jw_iconst (v := (-1)) d_N_hasHintOf_6 jc_i_m1 ?_
  refine jw_icmp_eq (tgt := 14) d_N_hasHintOf_7 (by decide) (fun hc => ?_) (fun hc => ?_)
  · have h := h.1 hc
    refine jw_iconst (v := 0) d_N_hasHintOf_14 jc_i_0 ?_
    exact jw_ireturn d_N_hasHintOf_15 rfl h
  · have h := h.2 hc
    refine jw_iconst (v := 1) d_N_hasHintOf_10 jc_i_1 ?_
    refine jw_goto (tgt := 15) d_N_hasHintOf_11 (by decide) ?_
    exact jw_ireturn d_N_hasHintOf_15 rfl h
set_option maxRecDepth 100000 in
theorem e_N_hasHintOf {l : Launch} {G : jw_G} {A : Nat → Prop} {a : Nat} (ha : a < 5) {x1 : Int32} {M : jw_Mem} {Q : Int32 → jw_Mem → Prop} (h : ∀ X : jw_X0, (∀ r M', Q r M' → (r = 0 ∨ r = 1) → jw_R l X (jw_g G) A f_N_hasHintOf r M') → (∃ j1 : Nat, (j1 < 40 ∧ x1 = nI j1) ∧ (((M (12 + 3 * a) j1) = (-1) → jw_R l X (jw_g G) A f_N_hasHintOf 0 M) ∧ (¬ (M (12 + 3 * a) j1) = (-1) → jw_R l X (jw_g G) A f_N_hasHintOf 1 M)))) : jw_M l (jw_g G) A f_N_hasHintOf [jw_a G (10 + 3 * a), .int x1] M Q := by
  refine jw_M_of (by decide) (Nat.le_of_ble_eq_true rfl) (by intro v hv; simp at hv; rcases hv with rfl | rfl <;> rfl) (fun X hR => ?_)
  exact k_N_hasHintOf_0 ha (h X (fun r M' q hb => hR r M' q (fun ty h0 => by cases h0; exact jw_nb hb)))

set_option maxRecDepth 100000 in
set_option maxHeartbeats 4000000 in
theorem k_N_take_0 {l : Launch} {X : jw_X0} {G : jw_G} {A : Nat → Prop} {a : Nat} (ha : a < 5) {x1 : Int32} {M : jw_Mem} (h : jw_M l (jw_g G) A f_N_isPassed [jw_a G (10 + 3 * a), .int x1] M (fun r1 M1 => ((r1 = 0 → jw_X l X (jw_g G) A f_N_take 12 [some (jw_a G (10 + 3 * a)), some (.int x1), some (.int 0)] [] M1) ∧ (¬ r1 = 0 → jw_R l X (jw_g G) A f_N_take 0 M1)))) : jw_X l X (jw_g G) A f_N_take 0 [some (jw_a G (10 + 3 * a)), some (.int x1), none] [] M := by
  refine jw_aload_n (i := 0) d_N_take_0 rfl rfl ?_
  refine jw_iload_n (i := 1) d_N_take_1 rfl rfl ?_
  refine jw_callV (As := [.int x1]) (S := []) d_N_take_2 (jw_kN ha) jw_c_N jw_ml_N_33 jw_in_f_N_isPassed jw_se_f_N_isPassed ⟨Nat.le_of_ble_eq_true rfl, Nat.le_of_ble_eq_true rfl⟩ rfl rfl (Nat.le_of_ble_eq_true rfl) (jw_M_mono h (fun r1 M1 h => ?_))
  refine jw_st (S' := [.int r1]) rfl ?_
  refine jw_if_eq (tgt := 10) d_N_take_5 (by decide) (fun hc => ?_) (fun hc => ?_)
  · have h := h.1 hc
    refine jw_iconst (v := 0) d_N_take_10 jc_i_0 ?_
    refine jw_istore_n (i := 2) d_N_take_11 rfl (Nat.le_of_ble_eq_true rfl) ?_
    exact h
  · have h := h.2 hc
    refine jw_iconst (v := 0) d_N_take_8 jc_i_0 ?_
    exact jw_ireturn d_N_take_9 rfl h
set_option maxRecDepth 100000 in
set_option maxHeartbeats 4000000 in
theorem k_N_take_12 {l : Launch} {X : jw_X0} {G : jw_G} {A : Nat → Prop} {a : Nat} (ha : a < 5) {x1 x2 : Int32} {M : jw_Mem} (h : (((M 4 4) ≤ x2 → (∃ j1 : Nat, (j1 < 40 ∧ x1 = nI j1) ∧ jw_R l X (jw_g G) A f_N_take 1 (jw_U M (11 + 3 * a) j1 1))) ∧ (¬ (M 4 4) ≤ x2 → jw_M l (jw_g G) A f_N_hasBeside [jw_a G (10 + 3 * a), .int x2, .int x1] M (fun r1 M1 => ((r1 = 0 → jw_X l X (jw_g G) A f_N_take 12 [some (jw_a G (10 + 3 * a)), some (.int x1), some (.int (x2 + 1))] [] M1) ∧ (¬ r1 = 0 → jw_M l (jw_g G) A f_G_isAtOrBelow [jw_a G 4, .int x2, .int x1] M1 (fun r2 M2 => ((r2 = 0 → jw_X l X (jw_g G) A f_N_take 12 [some (jw_a G (10 + 3 * a)), some (.int x1), some (.int (x2 + 1))] [] M2) ∧ (¬ r2 = 0 → (∃ j2 : Nat, (j2 < 40 ∧ x2 = nI j2) ∧ jw_X l X (jw_g G) A f_N_take 12 [some (jw_a G (10 + 3 * a)), some (.int x1), some (.int (x2 + 1))] [] (jw_U M2 (11 + 3 * a) j2 0))))))))))) : jw_X l X (jw_g G) A f_N_take 12 [some (jw_a G (10 + 3 * a)), some (.int x1), some (.int x2)] [] M := by
  refine jw_iload_n (i := 2) d_N_take_12 rfl rfl ?_
  refine jw_aload_n (i := 0) d_N_take_13 rfl rfl ?_
  refine jw_get (j := 0) (v := jw_a G 4) d_N_take_14 (jw_kN ha) jw_c_N jw_oc_N (Nat.le_of_ble_eq_true rfl) jw_fl_N_9 rfl rfl ?_
  refine jw_get (j := 4) (v := .int (M 4 4)) d_N_take_17 jw_k4 jw_c_G jw_oc_G (Nat.le_of_ble_eq_true rfl) jw_fl_N_37 rfl rfl ?_
  refine jw_icmp_ge (tgt := 57) d_N_take_20 (by decide) (fun hc => ?_) (fun hc => ?_)
  · have h := h.1 hc
    refine jw_aload_n (i := 0) d_N_take_57 rfl rfl ?_
    refine jw_get (j := 1) (v := jw_a G (11 + 3 * a)) d_N_take_58 (jw_kN ha) jw_c_N jw_oc_N (Nat.le_of_ble_eq_true rfl) jw_fl_N_15 rfl rfl ?_
    refine jw_iload_n (i := 1) d_N_take_61 rfl rfl ?_
    refine jw_iconst (v := 1) d_N_take_62 jc_i_1 ?_
    obtain ⟨j1, hj1, h⟩ := h
    refine jw_zast2 d_N_take_63 (jw_kH ha) (Nat.le_of_ble_eq_true rfl) hj1 jw_b1 ?_
    refine jw_iconst (v := 1) d_N_take_64 jc_i_1 ?_
    exact jw_ireturn d_N_take_65 rfl h
  · have h := h.2 hc
    refine jw_aload_n (i := 0) d_N_take_23 rfl rfl ?_
    refine jw_iload_n (i := 2) d_N_take_24 rfl rfl ?_
    refine jw_iload_n (i := 1) d_N_take_25 rfl rfl ?_
    refine jw_callV (As := [.int x2, .int x1]) (S := []) d_N_take_26 (jw_kN ha) jw_c_N jw_ml_N_43 jw_in_f_N_hasBeside jw_se_f_N_hasBeside ⟨Nat.le_of_ble_eq_true rfl, Nat.le_of_ble_eq_true rfl⟩ rfl rfl (Nat.le_of_ble_eq_true rfl) (jw_M_mono h (fun r1 M1 h => ?_))
    refine jw_st (S' := [.int r1]) rfl ?_
    refine jw_if_eq (tgt := 51) d_N_take_29 (by decide) (fun hc => ?_) (fun hc => ?_)
    · have h := h.1 hc
      refine jw_iinc (d := 1) d_N_take_51 rfl jc_i_1 (Nat.le_of_ble_eq_true rfl) ?_
      refine jw_goto (tgt := 12) d_N_take_54 (by decide) ?_
      exact h
    · have h := h.2 hc
      refine jw_aload_n (i := 0) d_N_take_32 rfl rfl ?_
      refine jw_get (j := 0) (v := jw_a G 4) d_N_take_33 (jw_kN ha) jw_c_N jw_oc_N (Nat.le_of_ble_eq_true rfl) jw_fl_N_9 rfl rfl ?_
      refine jw_iload_n (i := 2) d_N_take_36 rfl rfl ?_
      refine jw_iload_n (i := 1) d_N_take_37 rfl rfl ?_
      refine jw_callV (As := [.int x2, .int x1]) (S := []) d_N_take_38 jw_k4 jw_c_G jw_ml_N_47 jw_in_f_G_isAtOrBelow jw_se_f_G_isAtOrBelow ⟨Nat.le_of_ble_eq_true rfl, Nat.le_of_ble_eq_true rfl⟩ rfl rfl (Nat.le_of_ble_eq_true rfl) (jw_M_mono h (fun r2 M2 h => ?_))
      refine jw_st (S' := [.int r2]) rfl ?_
      refine jw_if_eq (tgt := 51) d_N_take_41 (by decide) (fun hc => ?_) (fun hc => ?_)
      · have h := h.1 hc
        refine jw_iinc (d := 1) d_N_take_51 rfl jc_i_1 (Nat.le_of_ble_eq_true rfl) ?_
        refine jw_goto (tgt := 12) d_N_take_54 (by decide) ?_
        exact h
      · have h := h.2 hc
        refine jw_aload_n (i := 0) d_N_take_44 rfl rfl ?_
        refine jw_get (j := 1) (v := jw_a G (11 + 3 * a)) d_N_take_45 (jw_kN ha) jw_c_N jw_oc_N (Nat.le_of_ble_eq_true rfl) jw_fl_N_15 rfl rfl ?_
        refine jw_iload_n (i := 2) d_N_take_48 rfl rfl ?_
        refine jw_iconst (v := 0) d_N_take_49 jc_i_0 ?_
        obtain ⟨j2, hj2, h⟩ := h
        refine jw_zast2 d_N_take_50 (jw_kH ha) (Nat.le_of_ble_eq_true rfl) hj2 jw_b0 ?_
        refine jw_iinc (d := 1) d_N_take_51 rfl jc_i_1 (Nat.le_of_ble_eq_true rfl) ?_
        refine jw_goto (tgt := 12) d_N_take_54 (by decide) ?_
        exact h
set_option maxRecDepth 100000 in
theorem e_N_take {l : Launch} {G : jw_G} {A : Nat → Prop} {a : Nat} (ha : a < 5) {x1 : Int32} {M : jw_Mem} {Q : Int32 → jw_Mem → Prop} (h : ∀ X : jw_X0, (∀ r M', Q r M' → (r = 0 ∨ r = 1) → jw_R l X (jw_g G) A f_N_take r M') → jw_M l (jw_g G) A f_N_isPassed [jw_a G (10 + 3 * a), .int x1] M (fun r1 M1 => ((r1 = 0 → jw_X l X (jw_g G) A f_N_take 12 [some (jw_a G (10 + 3 * a)), some (.int x1), some (.int 0)] [] M1) ∧ (¬ r1 = 0 → jw_R l X (jw_g G) A f_N_take 0 M1)))) : jw_M l (jw_g G) A f_N_take [jw_a G (10 + 3 * a), .int x1] M Q := by
  refine jw_M_of (by decide) (Nat.le_of_ble_eq_true rfl) (by intro v hv; simp at hv; rcases hv with rfl | rfl <;> rfl) (fun X hR => ?_)
  exact k_N_take_0 ha (h X (fun r M' q hb => hR r M' q (fun ty h0 => by cases h0; exact jw_nb hb)))

set_option maxRecDepth 100000 in
set_option maxHeartbeats 4000000 in
theorem k_N_isPassed_0 {l : Launch} {X : jw_X0} {G : jw_G} {A : Nat → Prop} {a : Nat} (ha : a < 5) {x1 : Int32} {M : jw_Mem} (h : jw_X l X (jw_g G) A f_N_isPassed 2 [some (jw_a G (10 + 3 * a)), some (.int x1), some (.int 0)] [] M) : jw_X l X (jw_g G) A f_N_isPassed 0 [some (jw_a G (10 + 3 * a)), some (.int x1), none] [] M := by
  refine jw_iconst (v := 0) d_N_isPassed_0 jc_i_0 ?_
  refine jw_istore_n (i := 2) d_N_isPassed_1 rfl (Nat.le_of_ble_eq_true rfl) ?_
  exact h
set_option maxRecDepth 100000 in
set_option maxHeartbeats 4000000 in
theorem k_N_isPassed_2 {l : Launch} {X : jw_X0} {G : jw_G} {A : Nat → Prop} {a : Nat} (ha : a < 5) {x1 x2 : Int32} {M : jw_Mem} (h : (((M 4 4) ≤ x2 → jw_R l X (jw_g G) A f_N_isPassed 0 M) ∧ (¬ (M 4 4) ≤ x2 → jw_M l (jw_g G) A f_N_hasBeside [jw_a G (10 + 3 * a), .int x2, .int x1] M (fun r1 M1 => ((r1 = 0 → jw_X l X (jw_g G) A f_N_isPassed 2 [some (jw_a G (10 + 3 * a)), some (.int x1), some (.int (x2 + 1))] [] M1) ∧ (¬ r1 = 0 → jw_M l (jw_g G) A f_G_isAtOrBelow [jw_a G 4, .int x1, .int x2] M1 (fun r2 M2 => ((r2 = 0 → jw_X l X (jw_g G) A f_N_isPassed 2 [some (jw_a G (10 + 3 * a)), some (.int x1), some (.int (x2 + 1))] [] M2) ∧ (¬ r2 = 0 → jw_R l X (jw_g G) A f_N_isPassed 1 M2))))))))) : jw_X l X (jw_g G) A f_N_isPassed 2 [some (jw_a G (10 + 3 * a)), some (.int x1), some (.int x2)] [] M := by
  refine jw_iload_n (i := 2) d_N_isPassed_2 rfl rfl ?_
  refine jw_aload_n (i := 0) d_N_isPassed_3 rfl rfl ?_
  refine jw_get (j := 0) (v := jw_a G 4) d_N_isPassed_4 (jw_kN ha) jw_c_N jw_oc_N (Nat.le_of_ble_eq_true rfl) jw_fl_N_9 rfl rfl ?_
  refine jw_get (j := 4) (v := .int (M 4 4)) d_N_isPassed_7 jw_k4 jw_c_G jw_oc_G (Nat.le_of_ble_eq_true rfl) jw_fl_N_37 rfl rfl ?_
  refine jw_icmp_ge (tgt := 42) d_N_isPassed_10 (by decide) (fun hc => ?_) (fun hc => ?_)
  · have h := h.1 hc
    refine jw_iconst (v := 0) d_N_isPassed_42 jc_i_0 ?_
    exact jw_ireturn d_N_isPassed_43 rfl h
  · have h := h.2 hc
    refine jw_aload_n (i := 0) d_N_isPassed_13 rfl rfl ?_
    refine jw_iload_n (i := 2) d_N_isPassed_14 rfl rfl ?_
    refine jw_iload_n (i := 1) d_N_isPassed_15 rfl rfl ?_
    refine jw_callV (As := [.int x2, .int x1]) (S := []) d_N_isPassed_16 (jw_kN ha) jw_c_N jw_ml_N_43 jw_in_f_N_hasBeside jw_se_f_N_hasBeside ⟨Nat.le_of_ble_eq_true rfl, Nat.le_of_ble_eq_true rfl⟩ rfl rfl (Nat.le_of_ble_eq_true rfl) (jw_M_mono h (fun r1 M1 h => ?_))
    refine jw_st (S' := [.int r1]) rfl ?_
    refine jw_if_eq (tgt := 36) d_N_isPassed_19 (by decide) (fun hc => ?_) (fun hc => ?_)
    · have h := h.1 hc
      refine jw_iinc (d := 1) d_N_isPassed_36 rfl jc_i_1 (Nat.le_of_ble_eq_true rfl) ?_
      refine jw_goto (tgt := 2) d_N_isPassed_39 (by decide) ?_
      exact h
    · have h := h.2 hc
      refine jw_aload_n (i := 0) d_N_isPassed_22 rfl rfl ?_
      refine jw_get (j := 0) (v := jw_a G 4) d_N_isPassed_23 (jw_kN ha) jw_c_N jw_oc_N (Nat.le_of_ble_eq_true rfl) jw_fl_N_9 rfl rfl ?_
      refine jw_iload_n (i := 1) d_N_isPassed_26 rfl rfl ?_
      refine jw_iload_n (i := 2) d_N_isPassed_27 rfl rfl ?_
      refine jw_callV (As := [.int x1, .int x2]) (S := []) d_N_isPassed_28 jw_k4 jw_c_G jw_ml_N_47 jw_in_f_G_isAtOrBelow jw_se_f_G_isAtOrBelow ⟨Nat.le_of_ble_eq_true rfl, Nat.le_of_ble_eq_true rfl⟩ rfl rfl (Nat.le_of_ble_eq_true rfl) (jw_M_mono h (fun r2 M2 h => ?_))
      refine jw_st (S' := [.int r2]) rfl ?_
      refine jw_if_eq (tgt := 36) d_N_isPassed_31 (by decide) (fun hc => ?_) (fun hc => ?_)
      · have h := h.1 hc
        refine jw_iinc (d := 1) d_N_isPassed_36 rfl jc_i_1 (Nat.le_of_ble_eq_true rfl) ?_
        refine jw_goto (tgt := 2) d_N_isPassed_39 (by decide) ?_
        exact h
      · have h := h.2 hc
        refine jw_iconst (v := 1) d_N_isPassed_34 jc_i_1 ?_
        exact jw_ireturn d_N_isPassed_35 rfl h
set_option maxRecDepth 100000 in
theorem e_N_isPassed {l : Launch} {G : jw_G} {A : Nat → Prop} {a : Nat} (ha : a < 5) {x1 : Int32} {M : jw_Mem} {Q : Int32 → jw_Mem → Prop} (h : ∀ X : jw_X0, (∀ r M', Q r M' → (r = 0 ∨ r = 1) → jw_R l X (jw_g G) A f_N_isPassed r M') → jw_X l X (jw_g G) A f_N_isPassed 2 [some (jw_a G (10 + 3 * a)), some (.int x1), some (.int 0)] [] M) : jw_M l (jw_g G) A f_N_isPassed [jw_a G (10 + 3 * a), .int x1] M Q := by
  refine jw_M_of (by decide) (Nat.le_of_ble_eq_true rfl) (by intro v hv; simp at hv; rcases hv with rfl | rfl <;> rfl) (fun X hR => ?_)
  exact k_N_isPassed_0 ha (h X (fun r M' q hb => hR r M' q (fun ty h0 => by cases h0; exact jw_nb hb)))

set_option maxRecDepth 100000 in
set_option maxHeartbeats 4000000 in
theorem k_N_hasBeside_0 {l : Launch} {X : jw_X0} {G : jw_G} {A : Nat → Prop} {a : Nat} (ha : a < 5) {x1 : Int32} {x2 : Int32} {M : jw_Mem} (h : (∃ j1 : Nat, (j1 < 40 ∧ x1 = nI j1) ∧ (((M (11 + 3 * a) j1) = 0 → jw_R l X (jw_g G) A f_N_hasBeside 0 M) ∧ (¬ (M (11 + 3 * a) j1) = 0 → (∃ j2 : Nat, (j2 < 40 ∧ x1 = nI j2) ∧ (∃ j3 : Nat, (j3 < 40 ∧ x2 = nI j3) ∧ ((¬ (M 5 j2) = (M 5 j3) → jw_R l X (jw_g G) A f_N_hasBeside 0 M) ∧ ((M 5 j2) = (M 5 j3) → jw_R l X (jw_g G) A f_N_hasBeside 1 M)))))))) : jw_X l X (jw_g G) A f_N_hasBeside 0 [some (jw_a G (10 + 3 * a)), some (.int x1), some (.int x2)] [] M := by
  refine jw_aload_n (i := 0) d_N_hasBeside_0 rfl rfl ?_
  refine jw_get (j := 1) (v := jw_a G (11 + 3 * a)) d_N_hasBeside_1 (jw_kN ha) jw_c_N jw_oc_N (Nat.le_of_ble_eq_true rfl) jw_fl_N_15 rfl rfl ?_
  refine jw_iload_n (i := 1) d_N_hasBeside_4 rfl rfl ?_
  obtain ⟨j1, hj1, h⟩ := h
  refine jw_zald2 d_N_hasBeside_5 (jw_kH ha) (Nat.le_of_ble_eq_true rfl) hj1 ?_
  refine jw_if_eq (tgt := 34) d_N_hasBeside_6 (by decide) (fun hc => ?_) (fun hc => ?_)
  · have h := h.1 hc
    refine jw_iconst (v := 0) d_N_hasBeside_34 jc_i_0 ?_
    exact jw_ireturn d_N_hasBeside_35 rfl h
  · have h := h.2 hc
    refine jw_aload_n (i := 0) d_N_hasBeside_9 rfl rfl ?_
    refine jw_get (j := 0) (v := jw_a G 4) d_N_hasBeside_10 (jw_kN ha) jw_c_N jw_oc_N (Nat.le_of_ble_eq_true rfl) jw_fl_N_9 rfl rfl ?_
    refine jw_get (j := 0) (v := jw_a G 5) d_N_hasBeside_13 jw_k4 jw_c_G jw_oc_G (Nat.le_of_ble_eq_true rfl) jw_fl_N_50 rfl rfl ?_
    refine jw_iload_n (i := 1) d_N_hasBeside_16 rfl rfl ?_
    obtain ⟨j2, hj2, h⟩ := h
    refine jw_iald2 d_N_hasBeside_17 jw_k5 (Nat.le_of_ble_eq_true rfl) hj2 ?_
    refine jw_aload_n (i := 0) d_N_hasBeside_18 rfl rfl ?_
    refine jw_get (j := 0) (v := jw_a G 4) d_N_hasBeside_19 (jw_kN ha) jw_c_N jw_oc_N (Nat.le_of_ble_eq_true rfl) jw_fl_N_9 rfl rfl ?_
    refine jw_get (j := 0) (v := jw_a G 5) d_N_hasBeside_22 jw_k4 jw_c_G jw_oc_G (Nat.le_of_ble_eq_true rfl) jw_fl_N_50 rfl rfl ?_
    refine jw_iload_n (i := 2) d_N_hasBeside_25 rfl rfl ?_
    obtain ⟨j3, hj3, h⟩ := h
    refine jw_iald2 d_N_hasBeside_26 jw_k5 (Nat.le_of_ble_eq_true rfl) hj3 ?_
    refine jw_icmp_ne (tgt := 34) d_N_hasBeside_27 (by decide) (fun hc => ?_) (fun hc => ?_)
    · have h := h.1 hc
      refine jw_iconst (v := 0) d_N_hasBeside_34 jc_i_0 ?_
      exact jw_ireturn d_N_hasBeside_35 rfl h
    · have h := h.2 hc
      refine jw_iconst (v := 1) d_N_hasBeside_30 jc_i_1 ?_
      refine jw_goto (tgt := 35) d_N_hasBeside_31 (by decide) ?_
      exact jw_ireturn d_N_hasBeside_35 rfl h
set_option maxRecDepth 100000 in
theorem e_N_hasBeside {l : Launch} {G : jw_G} {A : Nat → Prop} {a : Nat} (ha : a < 5) {x1 : Int32} {x2 : Int32} {M : jw_Mem} {Q : Int32 → jw_Mem → Prop} (h : ∀ X : jw_X0, (∀ r M', Q r M' → (r = 0 ∨ r = 1) → jw_R l X (jw_g G) A f_N_hasBeside r M') → (∃ j1 : Nat, (j1 < 40 ∧ x1 = nI j1) ∧ (((M (11 + 3 * a) j1) = 0 → jw_R l X (jw_g G) A f_N_hasBeside 0 M) ∧ (¬ (M (11 + 3 * a) j1) = 0 → (∃ j2 : Nat, (j2 < 40 ∧ x1 = nI j2) ∧ (∃ j3 : Nat, (j3 < 40 ∧ x2 = nI j3) ∧ ((¬ (M 5 j2) = (M 5 j3) → jw_R l X (jw_g G) A f_N_hasBeside 0 M) ∧ ((M 5 j2) = (M 5 j3) → jw_R l X (jw_g G) A f_N_hasBeside 1 M)))))))) : jw_M l (jw_g G) A f_N_hasBeside [jw_a G (10 + 3 * a), .int x1, .int x2] M Q := by
  refine jw_M_of (by decide) (Nat.le_of_ble_eq_true rfl) (by intro v hv; simp at hv; rcases hv with rfl | rfl | rfl <;> rfl) (fun X hR => ?_)
  exact k_N_hasBeside_0 ha (h X (fun r M' q hb => hR r M' q (fun ty h0 => by cases h0; exact jw_nb hb)))

set_option maxRecDepth 100000 in
set_option maxHeartbeats 4000000 in
theorem k_N_takeAll_0 {l : Launch} {X : jw_X0} {G : jw_G} {A : Nat → Prop} {a : Nat} (ha : a < 5) {q : Nat} (hq : jw_KT[q]? = some (2, 40, [])) {M : jw_Mem} (h : jw_X l X (jw_g G) A f_N_takeAll 4 [some (jw_a G (10 + 3 * a)), some (jw_a G q), some (.int 0), some (.int 0)] [] M) : jw_X l X (jw_g G) A f_N_takeAll 0 [some (jw_a G (10 + 3 * a)), some (jw_a G q), none, none] [] M := by
  refine jw_iconst (v := 0) d_N_takeAll_0 jc_i_0 ?_
  refine jw_istore_n (i := 2) d_N_takeAll_1 rfl (Nat.le_of_ble_eq_true rfl) ?_
  refine jw_iconst (v := 0) d_N_takeAll_2 jc_i_0 ?_
  refine jw_istore_n (i := 3) d_N_takeAll_3 rfl (Nat.le_of_ble_eq_true rfl) ?_
  exact h
set_option maxRecDepth 100000 in
set_option maxHeartbeats 4000000 in
theorem k_N_takeAll_4 {l : Launch} {X : jw_X0} {G : jw_G} {A : Nat → Prop} {a : Nat} (ha : a < 5) {q : Nat} (hq : jw_KT[q]? = some (2, 40, [])) {x2 x3 : Int32} {M : jw_Mem} (h : (((M 4 4) ≤ x3 → jw_R l X (jw_g G) A f_N_takeAll x2 M) ∧ (¬ (M 4 4) ≤ x3 → (∃ j1 : Nat, (j1 < 40 ∧ x3 = nI j1) ∧ (((M q j1) = 0 → jw_X l X (jw_g G) A f_N_takeAll 4 [some (jw_a G (10 + 3 * a)), some (jw_a G q), some (.int x2), some (.int (x3 + 1))] [] M) ∧ (¬ (M q j1) = 0 → jw_M l (jw_g G) A f_N_take [jw_a G (10 + 3 * a), .int x3] M (fun r1 M1 => ((r1 = 0 → jw_X l X (jw_g G) A f_N_takeAll 4 [some (jw_a G (10 + 3 * a)), some (jw_a G q), some (.int x2), some (.int (x3 + 1))] [] M1) ∧ (¬ r1 = 0 → jw_X l X (jw_g G) A f_N_takeAll 4 [some (jw_a G (10 + 3 * a)), some (jw_a G q), some (.int (x2 + 1)), some (.int (x3 + 1))] [] M1))))))))) : jw_X l X (jw_g G) A f_N_takeAll 4 [some (jw_a G (10 + 3 * a)), some (jw_a G q), some (.int x2), some (.int x3)] [] M := by
  refine jw_iload_n (i := 3) d_N_takeAll_4 rfl rfl ?_
  refine jw_aload_n (i := 0) d_N_takeAll_5 rfl rfl ?_
  refine jw_get (j := 0) (v := jw_a G 4) d_N_takeAll_6 (jw_kN ha) jw_c_N jw_oc_N (Nat.le_of_ble_eq_true rfl) jw_fl_N_9 rfl rfl ?_
  refine jw_get (j := 4) (v := .int (M 4 4)) d_N_takeAll_9 jw_k4 jw_c_G jw_oc_G (Nat.le_of_ble_eq_true rfl) jw_fl_N_37 rfl rfl ?_
  refine jw_icmp_ge (tgt := 38) d_N_takeAll_12 (by decide) (fun hc => ?_) (fun hc => ?_)
  · have h := h.1 hc
    refine jw_iload_n (i := 2) d_N_takeAll_38 rfl rfl ?_
    exact jw_ireturn d_N_takeAll_39 rfl h
  · have h := h.2 hc
    refine jw_aload_n (i := 1) d_N_takeAll_15 rfl rfl ?_
    refine jw_iload_n (i := 3) d_N_takeAll_16 rfl rfl ?_
    obtain ⟨j1, hj1, h⟩ := h
    refine jw_zald2 d_N_takeAll_17 hq (Nat.le_of_ble_eq_true rfl) hj1 ?_
    refine jw_if_eq (tgt := 32) d_N_takeAll_18 (by decide) (fun hc => ?_) (fun hc => ?_)
    · have h := h.1 hc
      refine jw_iinc (d := 1) d_N_takeAll_32 rfl jc_i_1 (Nat.le_of_ble_eq_true rfl) ?_
      refine jw_goto (tgt := 4) d_N_takeAll_35 (by decide) ?_
      exact h
    · have h := h.2 hc
      refine jw_aload_n (i := 0) d_N_takeAll_21 rfl rfl ?_
      refine jw_iload_n (i := 3) d_N_takeAll_22 rfl rfl ?_
      refine jw_callV (As := [.int x3]) (S := []) d_N_takeAll_23 (jw_kN ha) jw_c_N jw_ml_N_53 jw_in_f_N_take jw_se_f_N_take ⟨Nat.le_of_ble_eq_true rfl, Nat.le_of_ble_eq_true rfl⟩ rfl rfl (Nat.le_of_ble_eq_true rfl) (jw_M_mono h (fun r1 M1 h => ?_))
      refine jw_st (S' := [.int r1]) rfl ?_
      refine jw_if_eq (tgt := 32) d_N_takeAll_26 (by decide) (fun hc => ?_) (fun hc => ?_)
      · have h := h.1 hc
        refine jw_iinc (d := 1) d_N_takeAll_32 rfl jc_i_1 (Nat.le_of_ble_eq_true rfl) ?_
        refine jw_goto (tgt := 4) d_N_takeAll_35 (by decide) ?_
        exact h
      · have h := h.2 hc
        refine jw_iinc (d := 1) d_N_takeAll_29 rfl jc_i_1 (Nat.le_of_ble_eq_true rfl) ?_
        refine jw_iinc (d := 1) d_N_takeAll_32 rfl jc_i_1 (Nat.le_of_ble_eq_true rfl) ?_
        refine jw_goto (tgt := 4) d_N_takeAll_35 (by decide) ?_
        exact h
set_option maxRecDepth 100000 in
theorem e_N_takeAll {l : Launch} {G : jw_G} {A : Nat → Prop} {a : Nat} (ha : a < 5) {q : Nat} (hq : jw_KT[q]? = some (2, 40, [])) {M : jw_Mem} {Q : Int32 → jw_Mem → Prop} (h : ∀ X : jw_X0, (∀ r M', Q r M' → jw_R l X (jw_g G) A f_N_takeAll r M') → jw_X l X (jw_g G) A f_N_takeAll 4 [some (jw_a G (10 + 3 * a)), some (jw_a G q), some (.int 0), some (.int 0)] [] M) : jw_M l (jw_g G) A f_N_takeAll [jw_a G (10 + 3 * a), jw_a G q] M Q := by
  refine jw_M_of (by decide) (Nat.le_of_ble_eq_true rfl) (by intro v hv; simp at hv; rcases hv with rfl | rfl <;> rfl) (fun X hR => ?_)
  exact k_N_takeAll_0 ha hq (h X (fun r M' q => hR r M' q (fun ty h0 => by cases h0; rfl)))

set_option maxRecDepth 100000 in
set_option maxHeartbeats 4000000 in
theorem k_N_dropAll_0 {l : Launch} {X : jw_X0} {G : jw_G} {A : Nat → Prop} {a : Nat} (ha : a < 5) {q : Nat} (hq : jw_KT[q]? = some (2, 40, [])) {M : jw_Mem} (h : jw_X l X (jw_g G) A f_N_dropAll 2 [some (jw_a G (10 + 3 * a)), some (jw_a G q), some (.int 0)] [] M) : jw_X l X (jw_g G) A f_N_dropAll 0 [some (jw_a G (10 + 3 * a)), some (jw_a G q), none] [] M := by
  refine jw_iconst (v := 0) d_N_dropAll_0 jc_i_0 ?_
  refine jw_istore_n (i := 2) d_N_dropAll_1 rfl (Nat.le_of_ble_eq_true rfl) ?_
  exact h
set_option maxRecDepth 100000 in
set_option maxHeartbeats 4000000 in
theorem k_N_dropAll_2 {l : Launch} {X : jw_X0} {G : jw_G} {A : Nat → Prop} {a : Nat} (ha : a < 5) {q : Nat} (hq : jw_KT[q]? = some (2, 40, [])) {x2 : Int32} {M : jw_Mem} (h : (((M 4 4) ≤ x2 → jw_R l X (jw_g G) A f_N_dropAll 0 M) ∧ (¬ (M 4 4) ≤ x2 → (∃ j1 : Nat, (j1 < 40 ∧ x2 = nI j1) ∧ (((M q j1) = 0 → jw_X l X (jw_g G) A f_N_dropAll 2 [some (jw_a G (10 + 3 * a)), some (jw_a G q), some (.int (x2 + 1))] [] M) ∧ (¬ (M q j1) = 0 → (∃ j2 : Nat, (j2 < 40 ∧ x2 = nI j2) ∧ jw_X l X (jw_g G) A f_N_dropAll 2 [some (jw_a G (10 + 3 * a)), some (jw_a G q), some (.int (x2 + 1))] [] (jw_U M (11 + 3 * a) j2 0)))))))) : jw_X l X (jw_g G) A f_N_dropAll 2 [some (jw_a G (10 + 3 * a)), some (jw_a G q), some (.int x2)] [] M := by
  refine jw_iload_n (i := 2) d_N_dropAll_2 rfl rfl ?_
  refine jw_aload_n (i := 0) d_N_dropAll_3 rfl rfl ?_
  refine jw_get (j := 0) (v := jw_a G 4) d_N_dropAll_4 (jw_kN ha) jw_c_N jw_oc_N (Nat.le_of_ble_eq_true rfl) jw_fl_N_9 rfl rfl ?_
  refine jw_get (j := 4) (v := .int (M 4 4)) d_N_dropAll_7 jw_k4 jw_c_G jw_oc_G (Nat.le_of_ble_eq_true rfl) jw_fl_N_37 rfl rfl ?_
  refine jw_icmp_ge (tgt := 32) d_N_dropAll_10 (by decide) (fun hc => ?_) (fun hc => ?_)
  · have h := h.1 hc
    exact jw_return d_N_dropAll_32 rfl h
  · have h := h.2 hc
    refine jw_aload_n (i := 1) d_N_dropAll_13 rfl rfl ?_
    refine jw_iload_n (i := 2) d_N_dropAll_14 rfl rfl ?_
    obtain ⟨j1, hj1, h⟩ := h
    refine jw_zald2 d_N_dropAll_15 hq (Nat.le_of_ble_eq_true rfl) hj1 ?_
    refine jw_if_eq (tgt := 26) d_N_dropAll_16 (by decide) (fun hc => ?_) (fun hc => ?_)
    · have h := h.1 hc
      refine jw_iinc (d := 1) d_N_dropAll_26 rfl jc_i_1 (Nat.le_of_ble_eq_true rfl) ?_
      refine jw_goto (tgt := 2) d_N_dropAll_29 (by decide) ?_
      exact h
    · have h := h.2 hc
      refine jw_aload_n (i := 0) d_N_dropAll_19 rfl rfl ?_
      refine jw_get (j := 1) (v := jw_a G (11 + 3 * a)) d_N_dropAll_20 (jw_kN ha) jw_c_N jw_oc_N (Nat.le_of_ble_eq_true rfl) jw_fl_N_15 rfl rfl ?_
      refine jw_iload_n (i := 2) d_N_dropAll_23 rfl rfl ?_
      refine jw_iconst (v := 0) d_N_dropAll_24 jc_i_0 ?_
      obtain ⟨j2, hj2, h⟩ := h
      refine jw_zast2 d_N_dropAll_25 (jw_kH ha) (Nat.le_of_ble_eq_true rfl) hj2 jw_b0 ?_
      refine jw_iinc (d := 1) d_N_dropAll_26 rfl jc_i_1 (Nat.le_of_ble_eq_true rfl) ?_
      refine jw_goto (tgt := 2) d_N_dropAll_29 (by decide) ?_
      exact h
set_option maxRecDepth 100000 in
theorem e_N_dropAll {l : Launch} {G : jw_G} {A : Nat → Prop} {a : Nat} (ha : a < 5) {q : Nat} (hq : jw_KT[q]? = some (2, 40, [])) {M : jw_Mem} {Q : Int32 → jw_Mem → Prop} (h : ∀ X : jw_X0, (∀ M', Q 0 M' → jw_R l X (jw_g G) A f_N_dropAll 0 M') → jw_X l X (jw_g G) A f_N_dropAll 2 [some (jw_a G (10 + 3 * a)), some (jw_a G q), some (.int 0)] [] M) : jw_M l (jw_g G) A f_N_dropAll [jw_a G (10 + 3 * a), jw_a G q] M Q := by
  refine jw_M_of (by decide) (Nat.le_of_ble_eq_true rfl) (by intro v hv; simp at hv; rcases hv with rfl | rfl <;> rfl) (fun X hR => ?_)
  exact k_N_dropAll_0 ha hq (h X (fun M' q => hR 0 M' q (fun ty h0 => nomatch h0)))

set_option maxRecDepth 100000 in
set_option maxHeartbeats 4000000 in
theorem k_N_writeOut_0 {l : Launch} {X : jw_X0} {G : jw_G} {A : Nat → Prop} {a : Nat} (ha : a < 5) {x1 : Int32} {q : Nat} (hq : jw_KT[q]? = some (2, 40, [])) {M : jw_Mem} (h : jw_X l X (jw_g G) A f_N_writeOut 5 [some (jw_a G (10 + 3 * a)), some (.int x1), some (jw_a G q), some (.int 0), some (.int 0)] [] M) : jw_X l X (jw_g G) A f_N_writeOut 0 [some (jw_a G (10 + 3 * a)), some (.int x1), some (jw_a G q), none, none] [] M := by
  refine jw_iconst (v := 0) d_N_writeOut_0 jc_i_0 ?_
  refine jw_istore_n (i := 3) d_N_writeOut_1 rfl (Nat.le_of_ble_eq_true rfl) ?_
  refine jw_iconst (v := 0) d_N_writeOut_2 jc_i_0 ?_
  refine jw_istore d_N_writeOut_3 (Nat.le_of_ble_eq_true rfl) ?_
  exact h
set_option maxRecDepth 100000 in
set_option maxHeartbeats 4000000 in
theorem k_N_writeOut_5 {l : Launch} {X : jw_X0} {G : jw_G} {A : Nat → Prop} {a : Nat} (ha : a < 5) {q : Nat} (hq : jw_KT[q]? = some (2, 40, [])) {x1 x3 x4 : Int32} {M : jw_Mem} (h : (((M 4 4) ≤ x4 → jw_R l X (jw_g G) A f_N_writeOut x3 M) ∧ (¬ (M 4 4) ≤ x4 → (∃ j1 : Nat, (j1 < 40 ∧ x4 = nI j1) ∧ (((M (11 + 3 * a) j1) = 0 → (∃ j2 : Nat, (j2 < 40 ∧ x4 = nI j2) ∧ (∃ j3 : Nat, (j3 < 40 ∧ x4 = nI j3) ∧ ((((jw_U M q j2 0) q j3) = 0 → jw_X l X (jw_g G) A f_N_writeOut 5 [some (jw_a G (10 + 3 * a)), some (.int x1), some (jw_a G q), some (.int x3), some (.int (x4 + 1))] [] (jw_U M q j2 0)) ∧ (¬ ((jw_U M q j2 0) q j3) = 0 → jw_X l X (jw_g G) A f_N_writeOut 5 [some (jw_a G (10 + 3 * a)), some (.int x1), some (jw_a G q), some (.int (x3 + 1)), some (.int (x4 + 1))] [] (jw_U M q j2 0)))))) ∧ (¬ (M (11 + 3 * a) j1) = 0 → (∃ j4 : Nat, (j4 < 40 ∧ x4 = nI j4) ∧ ((¬ (M 5 j4) = x1 → (∃ j5 : Nat, (j5 < 40 ∧ x4 = nI j5) ∧ (∃ j6 : Nat, (j6 < 40 ∧ x4 = nI j6) ∧ ((((jw_U M q j5 0) q j6) = 0 → jw_X l X (jw_g G) A f_N_writeOut 5 [some (jw_a G (10 + 3 * a)), some (.int x1), some (jw_a G q), some (.int x3), some (.int (x4 + 1))] [] (jw_U M q j5 0)) ∧ (¬ ((jw_U M q j5 0) q j6) = 0 → jw_X l X (jw_g G) A f_N_writeOut 5 [some (jw_a G (10 + 3 * a)), some (.int x1), some (jw_a G q), some (.int (x3 + 1)), some (.int (x4 + 1))] [] (jw_U M q j5 0)))))) ∧ ((M 5 j4) = x1 → (∃ j7 : Nat, (j7 < 40 ∧ x4 = nI j7) ∧ (∃ j8 : Nat, (j8 < 40 ∧ x4 = nI j8) ∧ ((((jw_U M q j7 1) q j8) = 0 → jw_X l X (jw_g G) A f_N_writeOut 5 [some (jw_a G (10 + 3 * a)), some (.int x1), some (jw_a G q), some (.int x3), some (.int (x4 + 1))] [] (jw_U M q j7 1)) ∧ (¬ ((jw_U M q j7 1) q j8) = 0 → jw_X l X (jw_g G) A f_N_writeOut 5 [some (jw_a G (10 + 3 * a)), some (.int x1), some (jw_a G q), some (.int (x3 + 1)), some (.int (x4 + 1))] [] (jw_U M q j7 1)))))))))))))) : jw_X l X (jw_g G) A f_N_writeOut 5 [some (jw_a G (10 + 3 * a)), some (.int x1), some (jw_a G q), some (.int x3), some (.int x4)] [] M := by
  refine jw_iload d_N_writeOut_5 rfl ?_
  refine jw_aload_n (i := 0) d_N_writeOut_7 rfl rfl ?_
  refine jw_get (j := 0) (v := jw_a G 4) d_N_writeOut_8 (jw_kN ha) jw_c_N jw_oc_N (Nat.le_of_ble_eq_true rfl) jw_fl_N_9 rfl rfl ?_
  refine jw_get (j := 4) (v := .int (M 4 4)) d_N_writeOut_11 jw_k4 jw_c_G jw_oc_G (Nat.le_of_ble_eq_true rfl) jw_fl_N_37 rfl rfl ?_
  refine jw_icmp_ge (tgt := 66) d_N_writeOut_14 (by decide) (fun hc => ?_) (fun hc => ?_)
  · have h := h.1 hc
    refine jw_iload_n (i := 3) d_N_writeOut_66 rfl rfl ?_
    exact jw_ireturn d_N_writeOut_67 rfl h
  · have h := h.2 hc
    refine jw_aload_n (i := 2) d_N_writeOut_17 rfl rfl ?_
    refine jw_iload d_N_writeOut_18 rfl ?_
    refine jw_aload_n (i := 0) d_N_writeOut_20 rfl rfl ?_
    refine jw_get (j := 1) (v := jw_a G (11 + 3 * a)) d_N_writeOut_21 (jw_kN ha) jw_c_N jw_oc_N (Nat.le_of_ble_eq_true rfl) jw_fl_N_15 rfl rfl ?_
    refine jw_iload d_N_writeOut_24 rfl ?_
    obtain ⟨j1, hj1, h⟩ := h
    refine jw_zald2 d_N_writeOut_26 (jw_kH ha) (Nat.le_of_ble_eq_true rfl) hj1 ?_
    refine jw_if_eq (tgt := 48) d_N_writeOut_27 (by decide) (fun hc => ?_) (fun hc => ?_)
    · have h := h.1 hc
      refine jw_iconst (v := 0) d_N_writeOut_48 jc_i_0 ?_
      obtain ⟨j2, hj2, h⟩ := h
      refine jw_zast2 d_N_writeOut_49 hq (Nat.le_of_ble_eq_true rfl) hj2 jw_b0 ?_
      refine jw_aload_n (i := 2) d_N_writeOut_50 rfl rfl ?_
      refine jw_iload d_N_writeOut_51 rfl ?_
      obtain ⟨j3, hj3, h⟩ := h
      refine jw_zald2 d_N_writeOut_53 hq (Nat.le_of_ble_eq_true rfl) hj3 ?_
      refine jw_if_eq (tgt := 60) d_N_writeOut_54 (by decide) (fun hc => ?_) (fun hc => ?_)
      · have h := h.1 hc
        refine jw_iinc (d := 1) d_N_writeOut_60 rfl jc_i_1 (Nat.le_of_ble_eq_true rfl) ?_
        refine jw_goto (tgt := 5) d_N_writeOut_63 (by decide) ?_
        exact h
      · have h := h.2 hc
        refine jw_iinc (d := 1) d_N_writeOut_57 rfl jc_i_1 (Nat.le_of_ble_eq_true rfl) ?_
        refine jw_iinc (d := 1) d_N_writeOut_60 rfl jc_i_1 (Nat.le_of_ble_eq_true rfl) ?_
        refine jw_goto (tgt := 5) d_N_writeOut_63 (by decide) ?_
        exact h
    · have h := h.2 hc
      refine jw_aload_n (i := 0) d_N_writeOut_30 rfl rfl ?_
      refine jw_get (j := 0) (v := jw_a G 4) d_N_writeOut_31 (jw_kN ha) jw_c_N jw_oc_N (Nat.le_of_ble_eq_true rfl) jw_fl_N_9 rfl rfl ?_
      refine jw_get (j := 0) (v := jw_a G 5) d_N_writeOut_34 jw_k4 jw_c_G jw_oc_G (Nat.le_of_ble_eq_true rfl) jw_fl_N_50 rfl rfl ?_
      refine jw_iload d_N_writeOut_37 rfl ?_
      obtain ⟨j4, hj4, h⟩ := h
      refine jw_iald2 d_N_writeOut_39 jw_k5 (Nat.le_of_ble_eq_true rfl) hj4 ?_
      refine jw_iload_n (i := 1) d_N_writeOut_40 rfl rfl ?_
      refine jw_icmp_ne (tgt := 48) d_N_writeOut_41 (by decide) (fun hc => ?_) (fun hc => ?_)
      · have h := h.1 hc
        refine jw_iconst (v := 0) d_N_writeOut_48 jc_i_0 ?_
        obtain ⟨j5, hj5, h⟩ := h
        refine jw_zast2 d_N_writeOut_49 hq (Nat.le_of_ble_eq_true rfl) hj5 jw_b0 ?_
        refine jw_aload_n (i := 2) d_N_writeOut_50 rfl rfl ?_
        refine jw_iload d_N_writeOut_51 rfl ?_
        obtain ⟨j6, hj6, h⟩ := h
        refine jw_zald2 d_N_writeOut_53 hq (Nat.le_of_ble_eq_true rfl) hj6 ?_
        refine jw_if_eq (tgt := 60) d_N_writeOut_54 (by decide) (fun hc => ?_) (fun hc => ?_)
        · have h := h.1 hc
          refine jw_iinc (d := 1) d_N_writeOut_60 rfl jc_i_1 (Nat.le_of_ble_eq_true rfl) ?_
          refine jw_goto (tgt := 5) d_N_writeOut_63 (by decide) ?_
          exact h
        · have h := h.2 hc
          refine jw_iinc (d := 1) d_N_writeOut_57 rfl jc_i_1 (Nat.le_of_ble_eq_true rfl) ?_
          refine jw_iinc (d := 1) d_N_writeOut_60 rfl jc_i_1 (Nat.le_of_ble_eq_true rfl) ?_
          refine jw_goto (tgt := 5) d_N_writeOut_63 (by decide) ?_
          exact h
      · have h := h.2 hc
        refine jw_iconst (v := 1) d_N_writeOut_44 jc_i_1 ?_
        refine jw_goto (tgt := 49) d_N_writeOut_45 (by decide) ?_
        obtain ⟨j7, hj7, h⟩ := h
        refine jw_zast2 d_N_writeOut_49 hq (Nat.le_of_ble_eq_true rfl) hj7 jw_b1 ?_
        refine jw_aload_n (i := 2) d_N_writeOut_50 rfl rfl ?_
        refine jw_iload d_N_writeOut_51 rfl ?_
        obtain ⟨j8, hj8, h⟩ := h
        refine jw_zald2 d_N_writeOut_53 hq (Nat.le_of_ble_eq_true rfl) hj8 ?_
        refine jw_if_eq (tgt := 60) d_N_writeOut_54 (by decide) (fun hc => ?_) (fun hc => ?_)
        · have h := h.1 hc
          refine jw_iinc (d := 1) d_N_writeOut_60 rfl jc_i_1 (Nat.le_of_ble_eq_true rfl) ?_
          refine jw_goto (tgt := 5) d_N_writeOut_63 (by decide) ?_
          exact h
        · have h := h.2 hc
          refine jw_iinc (d := 1) d_N_writeOut_57 rfl jc_i_1 (Nat.le_of_ble_eq_true rfl) ?_
          refine jw_iinc (d := 1) d_N_writeOut_60 rfl jc_i_1 (Nat.le_of_ble_eq_true rfl) ?_
          refine jw_goto (tgt := 5) d_N_writeOut_63 (by decide) ?_
          exact h
set_option maxRecDepth 100000 in
theorem e_N_writeOut {l : Launch} {G : jw_G} {A : Nat → Prop} {a : Nat} (ha : a < 5) {x1 : Int32} {q : Nat} (hq : jw_KT[q]? = some (2, 40, [])) {M : jw_Mem} {Q : Int32 → jw_Mem → Prop} (h : ∀ X : jw_X0, (∀ r M', Q r M' → jw_R l X (jw_g G) A f_N_writeOut r M') → jw_X l X (jw_g G) A f_N_writeOut 5 [some (jw_a G (10 + 3 * a)), some (.int x1), some (jw_a G q), some (.int 0), some (.int 0)] [] M) : jw_M l (jw_g G) A f_N_writeOut [jw_a G (10 + 3 * a), .int x1, jw_a G q] M Q := by
  refine jw_M_of (by decide) (Nat.le_of_ble_eq_true rfl) (by intro v hv; simp at hv; rcases hv with rfl | rfl | rfl <;> rfl) (fun X hR => ?_)
  exact k_N_writeOut_0 ha hq (h X (fun r M' q => hR r M' q (fun ty h0 => by cases h0; rfl)))
