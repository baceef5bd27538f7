set_option maxRecDepth 100000 in
set_option maxHeartbeats 4000000 in
theorem k_M_isNode_0 {l : Launch} {X : jw_X0} {G : jw_G} {A : Nat → Prop} {x0 : Int32} {M : jw_Mem} (h : ((x0 < 0 → jw_R l X (jw_g G) A f_M_isNode 0 M) ∧ (¬ x0 < 0 → ((4 < x0 → jw_R l X (jw_g G) A f_M_isNode 0 M) ∧ (¬ 4 < x0 → jw_R l X (jw_g G) A f_M_isNode 1 M))))) : jw_X l X (jw_g G) A f_M_isNode 0 [some (.int x0)] [] M := by
  refine jw_iload_n (i := 0) d_M_isNode_0 rfl rfl ?_
  refine jw_if_lt (tgt := 13) d_M_isNode_1 (by decide) (fun hc => ?_) (fun hc => ?_)
  · have h := h.1 hc
    refine jw_iconst (v := 0) d_M_isNode_13 jc_i_0 ?_
    exact jw_ireturn d_M_isNode_14 rfl h
  · have h := h.2 hc
    refine jw_iload_n (i := 0) d_M_isNode_4 rfl rfl ?_
    refine jw_iconst (v := 4) d_M_isNode_5 jc_i_4 ?_
    refine jw_icmp_gt (tgt := 13) d_M_isNode_6 (by decide) (fun hc => ?_) (fun hc => ?_)
    · have h := h.1 hc
      refine jw_iconst (v := 0) d_M_isNode_13 jc_i_0 ?_
      exact jw_ireturn d_M_isNode_14 rfl h
    · have h := h.2 hc
      refine jw_iconst (v := 1) d_M_isNode_9 jc_i_1 ?_
      refine jw_goto (tgt := 14) d_M_isNode_10 (by decide) ?_
      exact jw_ireturn d_M_isNode_14 rfl h
set_option maxRecDepth 100000 in
theorem e_M_isNode {l : Launch} {G : jw_G} {A : Nat → Prop} {x0 : Int32} {M : jw_Mem} {Q : Int32 → jw_Mem → Prop} (h : ∀ X : jw_X0, (∀ r M', Q r M' → (r = 0 ∨ r = 1) → jw_R l X (jw_g G) A f_M_isNode r M') → ((x0 < 0 → jw_R l X (jw_g G) A f_M_isNode 0 M) ∧ (¬ x0 < 0 → ((4 < x0 → jw_R l X (jw_g G) A f_M_isNode 0 M) ∧ (¬ 4 < x0 → jw_R l X (jw_g G) A f_M_isNode 1 M))))) : jw_M l (jw_g G) A f_M_isNode [.int x0] M Q := by
  refine jw_M_of (by decide) (Nat.le_of_ble_eq_true rfl) (by intro v hv; simp at hv; rcases hv with rfl <;> rfl) (fun X hR => ?_)
  exact k_M_isNode_0  (h X (fun r M' q hb => hR r M' q (fun ty h0 => by cases h0; exact jw_nb hb)))

set_option maxRecDepth 100000 in
set_option maxHeartbeats 4000000 in
theorem k_M_isKey_0 {l : Launch} {X : jw_X0} {G : jw_G} {A : Nat → Prop} {x0 : Int32} {M : jw_Mem} (h : ((x0 < 0 → jw_R l X (jw_g G) A f_M_isKey 0 M) ∧ (¬ x0 < 0 → ((31 < x0 → jw_R l X (jw_g G) A f_M_isKey 0 M) ∧ (¬ 31 < x0 → jw_R l X (jw_g G) A f_M_isKey 1 M))))) : jw_X l X (jw_g G) A f_M_isKey 0 [some (.int x0)] [] M := by
  refine jw_iload_n (i := 0) d_M_isKey_0 rfl rfl ?_
  refine jw_if_lt (tgt := 14) d_M_isKey_1 (by decide) (fun hc => ?_) (fun hc => ?_)
  · have h := h.1 hc
    refine jw_iconst (v := 0) d_M_isKey_14 jc_i_0 ?_
    exact jw_ireturn d_M_isKey_15 rfl h
  · have h := h.2 hc
    refine jw_iload_n (i := 0) d_M_isKey_4 rfl rfl ?_
    refine jw_bipush (v := 31) d_M_isKey_5 jc_b_31 ?_
    refine jw_icmp_gt (tgt := 14) d_M_isKey_7 (by decide) (fun hc => ?_) (fun hc => ?_)
    · have h := h.1 hc
      refine jw_iconst (v := 0) d_M_isKey_14 jc_i_0 ?_
      exact jw_ireturn d_M_isKey_15 rfl h
    · have h := h.2 hc
      refine jw_iconst (v := 1) d_M_isKey_10 jc_i_1 ?_
      refine jw_goto (tgt := 15) d_M_isKey_11 (by decide) ?_
      exact jw_ireturn d_M_isKey_15 rfl h
set_option maxRecDepth 100000 in
theorem e_M_isKey {l : Launch} {G : jw_G} {A : Nat → Prop} {x0 : Int32} {M : jw_Mem} {Q : Int32 → jw_Mem → Prop} (h : ∀ X : jw_X0, (∀ r M', Q r M' → (r = 0 ∨ r = 1) → jw_R l X (jw_g G) A f_M_isKey r M') → ((x0 < 0 → jw_R l X (jw_g G) A f_M_isKey 0 M) ∧ (¬ x0 < 0 → ((31 < x0 → jw_R l X (jw_g G) A f_M_isKey 0 M) ∧ (¬ 31 < x0 → jw_R l X (jw_g G) A f_M_isKey 1 M))))) : jw_M l (jw_g G) A f_M_isKey [.int x0] M Q := by
  refine jw_M_of (by decide) (Nat.le_of_ble_eq_true rfl) (by intro v hv; simp at hv; rcases hv with rfl <;> rfl) (fun X hR => ?_)
  exact k_M_isKey_0  (h X (fun r M' q hb => hR r M' q (fun ty h0 => by cases h0; exact jw_nb hb)))

set_option maxRecDepth 100000 in
set_option maxHeartbeats 4000000 in
theorem k_M_reaches_0 {l : Launch} {X : jw_X0} {G : jw_G} {A : Nat → Prop} {x1 : Int32} {x2 : Int32} {M : jw_Mem} (h : (∃ j1 : Nat, (j1 < 5 ∧ x1 = nI j1) ∧ ((¬ (M 42 j1) = 0 → jw_R l X (jw_g G) A f_M_reaches 0 M) ∧ ((M 42 j1) = 0 → (∃ j2 : Nat, (j2 < 5 ∧ x2 = nI j2) ∧ ((¬ (M 42 j2) = 0 → jw_R l X (jw_g G) A f_M_reaches 0 M) ∧ ((M 42 j2) = 0 → (∃ j3 : Nat, (j3 < 25 ∧ ((5 * x1) + x2) = nI j3) ∧ ((¬ (M 43 j3) = 0 → jw_R l X (jw_g G) A f_M_reaches 0 M) ∧ ((M 43 j3) = 0 → jw_R l X (jw_g G) A f_M_reaches 1 M)))))))))) : jw_X l X (jw_g G) A f_M_reaches 0 [some (jw_a G 41), some (.int x1), some (.int x2)] [] M := by
  refine jw_aload_n (i := 0) d_M_reaches_0 rfl rfl ?_
  refine jw_get (j := 3) (v := jw_a G 42) d_M_reaches_1 jw_k41 jw_c_M jw_oc_M (Nat.le_of_ble_eq_true rfl) jw_fl_M_7 rfl rfl ?_
  refine jw_iload_n (i := 1) d_M_reaches_4 rfl rfl ?_
  obtain ⟨j1, hj1, h⟩ := h
  refine jw_zald2 d_M_reaches_5 jw_k42 (Nat.le_of_ble_eq_true rfl) hj1 ?_
  refine jw_if_ne (tgt := 35) d_M_reaches_6 (by decide) (fun hc => ?_) (fun hc => ?_)
  · have h := h.1 hc
    refine jw_iconst (v := 0) d_M_reaches_35 jc_i_0 ?_
    exact jw_ireturn d_M_reaches_36 rfl h
  · have h := h.2 hc
    refine jw_aload_n (i := 0) d_M_reaches_9 rfl rfl ?_
    refine jw_get (j := 3) (v := jw_a G 42) d_M_reaches_10 jw_k41 jw_c_M jw_oc_M (Nat.le_of_ble_eq_true rfl) jw_fl_M_7 rfl rfl ?_
    refine jw_iload_n (i := 2) d_M_reaches_13 rfl rfl ?_
    obtain ⟨j2, hj2, h⟩ := h
    refine jw_zald2 d_M_reaches_14 jw_k42 (Nat.le_of_ble_eq_true rfl) hj2 ?_
    refine jw_if_ne (tgt := 35) d_M_reaches_15 (by decide) (fun hc => ?_) (fun hc => ?_)
    · have h := h.1 hc
      refine jw_iconst (v := 0) d_M_reaches_35 jc_i_0 ?_
      exact jw_ireturn d_M_reaches_36 rfl h
    · have h := h.2 hc
      refine jw_aload_n (i := 0) d_M_reaches_18 rfl rfl ?_
      refine jw_get (j := 4) (v := jw_a G 43) d_M_reaches_19 jw_k41 jw_c_M jw_oc_M (Nat.le_of_ble_eq_true rfl) jw_fl_M_13 rfl rfl ?_
      refine jw_iconst (v := 5) d_M_reaches_22 jc_i_5 ?_
      refine jw_iload_n (i := 1) d_M_reaches_23 rfl rfl ?_
      refine jw_imul d_M_reaches_24 ?_
      refine jw_iload_n (i := 2) d_M_reaches_25 rfl rfl ?_
      refine jw_iadd d_M_reaches_26 ?_
      obtain ⟨j3, hj3, h⟩ := h
      refine jw_zald2 d_M_reaches_27 jw_k43 (Nat.le_of_ble_eq_true rfl) hj3 ?_
      refine jw_if_ne (tgt := 35) d_M_reaches_28 (by decide) (fun hc => ?_) (fun hc => ?_)
      · have h := h.1 hc
        refine jw_iconst (v := 0) d_M_reaches_35 jc_i_0 ?_
        exact jw_ireturn d_M_reaches_36 rfl h
      · have h := h.2 hc
        refine jw_iconst (v := 1) d_M_reaches_31 jc_i_1 ?_
        refine jw_goto (tgt := 36) d_M_reaches_32 (by decide) ?_
        exact jw_ireturn d_M_reaches_36 rfl h
set_option maxRecDepth 100000 in
theorem e_M_reaches {l : Launch} {G : jw_G} {A : Nat → Prop} {x1 : Int32} {x2 : Int32} {M : jw_Mem} {Q : Int32 → jw_Mem → Prop} (h : ∀ X : jw_X0, (∀ r M', Q r M' → (r = 0 ∨ r = 1) → jw_R l X (jw_g G) A f_M_reaches r M') → (∃ j1 : Nat, (j1 < 5 ∧ x1 = nI j1) ∧ ((¬ (M 42 j1) = 0 → jw_R l X (jw_g G) A f_M_reaches 0 M) ∧ ((M 42 j1) = 0 → (∃ j2 : Nat, (j2 < 5 ∧ x2 = nI j2) ∧ ((¬ (M 42 j2) = 0 → jw_R l X (jw_g G) A f_M_reaches 0 M) ∧ ((M 42 j2) = 0 → (∃ j3 : Nat, (j3 < 25 ∧ ((5 * x1) + x2) = nI j3) ∧ ((¬ (M 43 j3) = 0 → jw_R l X (jw_g G) A f_M_reaches 0 M) ∧ ((M 43 j3) = 0 → jw_R l X (jw_g G) A f_M_reaches 1 M)))))))))) : jw_M l (jw_g G) A f_M_reaches [jw_a G 41, .int x1, .int x2] M Q := by
  refine jw_M_of (by decide) (Nat.le_of_ble_eq_true rfl) (by intro v hv; simp at hv; rcases hv with rfl | rfl | rfl <;> rfl) (fun X hR => ?_)
  exact k_M_reaches_0  (h X (fun r M' q hb => hR r M' q (fun ty h0 => by cases h0; exact jw_nb hb)))

set_option maxRecDepth 100000 in
set_option maxHeartbeats 4000000 in
theorem k_M_token_0 {l : Launch} {X : jw_X0} {G : jw_G} {A : Nat → Prop} {x1 : Int32} {x2 : Int32} {M : jw_Mem} (h : jw_M l (jw_g G) A f_M_isNode [.int x1] M (fun r1 M1 => ((r1 = 0 → jw_R l X (jw_g G) A f_M_token 0 M1) ∧ (¬ r1 = 0 → ((x2 < 0 → jw_R l X (jw_g G) A f_M_token 0 M1) ∧ (¬ x2 < 0 → ((15 < x2 → jw_R l X (jw_g G) A f_M_token 0 M1) ∧ (¬ 15 < x2 → (∃ j1 : Nat, (j1 < 16 ∧ x2 = nI j1) ∧ (((M1 44 j1) = 0 → (∃ j2 : Nat, (j2 < 16 ∧ x2 = nI j2) ∧ jw_R l X (jw_g G) A f_M_token 1 (jw_U M1 44 j2 (x1 + 1)))) ∧ (¬ (M1 44 j1) = 0 → jw_R l X (jw_g G) A f_M_token 0 M1))))))))))) : jw_X l X (jw_g G) A f_M_token 0 [some (jw_a G 41), some (.int x1), some (.int x2)] [] M := by
  refine jw_iload_n (i := 1) d_M_token_0 rfl rfl ?_
  refine jw_callS (As := [.int x1]) (S := []) d_M_token_1 jw_ml_M_69 jw_st_f_M_isNode ⟨Nat.le_of_ble_eq_true rfl, Nat.le_of_ble_eq_true rfl⟩ rfl rfl (Nat.le_of_ble_eq_true rfl) (jw_M_mono h (fun r1 M1 h => ?_))
  refine jw_st (S' := [.int r1]) rfl ?_
  refine jw_if_eq (tgt := 26) d_M_token_4 (by decide) (fun hc => ?_) (fun hc => ?_)
  · have h := h.1 hc
    refine jw_iconst (v := 0) d_M_token_26 jc_i_0 ?_
    exact jw_ireturn d_M_token_27 rfl h
  · have h := h.2 hc
    refine jw_iload_n (i := 2) d_M_token_7 rfl rfl ?_
    refine jw_if_lt (tgt := 26) d_M_token_8 (by decide) (fun hc => ?_) (fun hc => ?_)
    · have h := h.1 hc
      refine jw_iconst (v := 0) d_M_token_26 jc_i_0 ?_
      exact jw_ireturn d_M_token_27 rfl h
    · have h := h.2 hc
      refine jw_iload_n (i := 2) d_M_token_11 rfl rfl ?_
      refine jw_bipush (v := 15) d_M_token_12 jc_b_15 ?_
      refine jw_icmp_gt (tgt := 26) d_M_token_14 (by decide) (fun hc => ?_) (fun hc => ?_)
      · have h := h.1 hc
        refine jw_iconst (v := 0) d_M_token_26 jc_i_0 ?_
        exact jw_ireturn d_M_token_27 rfl h
      · have h := h.2 hc
        refine jw_aload_n (i := 0) d_M_token_17 rfl rfl ?_
        refine jw_get (j := 5) (v := jw_a G 44) d_M_token_18 jw_k41 jw_c_M jw_oc_M (Nat.le_of_ble_eq_true rfl) jw_fl_M_16 rfl rfl ?_
        refine jw_iload_n (i := 2) d_M_token_21 rfl rfl ?_
        obtain ⟨j1, hj1, h⟩ := h
        refine jw_iald2 d_M_token_22 jw_k44 (Nat.le_of_ble_eq_true rfl) hj1 ?_
        refine jw_if_eq (tgt := 28) d_M_token_23 (by decide) (fun hc => ?_) (fun hc => ?_)
        · have h := h.1 hc
          refine jw_aload_n (i := 0) d_M_token_28 rfl rfl ?_
          refine jw_get (j := 5) (v := jw_a G 44) d_M_token_29 jw_k41 jw_c_M jw_oc_M (Nat.le_of_ble_eq_true rfl) jw_fl_M_16 rfl rfl ?_
          refine jw_iload_n (i := 2) d_M_token_32 rfl rfl ?_
          refine jw_iload_n (i := 1) d_M_token_33 rfl rfl ?_
          refine jw_iconst (v := 1) d_M_token_34 jc_i_1 ?_
          refine jw_iadd d_M_token_35 ?_
          obtain ⟨j2, hj2, h⟩ := h
          refine jw_iast2 d_M_token_36 jw_k44 (Nat.le_of_ble_eq_true rfl) hj2 ?_
          refine jw_iconst (v := 1) d_M_token_37 jc_i_1 ?_
          exact jw_ireturn d_M_token_38 rfl h
        · have h := h.2 hc
          refine jw_iconst (v := 0) d_M_token_26 jc_i_0 ?_
          exact jw_ireturn d_M_token_27 rfl h
set_option maxRecDepth 100000 in
theorem e_M_token {l : Launch} {G : jw_G} {A : Nat → Prop} {x1 : Int32} {x2 : Int32} {M : jw_Mem} {Q : Int32 → jw_Mem → Prop} (h : ∀ X : jw_X0, (∀ r M', Q r M' → (r = 0 ∨ r = 1) → jw_R l X (jw_g G) A f_M_token r M') → jw_M l (jw_g G) A f_M_isNode [.int x1] M (fun r1 M1 => ((r1 = 0 → jw_R l X (jw_g G) A f_M_token 0 M1) ∧ (¬ r1 = 0 → ((x2 < 0 → jw_R l X (jw_g G) A f_M_token 0 M1) ∧ (¬ x2 < 0 → ((15 < x2 → jw_R l X (jw_g G) A f_M_token 0 M1) ∧ (¬ 15 < x2 → (∃ j1 : Nat, (j1 < 16 ∧ x2 = nI j1) ∧ (((M1 44 j1) = 0 → (∃ j2 : Nat, (j2 < 16 ∧ x2 = nI j2) ∧ jw_R l X (jw_g G) A f_M_token 1 (jw_U M1 44 j2 (x1 + 1)))) ∧ (¬ (M1 44 j1) = 0 → jw_R l X (jw_g G) A f_M_token 0 M1))))))))))) : jw_M l (jw_g G) A f_M_token [jw_a G 41, .int x1, .int x2] M Q := by
  refine jw_M_of (by decide) (Nat.le_of_ble_eq_true rfl) (by intro v hv; simp at hv; rcases hv with rfl | rfl | rfl <;> rfl) (fun X hR => ?_)
  exact k_M_token_0  (h X (fun r M' q hb => hR r M' q (fun ty h0 => by cases h0; exact jw_nb hb)))

set_option maxRecDepth 100000 in
set_option maxHeartbeats 4000000 in
theorem k_M_remove_0 {l : Launch} {X : jw_X0} {G : jw_G} {A : Nat → Prop} {x1 : Int32} {M : jw_Mem} (h : ((x1 < 0 → jw_R l X (jw_g G) A f_M_remove 0 M) ∧ (¬ x1 < 0 → ((15 < x1 → jw_R l X (jw_g G) A f_M_remove 0 M) ∧ (¬ 15 < x1 → (∃ j1 : Nat, (j1 < 16 ∧ x1 = nI j1) ∧ ((¬ (M 44 j1) = 0 → (∃ j2 : Nat, (j2 < 16 ∧ x1 = nI j2) ∧ jw_R l X (jw_g G) A f_M_remove 1 (jw_U M 44 j2 0))) ∧ ((M 44 j1) = 0 → jw_R l X (jw_g G) A f_M_remove 0 M)))))))) : jw_X l X (jw_g G) A f_M_remove 0 [some (jw_a G 41), some (.int x1)] [] M := by
  refine jw_iload_n (i := 1) d_M_remove_0 rfl rfl ?_
  refine jw_if_lt (tgt := 19) d_M_remove_1 (by decide) (fun hc => ?_) (fun hc => ?_)
  · have h := h.1 hc
    refine jw_iconst (v := 0) d_M_remove_19 jc_i_0 ?_
    exact jw_ireturn d_M_remove_20 rfl h
  · have h := h.2 hc
    refine jw_iload_n (i := 1) d_M_remove_4 rfl rfl ?_
    refine jw_bipush (v := 15) d_M_remove_5 jc_b_15 ?_
    refine jw_icmp_gt (tgt := 19) d_M_remove_7 (by decide) (fun hc => ?_) (fun hc => ?_)
    · have h := h.1 hc
      refine jw_iconst (v := 0) d_M_remove_19 jc_i_0 ?_
      exact jw_ireturn d_M_remove_20 rfl h
    · have h := h.2 hc
      refine jw_aload_n (i := 0) d_M_remove_10 rfl rfl ?_
      refine jw_get (j := 5) (v := jw_a G 44) d_M_remove_11 jw_k41 jw_c_M jw_oc_M (Nat.le_of_ble_eq_true rfl) jw_fl_M_16 rfl rfl ?_
      refine jw_iload_n (i := 1) d_M_remove_14 rfl rfl ?_
      obtain ⟨j1, hj1, h⟩ := h
      refine jw_iald2 d_M_remove_15 jw_k44 (Nat.le_of_ble_eq_true rfl) hj1 ?_
      refine jw_if_ne (tgt := 21) d_M_remove_16 (by decide) (fun hc => ?_) (fun hc => ?_)
      · have h := h.1 hc
        refine jw_aload_n (i := 0) d_M_remove_21 rfl rfl ?_
        refine jw_get (j := 5) (v := jw_a G 44) d_M_remove_22 jw_k41 jw_c_M jw_oc_M (Nat.le_of_ble_eq_true rfl) jw_fl_M_16 rfl rfl ?_
        refine jw_iload_n (i := 1) d_M_remove_25 rfl rfl ?_
        refine jw_iconst (v := 0) d_M_remove_26 jc_i_0 ?_
        obtain ⟨j2, hj2, h⟩ := h
        refine jw_iast2 d_M_remove_27 jw_k44 (Nat.le_of_ble_eq_true rfl) hj2 ?_
        refine jw_iconst (v := 1) d_M_remove_28 jc_i_1 ?_
        exact jw_ireturn d_M_remove_29 rfl h
      · have h := h.2 hc
        refine jw_iconst (v := 0) d_M_remove_19 jc_i_0 ?_
        exact jw_ireturn d_M_remove_20 rfl h
set_option maxRecDepth 100000 in
theorem e_M_remove {l : Launch} {G : jw_G} {A : Nat → Prop} {x1 : Int32} {M : jw_Mem} {Q : Int32 → jw_Mem → Prop} (h : ∀ X : jw_X0, (∀ r M', Q r M' → (r = 0 ∨ r = 1) → jw_R l X (jw_g G) A f_M_remove r M') → ((x1 < 0 → jw_R l X (jw_g G) A f_M_remove 0 M) ∧ (¬ x1 < 0 → ((15 < x1 → jw_R l X (jw_g G) A f_M_remove 0 M) ∧ (¬ 15 < x1 → (∃ j1 : Nat, (j1 < 16 ∧ x1 = nI j1) ∧ ((¬ (M 44 j1) = 0 → (∃ j2 : Nat, (j2 < 16 ∧ x1 = nI j2) ∧ jw_R l X (jw_g G) A f_M_remove 1 (jw_U M 44 j2 0))) ∧ ((M 44 j1) = 0 → jw_R l X (jw_g G) A f_M_remove 0 M)))))))) : jw_M l (jw_g G) A f_M_remove [jw_a G 41, .int x1] M Q := by
  refine jw_M_of (by decide) (Nat.le_of_ble_eq_true rfl) (by intro v hv; simp at hv; rcases hv with rfl | rfl <;> rfl) (fun X hR => ?_)
  exact k_M_remove_0  (h X (fun r M' q hb => hR r M' q (fun ty h0 => by cases h0; exact jw_nb hb)))

set_option maxRecDepth 100000 in
set_option maxHeartbeats 4000000 in
theorem k_M_power_0 {l : Launch} {X : jw_X0} {G : jw_G} {A : Nat → Prop} {x1 : Int32} {x2 : Int32} {M : jw_Mem} (h : jw_M l (jw_g G) A f_M_isNode [.int x1] M (fun r1 M1 => ((r1 = 0 → jw_R l X (jw_g G) A f_M_power 0 M1) ∧ (¬ r1 = 0 → (∃ j1 : Nat, (j1 < 5 ∧ x1 = nI j1) ∧ (((M1 42 j1) = x2 → ((¬ x2 = 0 → (∃ j2 : Nat, (j2 < 5 ∧ x1 = nI j2) ∧ jw_R l X (jw_g G) A f_M_power 1 (jw_U M1 42 j2 0))) ∧ (x2 = 0 → (∃ j3 : Nat, (j3 < 5 ∧ x1 = nI j3) ∧ jw_R l X (jw_g G) A f_M_power 1 (jw_U M1 42 j3 1))))) ∧ (¬ (M1 42 j1) = x2 → jw_R l X (jw_g G) A f_M_power 0 M1))))))) : jw_X l X (jw_g G) A f_M_power 0 [some (jw_a G 41), some (.int x1), some (.int x2)] [] M := by
  refine jw_iload_n (i := 1) d_M_power_0 rfl rfl ?_
  refine jw_callS (As := [.int x1]) (S := []) d_M_power_1 jw_ml_M_69 jw_st_f_M_isNode ⟨Nat.le_of_ble_eq_true rfl, Nat.le_of_ble_eq_true rfl⟩ rfl rfl (Nat.le_of_ble_eq_true rfl) (jw_M_mono h (fun r1 M1 h => ?_))
  refine jw_st (S' := [.int r1]) rfl ?_
  refine jw_if_eq (tgt := 17) d_M_power_4 (by decide) (fun hc => ?_) (fun hc => ?_)
  · have h := h.1 hc
    refine jw_iconst (v := 0) d_M_power_17 jc_i_0 ?_
    exact jw_ireturn d_M_power_18 rfl h
  · have h := h.2 hc
    refine jw_aload_n (i := 0) d_M_power_7 rfl rfl ?_
    refine jw_get (j := 3) (v := jw_a G 42) d_M_power_8 jw_k41 jw_c_M jw_oc_M (Nat.le_of_ble_eq_true rfl) jw_fl_M_7 rfl rfl ?_
    refine jw_iload_n (i := 1) d_M_power_11 rfl rfl ?_
    obtain ⟨j1, hj1, h⟩ := h
    refine jw_zald2 d_M_power_12 jw_k42 (Nat.le_of_ble_eq_true rfl) hj1 ?_
    refine jw_iload_n (i := 2) d_M_power_13 rfl rfl ?_
    refine jw_icmp_eq (tgt := 19) d_M_power_14 (by decide) (fun hc => ?_) (fun hc => ?_)
    · have h := h.1 hc
      refine jw_aload_n (i := 0) d_M_power_19 rfl rfl ?_
      refine jw_get (j := 3) (v := jw_a G 42) d_M_power_20 jw_k41 jw_c_M jw_oc_M (Nat.le_of_ble_eq_true rfl) jw_fl_M_7 rfl rfl ?_
      refine jw_iload_n (i := 1) d_M_power_23 rfl rfl ?_
      refine jw_iload_n (i := 2) d_M_power_24 rfl rfl ?_
      refine jw_if_ne (tgt := 32) d_M_power_25 (by decide) (fun hc => ?_) (fun hc => ?_)
      · have h := h.1 hc
        refine jw_iconst (v := 0) d_M_power_32 jc_i_0 ?_
        obtain ⟨j2, hj2, h⟩ := h
        refine jw_zast2 d_M_power_33 jw_k42 (Nat.le_of_ble_eq_true rfl) hj2 jw_b0 ?_
        refine jw_iconst (v := 1) d_M_power_34 jc_i_1 ?_
        exact jw_ireturn d_M_power_35 rfl h
      · have h := h.2 hc
        refine jw_iconst (v := 1) d_M_power_28 jc_i_1 ?_
        refine jw_goto (tgt := 33) d_M_power_29 (by decide) ?_
        obtain ⟨j3, hj3, h⟩ := h
        refine jw_zast2 d_M_power_33 jw_k42 (Nat.le_of_ble_eq_true rfl) hj3 jw_b1 ?_
        refine jw_iconst (v := 1) d_M_power_34 jc_i_1 ?_
        exact jw_ireturn d_M_power_35 rfl h
    · have h := h.2 hc
      refine jw_iconst (v := 0) d_M_power_17 jc_i_0 ?_
      exact jw_ireturn d_M_power_18 rfl h
set_option maxRecDepth 100000 in
theorem e_M_power {l : Launch} {G : jw_G} {A : Nat → Prop} {x1 : Int32} {x2 : Int32} {M : jw_Mem} {Q : Int32 → jw_Mem → Prop} (h : ∀ X : jw_X0, (∀ r M', Q r M' → (r = 0 ∨ r = 1) → jw_R l X (jw_g G) A f_M_power r M') → jw_M l (jw_g G) A f_M_isNode [.int x1] M (fun r1 M1 => ((r1 = 0 → jw_R l X (jw_g G) A f_M_power 0 M1) ∧ (¬ r1 = 0 → (∃ j1 : Nat, (j1 < 5 ∧ x1 = nI j1) ∧ (((M1 42 j1) = x2 → ((¬ x2 = 0 → (∃ j2 : Nat, (j2 < 5 ∧ x1 = nI j2) ∧ jw_R l X (jw_g G) A f_M_power 1 (jw_U M1 42 j2 0))) ∧ (x2 = 0 → (∃ j3 : Nat, (j3 < 5 ∧ x1 = nI j3) ∧ jw_R l X (jw_g G) A f_M_power 1 (jw_U M1 42 j3 1))))) ∧ (¬ (M1 42 j1) = x2 → jw_R l X (jw_g G) A f_M_power 0 M1))))))) : jw_M l (jw_g G) A f_M_power [jw_a G 41, .int x1, .int x2] M Q := by
  refine jw_M_of (by decide) (Nat.le_of_ble_eq_true rfl) (by intro v hv; simp at hv; rcases hv with rfl | rfl | rfl <;> rfl) (fun X hR => ?_)
  exact k_M_power_0  (h X (fun r M' q hb => hR r M' q (fun ty h0 => by cases h0; exact jw_nb hb)))

set_option maxRecDepth 100000 in
set_option maxHeartbeats 4000000 in
theorem k_M_cut_0 {l : Launch} {X : jw_X0} {G : jw_G} {A : Nat → Prop} {x1 : Int32} {x2 : Int32} {x3 : Int32} {M : jw_Mem} (h : jw_M l (jw_g G) A f_M_isNode [.int x1] M (fun r1 M1 => ((r1 = 0 → jw_R l X (jw_g G) A f_M_cut 0 M1) ∧ (¬ r1 = 0 → jw_M l (jw_g G) A f_M_isNode [.int x2] M1 (fun r2 M2 => ((r2 = 0 → jw_R l X (jw_g G) A f_M_cut 0 M2) ∧ (¬ r2 = 0 → ((x1 = x2 → jw_R l X (jw_g G) A f_M_cut 0 M2) ∧ (¬ x1 = x2 → (∃ j1 : Nat, (j1 < 25 ∧ ((5 * x1) + x2) = nI j1) ∧ ((¬ (M2 43 j1) = x3 → (∃ j2 : Nat, (j2 < 25 ∧ ((5 * x1) + x2) = nI j2) ∧ (x3 = 0 ∨ x3 = 1) ∧ (∃ j3 : Nat, (j3 < 25 ∧ ((5 * x2) + x1) = nI j3) ∧ (x3 = 0 ∨ x3 = 1) ∧ jw_R l X (jw_g G) A f_M_cut 1 (jw_U (jw_U M2 43 j2 x3) 43 j3 x3)))) ∧ ((M2 43 j1) = x3 → jw_R l X (jw_g G) A f_M_cut 0 M2)))))))))))) : jw_X l X (jw_g G) A f_M_cut 0 [some (jw_a G 41), some (.int x1), some (.int x2), some (.int x3)] [] M := by
  refine jw_iload_n (i := 1) d_M_cut_0 rfl rfl ?_
  refine jw_callS (As := [.int x1]) (S := []) d_M_cut_1 jw_ml_M_69 jw_st_f_M_isNode ⟨Nat.le_of_ble_eq_true rfl, Nat.le_of_ble_eq_true rfl⟩ rfl rfl (Nat.le_of_ble_eq_true rfl) (jw_M_mono h (fun r1 M1 h => ?_))
  refine jw_st (S' := [.int r1]) rfl ?_
  refine jw_if_eq (tgt := 33) d_M_cut_4 (by decide) (fun hc => ?_) (fun hc => ?_)
  · have h := h.1 hc
    refine jw_iconst (v := 0) d_M_cut_33 jc_i_0 ?_
    exact jw_ireturn d_M_cut_34 rfl h
  · have h := h.2 hc
    refine jw_iload_n (i := 2) d_M_cut_7 rfl rfl ?_
    refine jw_callS (As := [.int x2]) (S := []) d_M_cut_8 jw_ml_M_69 jw_st_f_M_isNode ⟨Nat.le_of_ble_eq_true rfl, Nat.le_of_ble_eq_true rfl⟩ rfl rfl (Nat.le_of_ble_eq_true rfl) (jw_M_mono h (fun r2 M2 h => ?_))
    refine jw_st (S' := [.int r2]) rfl ?_
    refine jw_if_eq (tgt := 33) d_M_cut_11 (by decide) (fun hc => ?_) (fun hc => ?_)
    · have h := h.1 hc
      refine jw_iconst (v := 0) d_M_cut_33 jc_i_0 ?_
      exact jw_ireturn d_M_cut_34 rfl h
    · have h := h.2 hc
      refine jw_iload_n (i := 1) d_M_cut_14 rfl rfl ?_
      refine jw_iload_n (i := 2) d_M_cut_15 rfl rfl ?_
      refine jw_icmp_eq (tgt := 33) d_M_cut_16 (by decide) (fun hc => ?_) (fun hc => ?_)
      · have h := h.1 hc
        refine jw_iconst (v := 0) d_M_cut_33 jc_i_0 ?_
        exact jw_ireturn d_M_cut_34 rfl h
      · have h := h.2 hc
        refine jw_aload_n (i := 0) d_M_cut_19 rfl rfl ?_
        refine jw_get (j := 4) (v := jw_a G 43) d_M_cut_20 jw_k41 jw_c_M jw_oc_M (Nat.le_of_ble_eq_true rfl) jw_fl_M_13 rfl rfl ?_
        refine jw_iconst (v := 5) d_M_cut_23 jc_i_5 ?_
        refine jw_iload_n (i := 1) d_M_cut_24 rfl rfl ?_
        refine jw_imul d_M_cut_25 ?_
        refine jw_iload_n (i := 2) d_M_cut_26 rfl rfl ?_
        refine jw_iadd d_M_cut_27 ?_
        obtain ⟨j1, hj1, h⟩ := h
        refine jw_zald2 d_M_cut_28 jw_k43 (Nat.le_of_ble_eq_true rfl) hj1 ?_
        refine jw_iload_n (i := 3) d_M_cut_29 rfl rfl ?_
        refine jw_icmp_ne (tgt := 35) d_M_cut_30 (by decide) (fun hc => ?_) (fun hc => ?_)
        · have h := h.1 hc
          refine jw_aload_n (i := 0) d_M_cut_35 rfl rfl ?_
          refine jw_get (j := 4) (v := jw_a G 43) d_M_cut_36 jw_k41 jw_c_M jw_oc_M (Nat.le_of_ble_eq_true rfl) jw_fl_M_13 rfl rfl ?_
          refine jw_iconst (v := 5) d_M_cut_39 jc_i_5 ?_
          refine jw_iload_n (i := 1) d_M_cut_40 rfl rfl ?_
          refine jw_imul d_M_cut_41 ?_
          refine jw_iload_n (i := 2) d_M_cut_42 rfl rfl ?_
          refine jw_iadd d_M_cut_43 ?_
          refine jw_iload_n (i := 3) d_M_cut_44 rfl rfl ?_
          obtain ⟨j2, hj2, hbj2, h⟩ := h
          refine jw_zast2 d_M_cut_45 jw_k43 (Nat.le_of_ble_eq_true rfl) hj2 hbj2 ?_
          refine jw_aload_n (i := 0) d_M_cut_46 rfl rfl ?_
          refine jw_get (j := 4) (v := jw_a G 43) d_M_cut_47 jw_k41 jw_c_M jw_oc_M (Nat.le_of_ble_eq_true rfl) jw_fl_M_13 rfl rfl ?_
          refine jw_iconst (v := 5) d_M_cut_50 jc_i_5 ?_
          refine jw_iload_n (i := 2) d_M_cut_51 rfl rfl ?_
          refine jw_imul d_M_cut_52 ?_
          refine jw_iload_n (i := 1) d_M_cut_53 rfl rfl ?_
          refine jw_iadd d_M_cut_54 ?_
          refine jw_iload_n (i := 3) d_M_cut_55 rfl rfl ?_
          obtain ⟨j3, hj3, hbj3, h⟩ := h
          refine jw_zast2 d_M_cut_56 jw_k43 (Nat.le_of_ble_eq_true rfl) hj3 hbj3 ?_
          refine jw_iconst (v := 1) d_M_cut_57 jc_i_1 ?_
          exact jw_ireturn d_M_cut_58 rfl h
        · have h := h.2 hc
          refine jw_iconst (v := 0) d_M_cut_33 jc_i_0 ?_
          exact jw_ireturn d_M_cut_34 rfl h
set_option maxRecDepth 100000 in
theorem e_M_cut {l : Launch} {G : jw_G} {A : Nat → Prop} {x1 : Int32} {x2 : Int32} {x3 : Int32} {M : jw_Mem} {Q : Int32 → jw_Mem → Prop} (h : ∀ X : jw_X0, (∀ r M', Q r M' → (r = 0 ∨ r = 1) → jw_R l X (jw_g G) A f_M_cut r M') → jw_M l (jw_g G) A f_M_isNode [.int x1] M (fun r1 M1 => ((r1 = 0 → jw_R l X (jw_g G) A f_M_cut 0 M1) ∧ (¬ r1 = 0 → jw_M l (jw_g G) A f_M_isNode [.int x2] M1 (fun r2 M2 => ((r2 = 0 → jw_R l X (jw_g G) A f_M_cut 0 M2) ∧ (¬ r2 = 0 → ((x1 = x2 → jw_R l X (jw_g G) A f_M_cut 0 M2) ∧ (¬ x1 = x2 → (∃ j1 : Nat, (j1 < 25 ∧ ((5 * x1) + x2) = nI j1) ∧ ((¬ (M2 43 j1) = x3 → (∃ j2 : Nat, (j2 < 25 ∧ ((5 * x1) + x2) = nI j2) ∧ (x3 = 0 ∨ x3 = 1) ∧ (∃ j3 : Nat, (j3 < 25 ∧ ((5 * x2) + x1) = nI j3) ∧ (x3 = 0 ∨ x3 = 1) ∧ jw_R l X (jw_g G) A f_M_cut 1 (jw_U (jw_U M2 43 j2 x3) 43 j3 x3)))) ∧ ((M2 43 j1) = x3 → jw_R l X (jw_g G) A f_M_cut 0 M2)))))))))))) : jw_M l (jw_g G) A f_M_cut [jw_a G 41, .int x1, .int x2, .int x3] M Q := by
  refine jw_M_of (by decide) (Nat.le_of_ble_eq_true rfl) (by intro v hv; simp at hv; rcases hv with rfl | rfl | rfl | rfl <;> rfl) (fun X hR => ?_)
  exact k_M_cut_0  (h X (fun r M' q hb => hR r M' q (fun ty h0 => by cases h0; exact jw_nb hb)))

set_option maxRecDepth 100000 in
set_option maxHeartbeats 4000000 in
theorem k_M_placeIn_0 {l : Launch} {X : jw_X0} {G : jw_G} {A : Nat → Prop} {x1 : Int32} {M : jw_Mem} (h : jw_X l X (jw_g G) A f_M_placeIn 2 [some (jw_a G 41), some (.int x1), some (.int 0)] [] M) : jw_X l X (jw_g G) A f_M_placeIn 0 [some (jw_a G 41), some (.int x1), none] [] M := by
  refine jw_iconst (v := 0) d_M_placeIn_0 jc_i_0 ?_
  refine jw_istore_n (i := 2) d_M_placeIn_1 rfl (Nat.le_of_ble_eq_true rfl) ?_
  exact h
set_option maxRecDepth 100000 in
set_option maxHeartbeats 4000000 in
theorem k_M_placeIn_2 {l : Launch} {X : jw_X0} {G : jw_G} {A : Nat → Prop} {x1 x2 : Int32} {M : jw_Mem} (h : (((M 41 21) ≤ x2 → jw_R l X (jw_g G) A f_M_placeIn (-1) M) ∧ (¬ (M 41 21) ≤ x2 → (∃ j1 : Nat, (j1 < 5 ∧ x2 = nI j1) ∧ ((¬ (M 56 j1) = x1 → jw_X l X (jw_g G) A f_M_placeIn 2 [some (jw_a G 41), some (.int x1), some (.int (x2 + 1))] [] M) ∧ ((M 56 j1) = x1 → jw_R l X (jw_g G) A f_M_placeIn x2 M)))))) : jw_X l X (jw_g G) A f_M_placeIn 2 [some (jw_a G 41), some (.int x1), some (.int x2)] [] M := by
  refine jw_iload_n (i := 2) d_M_placeIn_2 rfl rfl ?_
  refine jw_aload_n (i := 0) d_M_placeIn_3 rfl rfl ?_
  refine jw_get (j := 21) (v := .int (M 41 21)) d_M_placeIn_4 jw_k41 jw_c_M jw_oc_M (Nat.le_of_ble_eq_true rfl) jw_fl_M_73 rfl rfl ?_
  refine jw_icmp_ge (tgt := 28) d_M_placeIn_7 (by decide) (fun hc => ?_) (fun hc => ?_)
  · have h := h.1 hc
    refine jw_iconst (v := (-1)) d_M_placeIn_28 jc_i_m1 ?_
    exact jw_ireturn d_M_placeIn_29 rfl h
  · have h := h.2 hc
    refine jw_aload_n (i := 0) d_M_placeIn_10 rfl rfl ?_
    refine jw_get (j := 20) (v := jw_a G 56) d_M_placeIn_11 jw_k41 jw_c_M jw_oc_M (Nat.le_of_ble_eq_true rfl) jw_fl_M_53 rfl rfl ?_
    refine jw_iload_n (i := 2) d_M_placeIn_14 rfl rfl ?_
    obtain ⟨j1, hj1, h⟩ := h
    refine jw_iald2 d_M_placeIn_15 jw_k56 (Nat.le_of_ble_eq_true rfl) hj1 ?_
    refine jw_iload_n (i := 1) d_M_placeIn_16 rfl rfl ?_
    refine jw_icmp_ne (tgt := 22) d_M_placeIn_17 (by decide) (fun hc => ?_) (fun hc => ?_)
    · have h := h.1 hc
      refine jw_iinc (d := 1) d_M_placeIn_22 rfl jc_i_1 (Nat.le_of_ble_eq_true rfl) ?_
      refine jw_goto (tgt := 2) d_M_placeIn_25 (by decide) ?_
      exact h
    · have h := h.2 hc
      refine jw_iload_n (i := 2) d_M_placeIn_20 rfl rfl ?_
      exact jw_ireturn d_M_placeIn_21 rfl h
set_option maxRecDepth 100000 in
theorem e_M_placeIn {l : Launch} {G : jw_G} {A : Nat → Prop} {x1 : Int32} {M : jw_Mem} {Q : Int32 → jw_Mem → Prop} (h : ∀ X : jw_X0, (∀ r M', Q r M' → jw_R l X (jw_g G) A f_M_placeIn r M') → jw_X l X (jw_g G) A f_M_placeIn 2 [some (jw_a G 41), some (.int x1), some (.int 0)] [] M) : jw_M l (jw_g G) A f_M_placeIn [jw_a G 41, .int x1] M Q := by
  refine jw_M_of (by decide) (Nat.le_of_ble_eq_true rfl) (by intro v hv; simp at hv; rcases hv with rfl | rfl <;> rfl) (fun X hR => ?_)
  exact k_M_placeIn_0  (h X (fun r M' q => hR r M' q (fun ty h0 => by cases h0; rfl)))

set_option maxRecDepth 100000 in
set_option maxHeartbeats 4000000 in
theorem k_M_list_0 {l : Launch} {X : jw_X0} {G : jw_G} {A : Nat → Prop} {x1 : Int32} {M : jw_Mem} (h : jw_X l X (jw_g G) A f_M_list 7 [some (jw_a G 41), some (.int x1), some (.int 0), none] [] (jw_U M 41 21 0)) : jw_X l X (jw_g G) A f_M_list 0 [some (jw_a G 41), some (.int x1), none, none] [] M := by
  refine jw_aload_n (i := 0) d_M_list_0 rfl rfl ?_
  refine jw_iconst (v := 0) d_M_list_1 jc_i_0 ?_
  refine jw_put (j := 21) d_M_list_2 jw_k41 jw_c_M jw_oc_M (Nat.le_of_ble_eq_true rfl) jw_fl_M_73 rfl rfl rfl rfl ?_
  refine jw_iconst (v := 0) d_M_list_5 jc_i_0 ?_
  refine jw_istore_n (i := 2) d_M_list_6 rfl (Nat.le_of_ble_eq_true rfl) ?_
  exact h
set_option maxRecDepth 100000 in
set_option maxHeartbeats 4000000 in
theorem k_M_list_7 {l : Launch} {X : jw_X0} {G : jw_G} {A : Nat → Prop} {x1 x2 : Int32} {M : jw_Mem} (h : ((16 ≤ x2 → jw_R l X (jw_g G) A f_M_list 0 M) ∧ (¬ 16 ≤ x2 → (∃ j1 : Nat, (j1 < 16 ∧ ((((5 * x1) + 3) + x2) - (((5 * x1) + 3) + x2) / 16 * 16) = nI j1) ∧ ((((M 44 j1) - 1) < 0 → jw_X l X (jw_g G) A f_M_list 7 [some (jw_a G 41), some (.int x1), some (.int (x2 + 1)), none] [] M) ∧ (¬ ((M 44 j1) - 1) < 0 → jw_M l (jw_g G) A f_M_placeIn [jw_a G 41, .int ((M 44 j1) - 1)] M (fun r1 M1 => ((0 ≤ r1 → jw_X l X (jw_g G) A f_M_list 7 [some (jw_a G 41), some (.int x1), some (.int (x2 + 1)), none] [] M1) ∧ (¬ 0 ≤ r1 → (∃ j2 : Nat, (j2 < 5 ∧ (M1 41 21) = nI j2) ∧ jw_X l X (jw_g G) A f_M_list 7 [some (jw_a G 41), some (.int x1), some (.int (x2 + 1)), none] [] (jw_U (jw_U M1 56 j2 ((M 44 j1) - 1)) 41 21 (((jw_U M1 56 j2 ((M 44 j1) - 1)) 41 21) + 1)))))))))))) : jw_X l X (jw_g G) A f_M_list 7 [some (jw_a G 41), some (.int x1), some (.int x2), none] [] M := by
  refine jw_iload_n (i := 2) d_M_list_7 rfl rfl ?_
  refine jw_bipush (v := 16) d_M_list_8 jc_b_16 ?_
  refine jw_icmp_ge (tgt := 69) d_M_list_10 (by decide) (fun hc => ?_) (fun hc => ?_)
  · have h := h.1 hc
    exact jw_return d_M_list_69 rfl h
  · have h := h.2 hc
    refine jw_aload_n (i := 0) d_M_list_13 rfl rfl ?_
    refine jw_get (j := 5) (v := jw_a G 44) d_M_list_14 jw_k41 jw_c_M jw_oc_M (Nat.le_of_ble_eq_true rfl) jw_fl_M_16 rfl rfl ?_
    refine jw_iconst (v := 5) d_M_list_17 jc_i_5 ?_
    refine jw_iload_n (i := 1) d_M_list_18 rfl rfl ?_
    refine jw_imul d_M_list_19 ?_
    refine jw_iconst (v := 3) d_M_list_20 jc_i_3 ?_
    refine jw_iadd d_M_list_21 ?_
    refine jw_iload_n (i := 2) d_M_list_22 rfl rfl ?_
    refine jw_iadd d_M_list_23 ?_
    refine jw_bipush (v := 16) d_M_list_24 jc_b_16 ?_
    refine jw_irem d_M_list_26 (by decide) ?_
    obtain ⟨j1, hj1, h⟩ := h
    refine jw_iald2 d_M_list_27 jw_k44 (Nat.le_of_ble_eq_true rfl) hj1 ?_
    refine jw_iconst (v := 1) d_M_list_28 jc_i_1 ?_
    refine jw_isub d_M_list_29 ?_
    refine jw_istore_n (i := 3) d_M_list_30 rfl (Nat.le_of_ble_eq_true rfl) ?_
    refine jw_iload_n (i := 3) d_M_list_31 rfl rfl ?_
    refine jw_if_lt (tgt := 63) d_M_list_32 (by decide) (fun hc => ?_) (fun hc => ?_)
    · have h := h.1 hc
      refine jw_iinc (d := 1) d_M_list_63 rfl jc_i_1 (Nat.le_of_ble_eq_true rfl) ?_
      refine jw_goto (tgt := 7) d_M_list_66 (by decide) ?_
      refine jw_forget 3 ?_
      exact h
    · have h := h.2 hc
      refine jw_aload_n (i := 0) d_M_list_35 rfl rfl ?_
      refine jw_iload_n (i := 3) d_M_list_36 rfl rfl ?_
      refine jw_callV (As := [.int ((M 44 j1) - 1)]) (S := []) d_M_list_37 jw_k41 jw_c_M jw_ml_M_76 jw_in_f_M_placeIn jw_se_f_M_placeIn ⟨Nat.le_of_ble_eq_true rfl, Nat.le_of_ble_eq_true rfl⟩ rfl rfl (Nat.le_of_ble_eq_true rfl) (jw_M_mono h (fun r1 M1 h => ?_))
      refine jw_st (S' := [.int r1]) rfl ?_
      refine jw_if_ge (tgt := 63) d_M_list_40 (by decide) (fun hc => ?_) (fun hc => ?_)
      · have h := h.1 hc
        refine jw_iinc (d := 1) d_M_list_63 rfl jc_i_1 (Nat.le_of_ble_eq_true rfl) ?_
        refine jw_goto (tgt := 7) d_M_list_66 (by decide) ?_
        refine jw_forget 3 ?_
        exact h
      · have h := h.2 hc
        refine jw_aload_n (i := 0) d_M_list_43 rfl rfl ?_
        refine jw_get (j := 20) (v := jw_a G 56) d_M_list_44 jw_k41 jw_c_M jw_oc_M (Nat.le_of_ble_eq_true rfl) jw_fl_M_53 rfl rfl ?_
        refine jw_aload_n (i := 0) d_M_list_47 rfl rfl ?_
        refine jw_get (j := 21) (v := .int (M1 41 21)) d_M_list_48 jw_k41 jw_c_M jw_oc_M (Nat.le_of_ble_eq_true rfl) jw_fl_M_73 rfl rfl ?_
        refine jw_iload_n (i := 3) d_M_list_51 rfl rfl ?_
        obtain ⟨j2, hj2, h⟩ := h
        refine jw_iast2 d_M_list_52 jw_k56 (Nat.le_of_ble_eq_true rfl) hj2 ?_
        refine jw_aload_n (i := 0) d_M_list_53 rfl rfl ?_
        refine jw_dup d_M_list_54 rfl ?_
        refine jw_get (j := 21) (v := .int ((jw_U M1 56 j2 ((M 44 j1) - 1)) 41 21)) d_M_list_55 jw_k41 jw_c_M jw_oc_M (Nat.le_of_ble_eq_true rfl) jw_fl_M_73 rfl rfl ?_
        refine jw_iconst (v := 1) d_M_list_58 jc_i_1 ?_
        refine jw_iadd d_M_list_59 ?_
        refine jw_put (j := 21) d_M_list_60 jw_k41 jw_c_M jw_oc_M (Nat.le_of_ble_eq_true rfl) jw_fl_M_73 rfl rfl rfl rfl ?_
        refine jw_iinc (d := 1) d_M_list_63 rfl jc_i_1 (Nat.le_of_ble_eq_true rfl) ?_
        refine jw_goto (tgt := 7) d_M_list_66 (by decide) ?_
        refine jw_forget 3 ?_
        exact h
set_option maxRecDepth 100000 in
theorem e_M_list {l : Launch} {G : jw_G} {A : Nat → Prop} {x1 : Int32} {M : jw_Mem} {Q : Int32 → jw_Mem → Prop} (h : ∀ X : jw_X0, (∀ M', Q 0 M' → jw_R l X (jw_g G) A f_M_list 0 M') → jw_X l X (jw_g G) A f_M_list 7 [some (jw_a G 41), some (.int x1), some (.int 0), none] [] (jw_U M 41 21 0)) : jw_M l (jw_g G) A f_M_list [jw_a G 41, .int x1] M Q := by
  refine jw_M_of (by decide) (Nat.le_of_ble_eq_true rfl) (by intro v hv; simp at hv; rcases hv with rfl | rfl <;> rfl) (fun X hR => ?_)
  exact k_M_list_0  (h X (fun M' q => hR 0 M' q (fun ty h0 => nomatch h0)))

set_option maxRecDepth 100000 in
set_option maxHeartbeats 4000000 in
theorem k_M_homes_0 {l : Launch} {X : jw_X0} {G : jw_G} {A : Nat → Prop}  {M : jw_Mem} (h : (((M 41 0) ≤ (M 41 21) → jw_R l X (jw_g G) A f_M_homes (M 41 0) M) ∧ (¬ (M 41 0) ≤ (M 41 21) → jw_R l X (jw_g G) A f_M_homes (M 41 21) M))) : jw_X l X (jw_g G) A f_M_homes 0 [some (jw_a G 41)] [] M := by
  refine jw_aload_n (i := 0) d_M_homes_0 rfl rfl ?_
  refine jw_get (j := 21) (v := .int (M 41 21)) d_M_homes_1 jw_k41 jw_c_M jw_oc_M (Nat.le_of_ble_eq_true rfl) jw_fl_M_73 rfl rfl ?_
  refine jw_aload_n (i := 0) d_M_homes_4 rfl rfl ?_
  refine jw_get (j := 0) (v := .int (M 41 0)) d_M_homes_5 jw_k41 jw_c_M jw_oc_M (Nat.le_of_ble_eq_true rfl) jw_fl_M_59 rfl rfl ?_
  refine jw_icmp_ge (tgt := 18) d_M_homes_8 (by decide) (fun hc => ?_) (fun hc => ?_)
  · have h := h.1 hc
    refine jw_aload_n (i := 0) d_M_homes_18 rfl rfl ?_
    refine jw_get (j := 0) (v := .int (M 41 0)) d_M_homes_19 jw_k41 jw_c_M jw_oc_M (Nat.le_of_ble_eq_true rfl) jw_fl_M_59 rfl rfl ?_
    exact jw_ireturn d_M_homes_22 rfl h
  · have h := h.2 hc
    refine jw_aload_n (i := 0) d_M_homes_11 rfl rfl ?_
    refine jw_get (j := 21) (v := .int (M 41 21)) d_M_homes_12 jw_k41 jw_c_M jw_oc_M (Nat.le_of_ble_eq_true rfl) jw_fl_M_73 rfl rfl ?_
    refine jw_goto (tgt := 22) d_M_homes_15 (by decide) ?_
    exact jw_ireturn d_M_homes_22 rfl h
set_option maxRecDepth 100000 in
theorem e_M_homes {l : Launch} {G : jw_G} {A : Nat → Prop}  {M : jw_Mem} {Q : Int32 → jw_Mem → Prop} (h : ∀ X : jw_X0, (∀ r M', Q r M' → jw_R l X (jw_g G) A f_M_homes r M') → (((M 41 0) ≤ (M 41 21) → jw_R l X (jw_g G) A f_M_homes (M 41 0) M) ∧ (¬ (M 41 0) ≤ (M 41 21) → jw_R l X (jw_g G) A f_M_homes (M 41 21) M))) : jw_M l (jw_g G) A f_M_homes [jw_a G 41] M Q := by
  refine jw_M_of (by decide) (Nat.le_of_ble_eq_true rfl) (by intro v hv; simp at hv; rcases hv with rfl <;> rfl) (fun X hR => ?_)
  exact k_M_homes_0  (h X (fun r M' q => hR r M' q (fun ty h0 => by cases h0; rfl)))

set_option maxRecDepth 100000 in
set_option maxHeartbeats 4000000 in
theorem k_M_isHome_0 {l : Launch} {X : jw_X0} {G : jw_G} {A : Nat → Prop} {x1 : Int32} {x2 : Int32} {M : jw_Mem} (h : jw_M l (jw_g G) A f_M_list [jw_a G 41, .int x2] M (fun _ M1 => jw_M l (jw_g G) A f_M_placeIn [jw_a G 41, .int x1] M1 (fun r2 M2 => ((r2 < 0 → jw_R l X (jw_g G) A f_M_isHome 0 M2) ∧ (¬ r2 < 0 → (((M2 41 0) ≤ r2 → jw_R l X (jw_g G) A f_M_isHome 0 M2) ∧ (¬ (M2 41 0) ≤ r2 → jw_R l X (jw_g G) A f_M_isHome 1 M2))))))) : jw_X l X (jw_g G) A f_M_isHome 0 [some (jw_a G 41), some (.int x1), some (.int x2), none] [] M := by
  refine jw_aload_n (i := 0) d_M_isHome_0 rfl rfl ?_
  refine jw_iload_n (i := 2) d_M_isHome_1 rfl rfl ?_
  refine jw_callV (As := [.int x2]) (S := []) d_M_isHome_2 jw_k41 jw_c_M jw_ml_M_80 jw_in_f_M_list jw_se_f_M_list ⟨Nat.le_of_ble_eq_true rfl, Nat.le_of_ble_eq_true rfl⟩ rfl rfl (Nat.le_of_ble_eq_true rfl) (jw_M_mono h (fun r1 M1 h => ?_))
  refine jw_st (S' := []) rfl ?_
  refine jw_aload_n (i := 0) d_M_isHome_5 rfl rfl ?_
  refine jw_iload_n (i := 1) d_M_isHome_6 rfl rfl ?_
  refine jw_callV (As := [.int x1]) (S := []) d_M_isHome_7 jw_k41 jw_c_M jw_ml_M_76 jw_in_f_M_placeIn jw_se_f_M_placeIn ⟨Nat.le_of_ble_eq_true rfl, Nat.le_of_ble_eq_true rfl⟩ rfl rfl (Nat.le_of_ble_eq_true rfl) (jw_M_mono h (fun r2 M2 h => ?_))
  refine jw_st (S' := [.int r2]) rfl ?_
  refine jw_istore_n (i := 3) d_M_isHome_10 rfl (Nat.le_of_ble_eq_true rfl) ?_
  refine jw_iload_n (i := 3) d_M_isHome_11 rfl rfl ?_
  refine jw_if_lt (tgt := 27) d_M_isHome_12 (by decide) (fun hc => ?_) (fun hc => ?_)
  · have h := h.1 hc
    refine jw_iconst (v := 0) d_M_isHome_27 jc_i_0 ?_
    exact jw_ireturn d_M_isHome_28 rfl h
  · have h := h.2 hc
    refine jw_iload_n (i := 3) d_M_isHome_15 rfl rfl ?_
    refine jw_aload_n (i := 0) d_M_isHome_16 rfl rfl ?_
    refine jw_get (j := 0) (v := .int (M2 41 0)) d_M_isHome_17 jw_k41 jw_c_M jw_oc_M (Nat.le_of_ble_eq_true rfl) jw_fl_M_59 rfl rfl ?_
    refine jw_icmp_ge (tgt := 27) d_M_isHome_20 (by decide) (fun hc => ?_) (fun hc => ?_)
    · have h := h.1 hc
      refine jw_iconst (v := 0) d_M_isHome_27 jc_i_0 ?_
      exact jw_ireturn d_M_isHome_28 rfl h
    · have h := h.2 hc
      refine jw_iconst (v := 1) d_M_isHome_23 jc_i_1 ?_
      refine jw_goto (tgt := 28) d_M_isHome_24 (by decide) ?_
      exact jw_ireturn d_M_isHome_28 rfl h
set_option maxRecDepth 100000 in
theorem e_M_isHome {l : Launch} {G : jw_G} {A : Nat → Prop} {x1 : Int32} {x2 : Int32} {M : jw_Mem} {Q : Int32 → jw_Mem → Prop} (h : ∀ X : jw_X0, (∀ r M', Q r M' → (r = 0 ∨ r = 1) → jw_R l X (jw_g G) A f_M_isHome r M') → jw_M l (jw_g G) A f_M_list [jw_a G 41, .int x2] M (fun _ M1 => jw_M l (jw_g G) A f_M_placeIn [jw_a G 41, .int x1] M1 (fun r2 M2 => ((r2 < 0 → jw_R l X (jw_g G) A f_M_isHome 0 M2) ∧ (¬ r2 < 0 → (((M2 41 0) ≤ r2 → jw_R l X (jw_g G) A f_M_isHome 0 M2) ∧ (¬ (M2 41 0) ≤ r2 → jw_R l X (jw_g G) A f_M_isHome 1 M2))))))) : jw_M l (jw_g G) A f_M_isHome [jw_a G 41, .int x1, .int x2] M Q := by
  refine jw_M_of (by decide) (Nat.le_of_ble_eq_true rfl) (by intro v hv; simp at hv; rcases hv with rfl | rfl | rfl <;> rfl) (fun X hR => ?_)
  exact k_M_isHome_0  (h X (fun r M' q hb => hR r M' q (fun ty h0 => by cases h0; exact jw_nb hb)))

set_option maxRecDepth 100000 in
set_option maxHeartbeats 4000000 in
theorem k_M_home_0 {l : Launch} {X : jw_X0} {G : jw_G} {A : Nat → Prop} {x1 : Int32} {x2 : Int32} {M : jw_Mem} (h : jw_M l (jw_g G) A f_M_isKey [.int x1] M (fun r1 M1 => ((r1 = 0 → jw_R l X (jw_g G) A f_M_home (-1) M1) ∧ (¬ r1 = 0 → ((0 ≤ x2 → jw_M l (jw_g G) A f_M_list [jw_a G 41, .int x1] M1 (fun _ M2 => jw_M l (jw_g G) A f_M_homes [jw_a G 41] M2 (fun r3 M3 => ((r3 ≤ x2 → jw_R l X (jw_g G) A f_M_home (-1) M3) ∧ (¬ r3 ≤ x2 → (∃ j1 : Nat, (j1 < 5 ∧ x2 = nI j1) ∧ jw_R l X (jw_g G) A f_M_home (M3 56 j1) M3)))))) ∧ (¬ 0 ≤ x2 → jw_R l X (jw_g G) A f_M_home (-1) M1)))))) : jw_X l X (jw_g G) A f_M_home 0 [some (jw_a G 41), some (.int x1), some (.int x2)] [] M := by
  refine jw_iload_n (i := 1) d_M_home_0 rfl rfl ?_
  refine jw_callS (As := [.int x1]) (S := []) d_M_home_1 jw_ml_M_84 jw_st_f_M_isKey ⟨Nat.le_of_ble_eq_true rfl, Nat.le_of_ble_eq_true rfl⟩ rfl rfl (Nat.le_of_ble_eq_true rfl) (jw_M_mono h (fun r1 M1 h => ?_))
  refine jw_st (S' := [.int r1]) rfl ?_
  refine jw_if_eq (tgt := 11) d_M_home_4 (by decide) (fun hc => ?_) (fun hc => ?_)
  · have h := h.1 hc
    refine jw_iconst (v := (-1)) d_M_home_11 jc_i_m1 ?_
    exact jw_ireturn d_M_home_12 rfl h
  · have h := h.2 hc
    refine jw_iload_n (i := 2) d_M_home_7 rfl rfl ?_
    refine jw_if_ge (tgt := 13) d_M_home_8 (by decide) (fun hc => ?_) (fun hc => ?_)
    · have h := h.1 hc
      refine jw_aload_n (i := 0) d_M_home_13 rfl rfl ?_
      refine jw_iload_n (i := 1) d_M_home_14 rfl rfl ?_
      refine jw_callV (As := [.int x1]) (S := []) d_M_home_15 jw_k41 jw_c_M jw_ml_M_80 jw_in_f_M_list jw_se_f_M_list ⟨Nat.le_of_ble_eq_true rfl, Nat.le_of_ble_eq_true rfl⟩ rfl rfl (Nat.le_of_ble_eq_true rfl) (jw_M_mono h (fun r2 M2 h => ?_))
      refine jw_st (S' := []) rfl ?_
      refine jw_iload_n (i := 2) d_M_home_18 rfl rfl ?_
      refine jw_aload_n (i := 0) d_M_home_19 rfl rfl ?_
      refine jw_callV (As := []) (S := [.int x2]) d_M_home_20 jw_k41 jw_c_M jw_ml_M_87 jw_in_f_M_homes jw_se_f_M_homes ⟨Nat.le_of_ble_eq_true rfl, Nat.le_of_ble_eq_true rfl⟩ rfl rfl (Nat.le_of_ble_eq_true rfl) (jw_M_mono h (fun r3 M3 h => ?_))
      refine jw_st (S' := [.int r3, .int x2]) rfl ?_
      refine jw_icmp_ge (tgt := 35) d_M_home_23 (by decide) (fun hc => ?_) (fun hc => ?_)
      · have h := h.1 hc
        refine jw_iconst (v := (-1)) d_M_home_35 jc_i_m1 ?_
        exact jw_ireturn d_M_home_36 rfl h
      · have h := h.2 hc
        refine jw_aload_n (i := 0) d_M_home_26 rfl rfl ?_
        refine jw_get (j := 20) (v := jw_a G 56) d_M_home_27 jw_k41 jw_c_M jw_oc_M (Nat.le_of_ble_eq_true rfl) jw_fl_M_53 rfl rfl ?_
        refine jw_iload_n (i := 2) d_M_home_30 rfl rfl ?_
        obtain ⟨j1, hj1, h⟩ := h
        refine jw_iald2 d_M_home_31 jw_k56 (Nat.le_of_ble_eq_true rfl) hj1 ?_
        refine jw_goto (tgt := 36) d_M_home_32 (by decide) ?_
        exact jw_ireturn d_M_home_36 rfl h
    · have h := h.2 hc
      refine jw_iconst (v := (-1)) d_M_home_11 jc_i_m1 ?_
      exact jw_ireturn d_M_home_12 rfl h
set_option maxRecDepth 100000 in
theorem e_M_home {l : Launch} {G : jw_G} {A : Nat → Prop} {x1 : Int32} {x2 : Int32} {M : jw_Mem} {Q : Int32 → jw_Mem → Prop} (h : ∀ X : jw_X0, (∀ r M', Q r M' → jw_R l X (jw_g G) A f_M_home r M') → jw_M l (jw_g G) A f_M_isKey [.int x1] M (fun r1 M1 => ((r1 = 0 → jw_R l X (jw_g G) A f_M_home (-1) M1) ∧ (¬ r1 = 0 → ((0 ≤ x2 → jw_M l (jw_g G) A f_M_list [jw_a G 41, .int x1] M1 (fun _ M2 => jw_M l (jw_g G) A f_M_homes [jw_a G 41] M2 (fun r3 M3 => ((r3 ≤ x2 → jw_R l X (jw_g G) A f_M_home (-1) M3) ∧ (¬ r3 ≤ x2 → (∃ j1 : Nat, (j1 < 5 ∧ x2 = nI j1) ∧ jw_R l X (jw_g G) A f_M_home (M3 56 j1) M3)))))) ∧ (¬ 0 ≤ x2 → jw_R l X (jw_g G) A f_M_home (-1) M1)))))) : jw_M l (jw_g G) A f_M_home [jw_a G 41, .int x1, .int x2] M Q := by
  refine jw_M_of (by decide) (Nat.le_of_ble_eq_true rfl) (by intro v hv; simp at hv; rcases hv with rfl | rfl | rfl <;> rfl) (fun X hR => ?_)
  exact k_M_home_0  (h X (fun r M' q => hR r M' q (fun ty h0 => by cases h0; rfl)))

set_option maxRecDepth 100000 in
set_option maxHeartbeats 4000000 in
theorem k_M_aim_0 {l : Launch} {X : jw_X0} {G : jw_G} {A : Nat → Prop} {x1 : Int32} {x2 : Int32} {M : jw_Mem} (h : jw_M l (jw_g G) A f_M_list [jw_a G 41, .int x2] M (fun _ M1 => jw_X l X (jw_g G) A f_M_aim 12 [some (jw_a G 41), some (.int x1), some (.int x2), some (.int 0)] [] (jw_U M1 41 23 0))) : jw_X l X (jw_g G) A f_M_aim 0 [some (jw_a G 41), some (.int x1), some (.int x2), none] [] M := by
  refine jw_aload_n (i := 0) d_M_aim_0 rfl rfl ?_
  refine jw_iload_n (i := 2) d_M_aim_1 rfl rfl ?_
  refine jw_callV (As := [.int x2]) (S := []) d_M_aim_2 jw_k41 jw_c_M jw_ml_M_80 jw_in_f_M_list jw_se_f_M_list ⟨Nat.le_of_ble_eq_true rfl, Nat.le_of_ble_eq_true rfl⟩ rfl rfl (Nat.le_of_ble_eq_true rfl) (jw_M_mono h (fun r1 M1 h => ?_))
  refine jw_st (S' := []) rfl ?_
  refine jw_aload_n (i := 0) d_M_aim_5 rfl rfl ?_
  refine jw_iconst (v := 0) d_M_aim_6 jc_i_0 ?_
  refine jw_put (j := 23) d_M_aim_7 jw_k41 jw_c_M jw_oc_M (Nat.le_of_ble_eq_true rfl) jw_fl_M_91 rfl rfl rfl rfl ?_
  refine jw_iconst (v := 0) d_M_aim_10 jc_i_0 ?_
  refine jw_istore_n (i := 3) d_M_aim_11 rfl (Nat.le_of_ble_eq_true rfl) ?_
  exact h
set_option maxRecDepth 100000 in
set_option maxHeartbeats 4000000 in
theorem k_M_aim_12 {l : Launch} {X : jw_X0} {G : jw_G} {A : Nat → Prop} {x1 x2 x3 : Int32} {M : jw_Mem} (h : (((M 41 21) ≤ x3 → jw_R l X (jw_g G) A f_M_aim 0 M) ∧ (¬ (M 41 21) ≤ x3 → (∃ j1 : Nat, (j1 < 5 ∧ x3 = nI j1) ∧ jw_M l (jw_g G) A f_M_reaches [jw_a G 41, .int x1, .int (M 56 j1)] M (fun r1 M1 => ((r1 = 0 → jw_X l X (jw_g G) A f_M_aim 12 [some (jw_a G 41), some (.int x1), some (.int x2), some (.int (x3 + 1))] [] M1) ∧ (¬ r1 = 0 → (((M1 41 0) ≤ (M1 41 23) → jw_X l X (jw_g G) A f_M_aim 12 [some (jw_a G 41), some (.int x1), some (.int x2), some (.int (x3 + 1))] [] M1) ∧ (¬ (M1 41 0) ≤ (M1 41 23) → (∃ j2 : Nat, (j2 < 5 ∧ x3 = nI j2) ∧ (∃ j3 : Nat, (j3 < 5 ∧ (M1 41 23) = nI j3) ∧ jw_X l X (jw_g G) A f_M_aim 12 [some (jw_a G 41), some (.int x1), some (.int x2), some (.int (x3 + 1))] [] (jw_U (jw_U M1 57 j3 (M1 56 j2)) 41 23 (((jw_U M1 57 j3 (M1 56 j2)) 41 23) + 1))))))))))))) : jw_X l X (jw_g G) A f_M_aim 12 [some (jw_a G 41), some (.int x1), some (.int x2), some (.int x3)] [] M := by
  refine jw_iload_n (i := 3) d_M_aim_12 rfl rfl ?_
  refine jw_aload_n (i := 0) d_M_aim_13 rfl rfl ?_
  refine jw_get (j := 21) (v := .int (M 41 21)) d_M_aim_14 jw_k41 jw_c_M jw_oc_M (Nat.le_of_ble_eq_true rfl) jw_fl_M_73 rfl rfl ?_
  refine jw_icmp_ge (tgt := 76) d_M_aim_17 (by decide) (fun hc => ?_) (fun hc => ?_)
  · have h := h.1 hc
    exact jw_return d_M_aim_76 rfl h
  · have h := h.2 hc
    refine jw_aload_n (i := 0) d_M_aim_20 rfl rfl ?_
    refine jw_iload_n (i := 1) d_M_aim_21 rfl rfl ?_
    refine jw_aload_n (i := 0) d_M_aim_22 rfl rfl ?_
    refine jw_get (j := 20) (v := jw_a G 56) d_M_aim_23 jw_k41 jw_c_M jw_oc_M (Nat.le_of_ble_eq_true rfl) jw_fl_M_53 rfl rfl ?_
    refine jw_iload_n (i := 3) d_M_aim_26 rfl rfl ?_
    obtain ⟨j1, hj1, h⟩ := h
    refine jw_iald2 d_M_aim_27 jw_k56 (Nat.le_of_ble_eq_true rfl) hj1 ?_
    refine jw_callV (As := [.int x1, .int (M 56 j1)]) (S := []) d_M_aim_28 jw_k41 jw_c_M jw_ml_M_94 jw_in_f_M_reaches jw_se_f_M_reaches ⟨Nat.le_of_ble_eq_true rfl, Nat.le_of_ble_eq_true rfl⟩ rfl rfl (Nat.le_of_ble_eq_true rfl) (jw_M_mono h (fun r1 M1 h => ?_))
    refine jw_st (S' := [.int r1]) rfl ?_
    refine jw_if_eq (tgt := 70) d_M_aim_31 (by decide) (fun hc => ?_) (fun hc => ?_)
    · have h := h.1 hc
      refine jw_iinc (d := 1) d_M_aim_70 rfl jc_i_1 (Nat.le_of_ble_eq_true rfl) ?_
      refine jw_goto (tgt := 12) d_M_aim_73 (by decide) ?_
      exact h
    · have h := h.2 hc
      refine jw_aload_n (i := 0) d_M_aim_34 rfl rfl ?_
      refine jw_get (j := 23) (v := .int (M1 41 23)) d_M_aim_35 jw_k41 jw_c_M jw_oc_M (Nat.le_of_ble_eq_true rfl) jw_fl_M_91 rfl rfl ?_
      refine jw_aload_n (i := 0) d_M_aim_38 rfl rfl ?_
      refine jw_get (j := 0) (v := .int (M1 41 0)) d_M_aim_39 jw_k41 jw_c_M jw_oc_M (Nat.le_of_ble_eq_true rfl) jw_fl_M_59 rfl rfl ?_
      refine jw_icmp_ge (tgt := 70) d_M_aim_42 (by decide) (fun hc => ?_) (fun hc => ?_)
      · have h := h.1 hc
        refine jw_iinc (d := 1) d_M_aim_70 rfl jc_i_1 (Nat.le_of_ble_eq_true rfl) ?_
        refine jw_goto (tgt := 12) d_M_aim_73 (by decide) ?_
        exact h
      · have h := h.2 hc
        refine jw_aload_n (i := 0) d_M_aim_45 rfl rfl ?_
        refine jw_get (j := 22) (v := jw_a G 57) d_M_aim_46 jw_k41 jw_c_M jw_oc_M (Nat.le_of_ble_eq_true rfl) jw_fl_M_56 rfl rfl ?_
        refine jw_aload_n (i := 0) d_M_aim_49 rfl rfl ?_
        refine jw_get (j := 23) (v := .int (M1 41 23)) d_M_aim_50 jw_k41 jw_c_M jw_oc_M (Nat.le_of_ble_eq_true rfl) jw_fl_M_91 rfl rfl ?_
        refine jw_aload_n (i := 0) d_M_aim_53 rfl rfl ?_
        refine jw_get (j := 20) (v := jw_a G 56) d_M_aim_54 jw_k41 jw_c_M jw_oc_M (Nat.le_of_ble_eq_true rfl) jw_fl_M_53 rfl rfl ?_
        refine jw_iload_n (i := 3) d_M_aim_57 rfl rfl ?_
        obtain ⟨j2, hj2, h⟩ := h
        refine jw_iald2 d_M_aim_58 jw_k56 (Nat.le_of_ble_eq_true rfl) hj2 ?_
        obtain ⟨j3, hj3, h⟩ := h
        refine jw_iast2 d_M_aim_59 jw_k57 (Nat.le_of_ble_eq_true rfl) hj3 ?_
        refine jw_aload_n (i := 0) d_M_aim_60 rfl rfl ?_
        refine jw_dup d_M_aim_61 rfl ?_
        refine jw_get (j := 23) (v := .int ((jw_U M1 57 j3 (M1 56 j2)) 41 23)) d_M_aim_62 jw_k41 jw_c_M jw_oc_M (Nat.le_of_ble_eq_true rfl) jw_fl_M_91 rfl rfl ?_
        refine jw_iconst (v := 1) d_M_aim_65 jc_i_1 ?_
        refine jw_iadd d_M_aim_66 ?_
        refine jw_put (j := 23) d_M_aim_67 jw_k41 jw_c_M jw_oc_M (Nat.le_of_ble_eq_true rfl) jw_fl_M_91 rfl rfl rfl rfl ?_
        refine jw_iinc (d := 1) d_M_aim_70 rfl jc_i_1 (Nat.le_of_ble_eq_true rfl) ?_
        refine jw_goto (tgt := 12) d_M_aim_73 (by decide) ?_
        exact h
set_option maxRecDepth 100000 in
theorem e_M_aim {l : Launch} {G : jw_G} {A : Nat → Prop} {x1 : Int32} {x2 : Int32} {M : jw_Mem} {Q : Int32 → jw_Mem → Prop} (h : ∀ X : jw_X0, (∀ M', Q 0 M' → jw_R l X (jw_g G) A f_M_aim 0 M') → jw_M l (jw_g G) A f_M_list [jw_a G 41, .int x2] M (fun _ M1 => jw_X l X (jw_g G) A f_M_aim 12 [some (jw_a G 41), some (.int x1), some (.int x2), some (.int 0)] [] (jw_U M1 41 23 0))) : jw_M l (jw_g G) A f_M_aim [jw_a G 41, .int x1, .int x2] M Q := by
  refine jw_M_of (by decide) (Nat.le_of_ble_eq_true rfl) (by intro v hv; simp at hv; rcases hv with rfl | rfl | rfl <;> rfl) (fun X hR => ?_)
  exact k_M_aim_0  (h X (fun M' q => hR 0 M' q (fun ty h0 => nomatch h0)))

set_option maxRecDepth 100000 in
set_option maxHeartbeats 4000000 in
theorem k_M_targets_0 {l : Launch} {X : jw_X0} {G : jw_G} {A : Nat → Prop} {x1 : Int32} {x2 : Int32} {M : jw_Mem} (h : jw_M l (jw_g G) A f_M_isNode [.int x1] M (fun r1 M1 => ((r1 = 0 → jw_R l X (jw_g G) A f_M_targets 0 M1) ∧ (¬ r1 = 0 → jw_M l (jw_g G) A f_M_isKey [.int x2] M1 (fun r2 M2 => ((¬ r2 = 0 → jw_M l (jw_g G) A f_M_aim [jw_a G 41, .int x1, .int x2] M2 (fun _ M3 => jw_R l X (jw_g G) A f_M_targets (M3 41 23) M3)) ∧ (r2 = 0 → jw_R l X (jw_g G) A f_M_targets 0 M2))))))) : jw_X l X (jw_g G) A f_M_targets 0 [some (jw_a G 41), some (.int x1), some (.int x2)] [] M := by
  refine jw_iload_n (i := 1) d_M_targets_0 rfl rfl ?_
  refine jw_callS (As := [.int x1]) (S := []) d_M_targets_1 jw_ml_M_69 jw_st_f_M_isNode ⟨Nat.le_of_ble_eq_true rfl, Nat.le_of_ble_eq_true rfl⟩ rfl rfl (Nat.le_of_ble_eq_true rfl) (jw_M_mono h (fun r1 M1 h => ?_))
  refine jw_st (S' := [.int r1]) rfl ?_
  refine jw_if_eq (tgt := 14) d_M_targets_4 (by decide) (fun hc => ?_) (fun hc => ?_)
  · have h := h.1 hc
    refine jw_iconst (v := 0) d_M_targets_14 jc_i_0 ?_
    exact jw_ireturn d_M_targets_15 rfl h
  · have h := h.2 hc
    refine jw_iload_n (i := 2) d_M_targets_7 rfl rfl ?_
    refine jw_callS (As := [.int x2]) (S := []) d_M_targets_8 jw_ml_M_84 jw_st_f_M_isKey ⟨Nat.le_of_ble_eq_true rfl, Nat.le_of_ble_eq_true rfl⟩ rfl rfl (Nat.le_of_ble_eq_true rfl) (jw_M_mono h (fun r2 M2 h => ?_))
    refine jw_st (S' := [.int r2]) rfl ?_
    refine jw_if_ne (tgt := 16) d_M_targets_11 (by decide) (fun hc => ?_) (fun hc => ?_)
    · have h := h.1 hc
      refine jw_aload_n (i := 0) d_M_targets_16 rfl rfl ?_
      refine jw_iload_n (i := 1) d_M_targets_17 rfl rfl ?_
      refine jw_iload_n (i := 2) d_M_targets_18 rfl rfl ?_
      refine jw_callV (As := [.int x1, .int x2]) (S := []) d_M_targets_19 jw_k41 jw_c_M jw_ml_M_98 jw_in_f_M_aim jw_se_f_M_aim ⟨Nat.le_of_ble_eq_true rfl, Nat.le_of_ble_eq_true rfl⟩ rfl rfl (Nat.le_of_ble_eq_true rfl) (jw_M_mono h (fun r3 M3 h => ?_))
      refine jw_st (S' := []) rfl ?_
      refine jw_aload_n (i := 0) d_M_targets_22 rfl rfl ?_
      refine jw_get (j := 23) (v := .int (M3 41 23)) d_M_targets_23 jw_k41 jw_c_M jw_oc_M (Nat.le_of_ble_eq_true rfl) jw_fl_M_91 rfl rfl ?_
      exact jw_ireturn d_M_targets_26 rfl h
    · have h := h.2 hc
      refine jw_iconst (v := 0) d_M_targets_14 jc_i_0 ?_
      exact jw_ireturn d_M_targets_15 rfl h
set_option maxRecDepth 100000 in
theorem e_M_targets {l : Launch} {G : jw_G} {A : Nat → Prop} {x1 : Int32} {x2 : Int32} {M : jw_Mem} {Q : Int32 → jw_Mem → Prop} (h : ∀ X : jw_X0, (∀ r M', Q r M' → jw_R l X (jw_g G) A f_M_targets r M') → jw_M l (jw_g G) A f_M_isNode [.int x1] M (fun r1 M1 => ((r1 = 0 → jw_R l X (jw_g G) A f_M_targets 0 M1) ∧ (¬ r1 = 0 → jw_M l (jw_g G) A f_M_isKey [.int x2] M1 (fun r2 M2 => ((¬ r2 = 0 → jw_M l (jw_g G) A f_M_aim [jw_a G 41, .int x1, .int x2] M2 (fun _ M3 => jw_R l X (jw_g G) A f_M_targets (M3 41 23) M3)) ∧ (r2 = 0 → jw_R l X (jw_g G) A f_M_targets 0 M2))))))) : jw_M l (jw_g G) A f_M_targets [jw_a G 41, .int x1, .int x2] M Q := by
  refine jw_M_of (by decide) (Nat.le_of_ble_eq_true rfl) (by intro v hv; simp at hv; rcases hv with rfl | rfl | rfl <;> rfl) (fun X hR => ?_)
  exact k_M_targets_0  (h X (fun r M' q => hR r M' q (fun ty h0 => by cases h0; rfl)))

set_option maxRecDepth 100000 in
set_option maxHeartbeats 4000000 in
theorem k_M_standsFor_0 {l : Launch} {X : jw_X0} {G : jw_G} {A : Nat → Prop} {x1 : Int32} {x2 : Int32} {M : jw_Mem} (h : jw_X l X (jw_g G) A f_M_standsFor 5 [some (jw_a G 41), some (.int x1), some (.int x2), some (.int 0), some (.int 0)] [] M) : jw_X l X (jw_g G) A f_M_standsFor 0 [some (jw_a G 41), some (.int x1), some (.int x2), none, none] [] M := by
  refine jw_iconst (v := 0) d_M_standsFor_0 jc_i_0 ?_
  refine jw_istore_n (i := 3) d_M_standsFor_1 rfl (Nat.le_of_ble_eq_true rfl) ?_
  refine jw_iconst (v := 0) d_M_standsFor_2 jc_i_0 ?_
  refine jw_istore d_M_standsFor_3 (Nat.le_of_ble_eq_true rfl) ?_
  exact h
set_option maxRecDepth 100000 in
set_option maxHeartbeats 4000000 in
theorem k_M_standsFor_5 {l : Launch} {X : jw_X0} {G : jw_G} {A : Nat → Prop} {x1 x2 x3 x4 : Int32} {M : jw_Mem} (h : ((x2 < x4 → (∃ j1 : Nat, (j1 < 5 ∧ x2 = nI j1) ∧ jw_M l (jw_g G) A f_M_placeIn [jw_a G 41, .int (M 57 j1)] M (fun r1 M1 => (((M1 41 0) ≤ r1 → jw_X l X (jw_g G) A f_M_standsFor 65 [some (jw_a G 41), some (.int x1), some (.int x2), some (.int x3), some (.int 0)] [] M1) ∧ (¬ (M1 41 0) ≤ r1 → jw_R l X (jw_g G) A f_M_standsFor (-1) M1))))) ∧ (¬ x2 < x4 → (∃ j2 : Nat, (j2 < 5 ∧ x4 = nI j2) ∧ jw_M l (jw_g G) A f_M_placeIn [jw_a G 41, .int (M 57 j2)] M (fun r2 M2 => (((M2 41 0) ≤ r2 → jw_X l X (jw_g G) A f_M_standsFor 5 [some (jw_a G 41), some (.int x1), some (.int x2), some (.int (x3 + 1)), some (.int (x4 + 1))] [] M2) ∧ (¬ (M2 41 0) ≤ r2 → jw_X l X (jw_g G) A f_M_standsFor 5 [some (jw_a G 41), some (.int x1), some (.int x2), some (.int x3), some (.int (x4 + 1))] [] M2))))))) : jw_X l X (jw_g G) A f_M_standsFor 5 [some (jw_a G 41), some (.int x1), some (.int x2), some (.int x3), some (.int x4)] [] M := by
  refine jw_iload d_M_standsFor_5 rfl ?_
  refine jw_iload_n (i := 2) d_M_standsFor_7 rfl rfl ?_
  refine jw_icmp_gt (tgt := 43) d_M_standsFor_8 (by decide) (fun hc => ?_) (fun hc => ?_)
  · have h := h.1 hc
    refine jw_aload_n (i := 0) d_M_standsFor_43 rfl rfl ?_
    refine jw_aload_n (i := 0) d_M_standsFor_44 rfl rfl ?_
    refine jw_get (j := 22) (v := jw_a G 57) d_M_standsFor_45 jw_k41 jw_c_M jw_oc_M (Nat.le_of_ble_eq_true rfl) jw_fl_M_56 rfl rfl ?_
    refine jw_iload_n (i := 2) d_M_standsFor_48 rfl rfl ?_
    obtain ⟨j1, hj1, h⟩ := h
    refine jw_iald2 d_M_standsFor_49 jw_k57 (Nat.le_of_ble_eq_true rfl) hj1 ?_
    refine jw_callV (As := [.int (M 57 j1)]) (S := []) d_M_standsFor_50 jw_k41 jw_c_M jw_ml_M_76 jw_in_f_M_placeIn jw_se_f_M_placeIn ⟨Nat.le_of_ble_eq_true rfl, Nat.le_of_ble_eq_true rfl⟩ rfl rfl (Nat.le_of_ble_eq_true rfl) (jw_M_mono h (fun r1 M1 h => ?_))
    refine jw_st (S' := [.int r1]) rfl ?_
    refine jw_aload_n (i := 0) d_M_standsFor_53 rfl rfl ?_
    refine jw_get (j := 0) (v := .int (M1 41 0)) d_M_standsFor_54 jw_k41 jw_c_M jw_oc_M (Nat.le_of_ble_eq_true rfl) jw_fl_M_59 rfl rfl ?_
    refine jw_icmp_ge (tgt := 62) d_M_standsFor_57 (by decide) (fun hc => ?_) (fun hc => ?_)
    · have h := h.1 hc
      refine jw_iconst (v := 0) d_M_standsFor_62 jc_i_0 ?_
      refine jw_istore d_M_standsFor_63 (Nat.le_of_ble_eq_true rfl) ?_
      exact h
    · have h := h.2 hc
      refine jw_iconst (v := (-1)) d_M_standsFor_60 jc_i_m1 ?_
      exact jw_ireturn d_M_standsFor_61 rfl h
  · have h := h.2 hc
    refine jw_aload_n (i := 0) d_M_standsFor_11 rfl rfl ?_
    refine jw_aload_n (i := 0) d_M_standsFor_12 rfl rfl ?_
    refine jw_get (j := 22) (v := jw_a G 57) d_M_standsFor_13 jw_k41 jw_c_M jw_oc_M (Nat.le_of_ble_eq_true rfl) jw_fl_M_56 rfl rfl ?_
    refine jw_iload d_M_standsFor_16 rfl ?_
    obtain ⟨j2, hj2, h⟩ := h
    refine jw_iald2 d_M_standsFor_18 jw_k57 (Nat.le_of_ble_eq_true rfl) hj2 ?_
    refine jw_callV (As := [.int (M 57 j2)]) (S := []) d_M_standsFor_19 jw_k41 jw_c_M jw_ml_M_76 jw_in_f_M_placeIn jw_se_f_M_placeIn ⟨Nat.le_of_ble_eq_true rfl, Nat.le_of_ble_eq_true rfl⟩ rfl rfl (Nat.le_of_ble_eq_true rfl) (jw_M_mono h (fun r2 M2 h => ?_))
    refine jw_st (S' := [.int r2]) rfl ?_
    refine jw_aload_n (i := 0) d_M_standsFor_22 rfl rfl ?_
    refine jw_get (j := 0) (v := .int (M2 41 0)) d_M_standsFor_23 jw_k41 jw_c_M jw_oc_M (Nat.le_of_ble_eq_true rfl) jw_fl_M_59 rfl rfl ?_
    refine jw_icmp_ge (tgt := 33) d_M_standsFor_26 (by decide) (fun hc => ?_) (fun hc => ?_)
    · have h := h.1 hc
      refine jw_iload_n (i := 3) d_M_standsFor_33 rfl rfl ?_
      refine jw_iconst (v := 1) d_M_standsFor_34 jc_i_1 ?_
      refine jw_iadd d_M_standsFor_35 ?_
      refine jw_istore_n (i := 3) d_M_standsFor_36 rfl (Nat.le_of_ble_eq_true rfl) ?_
      refine jw_iinc (d := 1) d_M_standsFor_37 rfl jc_i_1 (Nat.le_of_ble_eq_true rfl) ?_
      refine jw_goto (tgt := 5) d_M_standsFor_40 (by decide) ?_
      exact h
    · have h := h.2 hc
      refine jw_iload_n (i := 3) d_M_standsFor_29 rfl rfl ?_
      refine jw_goto (tgt := 36) d_M_standsFor_30 (by decide) ?_
      refine jw_istore_n (i := 3) d_M_standsFor_36 rfl (Nat.le_of_ble_eq_true rfl) ?_
      refine jw_iinc (d := 1) d_M_standsFor_37 rfl jc_i_1 (Nat.le_of_ble_eq_true rfl) ?_
      refine jw_goto (tgt := 5) d_M_standsFor_40 (by decide) ?_
      exact h
set_option maxRecDepth 100000 in
set_option maxHeartbeats 4000000 in
theorem k_M_standsFor_65 {l : Launch} {X : jw_X0} {G : jw_G} {A : Nat → Prop} {x1 x2 x3 x4 : Int32} {M : jw_Mem} (h : jw_M l (jw_g G) A f_M_homes [jw_a G 41] M (fun r1 M1 => ((r1 ≤ x4 → jw_R l X (jw_g G) A f_M_standsFor (-1) M1) ∧ (¬ r1 ≤ x4 → (∃ j1 : Nat, (j1 < 5 ∧ x4 = nI j1) ∧ jw_M l (jw_g G) A f_M_reaches [jw_a G 41, .int x1, .int (M1 56 j1)] M1 (fun r2 M2 => ((r2 = 0 → ((¬ (x3 - 1) = 0 → jw_X l X (jw_g G) A f_M_standsFor 65 [some (jw_a G 41), some (.int x1), some (.int x2), some (.int (x3 - 1)), some (.int (x4 + 1))] [] M2) ∧ ((x3 - 1) = 0 → (∃ j2 : Nat, (j2 < 5 ∧ x4 = nI j2) ∧ jw_R l X (jw_g G) A f_M_standsFor (M2 56 j2) M2)))) ∧ (¬ r2 = 0 → ((¬ x3 = 0 → jw_X l X (jw_g G) A f_M_standsFor 65 [some (jw_a G 41), some (.int x1), some (.int x2), some (.int x3), some (.int (x4 + 1))] [] M2) ∧ (x3 = 0 → (∃ j3 : Nat, (j3 < 5 ∧ x4 = nI j3) ∧ jw_R l X (jw_g G) A f_M_standsFor (M2 56 j3) M2))))))))))) : jw_X l X (jw_g G) A f_M_standsFor 65 [some (jw_a G 41), some (.int x1), some (.int x2), some (.int x3), some (.int x4)] [] M := by
  refine jw_iload d_M_standsFor_65 rfl ?_
  refine jw_aload_n (i := 0) d_M_standsFor_67 rfl rfl ?_
  refine jw_callV (As := []) (S := [.int x4]) d_M_standsFor_68 jw_k41 jw_c_M jw_ml_M_87 jw_in_f_M_homes jw_se_f_M_homes ⟨Nat.le_of_ble_eq_true rfl, Nat.le_of_ble_eq_true rfl⟩ rfl rfl (Nat.le_of_ble_eq_true rfl) (jw_M_mono h (fun r1 M1 h => ?_))
  refine jw_st (S' := [.int r1, .int x4]) rfl ?_
  refine jw_icmp_ge (tgt := 115) d_M_standsFor_71 (by decide) (fun hc => ?_) (fun hc => ?_)
  · have h := h.1 hc
    refine jw_iconst (v := (-1)) d_M_standsFor_115 jc_i_m1 ?_
    exact jw_ireturn d_M_standsFor_116 rfl h
  · have h := h.2 hc
    refine jw_aload_n (i := 0) d_M_standsFor_74 rfl rfl ?_
    refine jw_iload_n (i := 1) d_M_standsFor_75 rfl rfl ?_
    refine jw_aload_n (i := 0) d_M_standsFor_76 rfl rfl ?_
    refine jw_get (j := 20) (v := jw_a G 56) d_M_standsFor_77 jw_k41 jw_c_M jw_oc_M (Nat.le_of_ble_eq_true rfl) jw_fl_M_53 rfl rfl ?_
    refine jw_iload d_M_standsFor_80 rfl ?_
    obtain ⟨j1, hj1, h⟩ := h
    refine jw_iald2 d_M_standsFor_82 jw_k56 (Nat.le_of_ble_eq_true rfl) hj1 ?_
    refine jw_callV (As := [.int x1, .int (M1 56 j1)]) (S := []) d_M_standsFor_83 jw_k41 jw_c_M jw_ml_M_94 jw_in_f_M_reaches jw_se_f_M_reaches ⟨Nat.le_of_ble_eq_true rfl, Nat.le_of_ble_eq_true rfl⟩ rfl rfl (Nat.le_of_ble_eq_true rfl) (jw_M_mono h (fun r2 M2 h => ?_))
    refine jw_st (S' := [.int r2]) rfl ?_
    refine jw_if_eq (tgt := 93) d_M_standsFor_86 (by decide) (fun hc => ?_) (fun hc => ?_)
    · have h := h.1 hc
      refine jw_iload_n (i := 3) d_M_standsFor_93 rfl rfl ?_
      refine jw_iconst (v := 1) d_M_standsFor_94 jc_i_1 ?_
      refine jw_isub d_M_standsFor_95 ?_
      refine jw_istore_n (i := 3) d_M_standsFor_96 rfl (Nat.le_of_ble_eq_true rfl) ?_
      refine jw_iload_n (i := 3) d_M_standsFor_97 rfl rfl ?_
      refine jw_if_ne (tgt := 109) d_M_standsFor_98 (by decide) (fun hc => ?_) (fun hc => ?_)
      · have h := h.1 hc
        refine jw_iinc (d := 1) d_M_standsFor_109 rfl jc_i_1 (Nat.le_of_ble_eq_true rfl) ?_
        refine jw_goto (tgt := 65) d_M_standsFor_112 (by decide) ?_
        exact h
      · have h := h.2 hc
        refine jw_aload_n (i := 0) d_M_standsFor_101 rfl rfl ?_
        refine jw_get (j := 20) (v := jw_a G 56) d_M_standsFor_102 jw_k41 jw_c_M jw_oc_M (Nat.le_of_ble_eq_true rfl) jw_fl_M_53 rfl rfl ?_
        refine jw_iload d_M_standsFor_105 rfl ?_
        obtain ⟨j2, hj2, h⟩ := h
        refine jw_iald2 d_M_standsFor_107 jw_k56 (Nat.le_of_ble_eq_true rfl) hj2 ?_
        exact jw_ireturn d_M_standsFor_108 rfl h
    · have h := h.2 hc
      refine jw_iload_n (i := 3) d_M_standsFor_89 rfl rfl ?_
      refine jw_goto (tgt := 96) d_M_standsFor_90 (by decide) ?_
      refine jw_istore_n (i := 3) d_M_standsFor_96 rfl (Nat.le_of_ble_eq_true rfl) ?_
      refine jw_iload_n (i := 3) d_M_standsFor_97 rfl rfl ?_
      refine jw_if_ne (tgt := 109) d_M_standsFor_98 (by decide) (fun hc => ?_) (fun hc => ?_)
      · have h := h.1 hc
        refine jw_iinc (d := 1) d_M_standsFor_109 rfl jc_i_1 (Nat.le_of_ble_eq_true rfl) ?_
        refine jw_goto (tgt := 65) d_M_standsFor_112 (by decide) ?_
        exact h
      · have h := h.2 hc
        refine jw_aload_n (i := 0) d_M_standsFor_101 rfl rfl ?_
        refine jw_get (j := 20) (v := jw_a G 56) d_M_standsFor_102 jw_k41 jw_c_M jw_oc_M (Nat.le_of_ble_eq_true rfl) jw_fl_M_53 rfl rfl ?_
        refine jw_iload d_M_standsFor_105 rfl ?_
        obtain ⟨j3, hj3, h⟩ := h
        refine jw_iald2 d_M_standsFor_107 jw_k56 (Nat.le_of_ble_eq_true rfl) hj3 ?_
        exact jw_ireturn d_M_standsFor_108 rfl h
set_option maxRecDepth 100000 in
theorem e_M_standsFor {l : Launch} {G : jw_G} {A : Nat → Prop} {x1 : Int32} {x2 : Int32} {M : jw_Mem} {Q : Int32 → jw_Mem → Prop} (h : ∀ X : jw_X0, (∀ r M', Q r M' → jw_R l X (jw_g G) A f_M_standsFor r M') → jw_X l X (jw_g G) A f_M_standsFor 5 [some (jw_a G 41), some (.int x1), some (.int x2), some (.int 0), some (.int 0)] [] M) : jw_M l (jw_g G) A f_M_standsFor [jw_a G 41, .int x1, .int x2] M Q := by
  refine jw_M_of (by decide) (Nat.le_of_ble_eq_true rfl) (by intro v hv; simp at hv; rcases hv with rfl | rfl | rfl <;> rfl) (fun X hR => ?_)
  exact k_M_standsFor_0  (h X (fun r M' q => hR r M' q (fun ty h0 => by cases h0; rfl)))

set_option maxRecDepth 100000 in
set_option maxHeartbeats 4000000 in
theorem k_M_below_0 {l : Launch} {X : jw_X0} {G : jw_G} {A : Nat → Prop} {x1 : Int32} {x2 : Int32} {M : jw_Mem} (h : jw_X l X (jw_g G) A f_M_below 5 [some (jw_a G 41), some (.int x1), some (.int x2), some (.int 1), some (.int 0)] [] M) : jw_X l X (jw_g G) A f_M_below 0 [some (jw_a G 41), some (.int x1), some (.int x2), none, none] [] M := by
  refine jw_iconst (v := 1) d_M_below_0 jc_i_1 ?_
  refine jw_istore_n (i := 3) d_M_below_1 rfl (Nat.le_of_ble_eq_true rfl) ?_
  refine jw_iconst (v := 0) d_M_below_2 jc_i_0 ?_
  refine jw_istore d_M_below_3 (Nat.le_of_ble_eq_true rfl) ?_
  exact h
set_option maxRecDepth 100000 in
set_option maxHeartbeats 4000000 in
theorem k_M_below_5 {l : Launch} {X : jw_X0} {G : jw_G} {A : Nat → Prop} {x1 x2 x3 x4 : Int32} {M : jw_Mem} (h : ((5 ≤ x4 → jw_R l X (jw_g G) A f_M_below x3 M) ∧ (¬ 5 ≤ x4 → ((x3 = 0 → jw_X l X (jw_g G) A f_M_below 5 [some (jw_a G 41), some (.int x1), some (.int x2), some (.int 0), some (.int (x4 + 1))] [] M) ∧ (¬ x3 = 0 → (∃ j1 : Nat, (j1 < 200 ∧ ((5 * x1) + x4) = nI j1) ∧ (∃ j2 : Nat, (j2 < 200 ∧ ((5 * x2) + x4) = nI j2) ∧ (((M 48 j2) < (M 48 j1) → jw_X l X (jw_g G) A f_M_below 5 [some (jw_a G 41), some (.int x1), some (.int x2), some (.int 0), some (.int (x4 + 1))] [] M) ∧ (¬ (M 48 j2) < (M 48 j1) → jw_X l X (jw_g G) A f_M_below 5 [some (jw_a G 41), some (.int x1), some (.int x2), some (.int 1), some (.int (x4 + 1))] [] M))))))))) : jw_X l X (jw_g G) A f_M_below 5 [some (jw_a G 41), some (.int x1), some (.int x2), some (.int x3), some (.int x4)] [] M := by
  refine jw_iload d_M_below_5 rfl ?_
  refine jw_iconst (v := 5) d_M_below_7 jc_i_5 ?_
  refine jw_icmp_ge (tgt := 52) d_M_below_8 (by decide) (fun hc => ?_) (fun hc => ?_)
  · have h := h.1 hc
    refine jw_iload_n (i := 3) d_M_below_52 rfl rfl ?_
    exact jw_ireturn d_M_below_53 rfl h
  · have h := h.2 hc
    refine jw_iload_n (i := 3) d_M_below_11 rfl rfl ?_
    refine jw_if_eq (tgt := 44) d_M_below_12 (by decide) (fun hc => ?_) (fun hc => ?_)
    · have h := h.1 hc
      refine jw_iconst (v := 0) d_M_below_44 jc_i_0 ?_
      refine jw_istore_n (i := 3) d_M_below_45 rfl (Nat.le_of_ble_eq_true rfl) ?_
      refine jw_iinc (d := 1) d_M_below_46 rfl jc_i_1 (Nat.le_of_ble_eq_true rfl) ?_
      refine jw_goto (tgt := 5) d_M_below_49 (by decide) ?_
      exact h
    · have h := h.2 hc
      refine jw_aload_n (i := 0) d_M_below_15 rfl rfl ?_
      refine jw_get (j := 10) (v := jw_a G 48) d_M_below_16 jw_k41 jw_c_M jw_oc_M (Nat.le_of_ble_eq_true rfl) jw_fl_M_29 rfl rfl ?_
      refine jw_iconst (v := 5) d_M_below_19 jc_i_5 ?_
      refine jw_iload_n (i := 1) d_M_below_20 rfl rfl ?_
      refine jw_imul d_M_below_21 ?_
      refine jw_iload d_M_below_22 rfl ?_
      refine jw_iadd d_M_below_24 ?_
      obtain ⟨j1, hj1, h⟩ := h
      refine jw_iald2 d_M_below_25 jw_k48 (Nat.le_of_ble_eq_true rfl) hj1 ?_
      refine jw_aload_n (i := 0) d_M_below_26 rfl rfl ?_
      refine jw_get (j := 10) (v := jw_a G 48) d_M_below_27 jw_k41 jw_c_M jw_oc_M (Nat.le_of_ble_eq_true rfl) jw_fl_M_29 rfl rfl ?_
      refine jw_iconst (v := 5) d_M_below_30 jc_i_5 ?_
      refine jw_iload_n (i := 2) d_M_below_31 rfl rfl ?_
      refine jw_imul d_M_below_32 ?_
      refine jw_iload d_M_below_33 rfl ?_
      refine jw_iadd d_M_below_35 ?_
      obtain ⟨j2, hj2, h⟩ := h
      refine jw_iald2 d_M_below_36 jw_k48 (Nat.le_of_ble_eq_true rfl) hj2 ?_
      refine jw_icmp_gt (tgt := 44) d_M_below_37 (by decide) (fun hc => ?_) (fun hc => ?_)
      · have h := h.1 hc
        refine jw_iconst (v := 0) d_M_below_44 jc_i_0 ?_
        refine jw_istore_n (i := 3) d_M_below_45 rfl (Nat.le_of_ble_eq_true rfl) ?_
        refine jw_iinc (d := 1) d_M_below_46 rfl jc_i_1 (Nat.le_of_ble_eq_true rfl) ?_
        refine jw_goto (tgt := 5) d_M_below_49 (by decide) ?_
        exact h
      · have h := h.2 hc
        refine jw_iconst (v := 1) d_M_below_40 jc_i_1 ?_
        refine jw_goto (tgt := 45) d_M_below_41 (by decide) ?_
        refine jw_istore_n (i := 3) d_M_below_45 rfl (Nat.le_of_ble_eq_true rfl) ?_
        refine jw_iinc (d := 1) d_M_below_46 rfl jc_i_1 (Nat.le_of_ble_eq_true rfl) ?_
        refine jw_goto (tgt := 5) d_M_below_49 (by decide) ?_
        exact h
set_option maxRecDepth 100000 in
theorem e_M_below {l : Launch} {G : jw_G} {A : Nat → Prop} {x1 : Int32} {x2 : Int32} {M : jw_Mem} {Q : Int32 → jw_Mem → Prop} (h : ∀ X : jw_X0, (∀ r M', Q r M' → (r = 0 ∨ r = 1) → jw_R l X (jw_g G) A f_M_below r M') → jw_X l X (jw_g G) A f_M_below 5 [some (jw_a G 41), some (.int x1), some (.int x2), some (.int 1), some (.int 0)] [] M) : jw_M l (jw_g G) A f_M_below [jw_a G 41, .int x1, .int x2] M Q := by
  refine jw_M_of (by decide) (Nat.le_of_ble_eq_true rfl) (by intro v hv; simp at hv; rcases hv with rfl | rfl | rfl <;> rfl) (fun X hR => ?_)
  exact k_M_below_0  (h X (fun r M' q hb => hR r M' q (fun ty h0 => by cases h0; exact jw_nb hb)))

set_option maxRecDepth 100000 in
set_option maxHeartbeats 4000000 in
theorem k_M_take_0 {l : Launch} {X : jw_X0} {G : jw_G} {A : Nat → Prop} {x1 : Int32} {x2 : Int32} {M : jw_Mem} (h : jw_X l X (jw_g G) A f_M_take 2 [some (jw_a G 41), some (.int x1), some (.int x2), some (.int 0)] [] M) : jw_X l X (jw_g G) A f_M_take 0 [some (jw_a G 41), some (.int x1), some (.int x2), none] [] M := by
  refine jw_iconst (v := 0) d_M_take_0 jc_i_0 ?_
  refine jw_istore_n (i := 3) d_M_take_1 rfl (Nat.le_of_ble_eq_true rfl) ?_
  exact h
set_option maxRecDepth 100000 in
set_option maxHeartbeats 4000000 in
theorem k_M_take_2 {l : Launch} {X : jw_X0} {G : jw_G} {A : Nat → Prop} {x1 x2 x3 : Int32} {M : jw_Mem} (h : (((M 41 6) ≤ x3 → jw_X l X (jw_g G) A f_M_take 57 [some (jw_a G 41), some (.int x1), some (.int x2), some (.int 0)] [] M) ∧ (¬ (M 41 6) ≤ x3 → (∃ j1 : Nat, (j1 < 200 ∧ ((40 * x1) + x3) = nI j1) ∧ (((M 49 j1) = 0 → jw_X l X (jw_g G) A f_M_take 2 [some (jw_a G 41), some (.int x1), some (.int x2), some (.int (x3 + 1))] [] M) ∧ (¬ (M 49 j1) = 0 → (∃ j2 : Nat, (j2 < 40 ∧ x3 = nI j2) ∧ (∃ j3 : Nat, (j3 < 40 ∧ x2 = nI j3) ∧ ((¬ (M 45 j2) = (M 45 j3) → jw_X l X (jw_g G) A f_M_take 2 [some (jw_a G 41), some (.int x1), some (.int x2), some (.int (x3 + 1))] [] M) ∧ ((M 45 j2) = (M 45 j3) → jw_M l (jw_g G) A f_M_below [jw_a G 41, .int x2, .int x3] M (fun r1 M1 => ((r1 = 0 → jw_X l X (jw_g G) A f_M_take 2 [some (jw_a G 41), some (.int x1), some (.int x2), some (.int (x3 + 1))] [] M1) ∧ (¬ r1 = 0 → jw_R l X (jw_g G) A f_M_take 0 M1))))))))))))) : jw_X l X (jw_g G) A f_M_take 2 [some (jw_a G 41), some (.int x1), some (.int x2), some (.int x3)] [] M := by
  refine jw_iload_n (i := 3) d_M_take_2 rfl rfl ?_
  refine jw_aload_n (i := 0) d_M_take_3 rfl rfl ?_
  refine jw_get (j := 6) (v := .int (M 41 6)) d_M_take_4 jw_k41 jw_c_M jw_oc_M (Nat.le_of_ble_eq_true rfl) jw_fl_M_102 rfl rfl ?_
  refine jw_icmp_ge (tgt := 55) d_M_take_7 (by decide) (fun hc => ?_) (fun hc => ?_)
  · have h := h.1 hc
    refine jw_iconst (v := 0) d_M_take_55 jc_i_0 ?_
    refine jw_istore_n (i := 3) d_M_take_56 rfl (Nat.le_of_ble_eq_true rfl) ?_
    exact h
  · have h := h.2 hc
    refine jw_aload_n (i := 0) d_M_take_10 rfl rfl ?_
    refine jw_get (j := 11) (v := jw_a G 49) d_M_take_11 jw_k41 jw_c_M jw_oc_M (Nat.le_of_ble_eq_true rfl) jw_fl_M_32 rfl rfl ?_
    refine jw_bipush (v := 40) d_M_take_14 jc_b_40 ?_
    refine jw_iload_n (i := 1) d_M_take_16 rfl rfl ?_
    refine jw_imul d_M_take_17 ?_
    refine jw_iload_n (i := 3) d_M_take_18 rfl rfl ?_
    refine jw_iadd d_M_take_19 ?_
    obtain ⟨j1, hj1, h⟩ := h
    refine jw_zald2 d_M_take_20 jw_k49 (Nat.le_of_ble_eq_true rfl) hj1 ?_
    refine jw_if_eq (tgt := 49) d_M_take_21 (by decide) (fun hc => ?_) (fun hc => ?_)
    · have h := h.1 hc
      refine jw_iinc (d := 1) d_M_take_49 rfl jc_i_1 (Nat.le_of_ble_eq_true rfl) ?_
      refine jw_goto (tgt := 2) d_M_take_52 (by decide) ?_
      exact h
    · have h := h.2 hc
      refine jw_aload_n (i := 0) d_M_take_24 rfl rfl ?_
      refine jw_get (j := 7) (v := jw_a G 45) d_M_take_25 jw_k41 jw_c_M jw_oc_M (Nat.le_of_ble_eq_true rfl) jw_fl_M_20 rfl rfl ?_
      refine jw_iload_n (i := 3) d_M_take_28 rfl rfl ?_
      obtain ⟨j2, hj2, h⟩ := h
      refine jw_iald2 d_M_take_29 jw_k45 (Nat.le_of_ble_eq_true rfl) hj2 ?_
      refine jw_aload_n (i := 0) d_M_take_30 rfl rfl ?_
      refine jw_get (j := 7) (v := jw_a G 45) d_M_take_31 jw_k41 jw_c_M jw_oc_M (Nat.le_of_ble_eq_true rfl) jw_fl_M_20 rfl rfl ?_
      refine jw_iload_n (i := 2) d_M_take_34 rfl rfl ?_
      obtain ⟨j3, hj3, h⟩ := h
      refine jw_iald2 d_M_take_35 jw_k45 (Nat.le_of_ble_eq_true rfl) hj3 ?_
      refine jw_icmp_ne (tgt := 49) d_M_take_36 (by decide) (fun hc => ?_) (fun hc => ?_)
      · have h := h.1 hc
        refine jw_iinc (d := 1) d_M_take_49 rfl jc_i_1 (Nat.le_of_ble_eq_true rfl) ?_
        refine jw_goto (tgt := 2) d_M_take_52 (by decide) ?_
        exact h
      · have h := h.2 hc
        refine jw_aload_n (i := 0) d_M_take_39 rfl rfl ?_
        refine jw_iload_n (i := 2) d_M_take_40 rfl rfl ?_
        refine jw_iload_n (i := 3) d_M_take_41 rfl rfl ?_
        refine jw_callV (As := [.int x2, .int x3]) (S := []) d_M_take_42 jw_k41 jw_c_M jw_ml_M_105 jw_in_f_M_below jw_se_f_M_below ⟨Nat.le_of_ble_eq_true rfl, Nat.le_of_ble_eq_true rfl⟩ rfl rfl (Nat.le_of_ble_eq_true rfl) (jw_M_mono h (fun r1 M1 h => ?_))
        refine jw_st (S' := [.int r1]) rfl ?_
        refine jw_if_eq (tgt := 49) d_M_take_45 (by decide) (fun hc => ?_) (fun hc => ?_)
        · have h := h.1 hc
          refine jw_iinc (d := 1) d_M_take_49 rfl jc_i_1 (Nat.le_of_ble_eq_true rfl) ?_
          refine jw_goto (tgt := 2) d_M_take_52 (by decide) ?_
          exact h
        · have h := h.2 hc
          exact jw_return d_M_take_48 rfl h
set_option maxRecDepth 100000 in
set_option maxHeartbeats 4000000 in
theorem k_M_take_57 {l : Launch} {X : jw_X0} {G : jw_G} {A : Nat → Prop} {x1 x2 x3 : Int32} {M : jw_Mem} (h : (((M 41 6) ≤ x3 → (∃ j1 : Nat, (j1 < 200 ∧ ((40 * x1) + x2) = nI j1) ∧ jw_R l X (jw_g G) A f_M_take 0 (jw_U M 49 j1 1))) ∧ (¬ (M 41 6) ≤ x3 → (∃ j2 : Nat, (j2 < 40 ∧ x3 = nI j2) ∧ (∃ j3 : Nat, (j3 < 40 ∧ x2 = nI j3) ∧ ((¬ (M 45 j2) = (M 45 j3) → jw_X l X (jw_g G) A f_M_take 57 [some (jw_a G 41), some (.int x1), some (.int x2), some (.int (x3 + 1))] [] M) ∧ ((M 45 j2) = (M 45 j3) → jw_M l (jw_g G) A f_M_below [jw_a G 41, .int x3, .int x2] M (fun r1 M1 => ((r1 = 0 → jw_X l X (jw_g G) A f_M_take 57 [some (jw_a G 41), some (.int x1), some (.int x2), some (.int (x3 + 1))] [] M1) ∧ (¬ r1 = 0 → (∃ j4 : Nat, (j4 < 200 ∧ ((40 * x1) + x3) = nI j4) ∧ jw_X l X (jw_g G) A f_M_take 57 [some (jw_a G 41), some (.int x1), some (.int x2), some (.int (x3 + 1))] [] (jw_U M1 49 j4 0)))))))))))) : jw_X l X (jw_g G) A f_M_take 57 [some (jw_a G 41), some (.int x1), some (.int x2), some (.int x3)] [] M := by
  refine jw_iload_n (i := 3) d_M_take_57 rfl rfl ?_
  refine jw_aload_n (i := 0) d_M_take_58 rfl rfl ?_
  refine jw_get (j := 6) (v := .int (M 41 6)) d_M_take_59 jw_k41 jw_c_M jw_oc_M (Nat.le_of_ble_eq_true rfl) jw_fl_M_102 rfl rfl ?_
  refine jw_icmp_ge (tgt := 107) d_M_take_62 (by decide) (fun hc => ?_) (fun hc => ?_)
  · have h := h.1 hc
    refine jw_aload_n (i := 0) d_M_take_107 rfl rfl ?_
    refine jw_get (j := 11) (v := jw_a G 49) d_M_take_108 jw_k41 jw_c_M jw_oc_M (Nat.le_of_ble_eq_true rfl) jw_fl_M_32 rfl rfl ?_
    refine jw_bipush (v := 40) d_M_take_111 jc_b_40 ?_
    refine jw_iload_n (i := 1) d_M_take_113 rfl rfl ?_
    refine jw_imul d_M_take_114 ?_
    refine jw_iload_n (i := 2) d_M_take_115 rfl rfl ?_
    refine jw_iadd d_M_take_116 ?_
    refine jw_iconst (v := 1) d_M_take_117 jc_i_1 ?_
    obtain ⟨j1, hj1, h⟩ := h
    refine jw_zast2 d_M_take_118 jw_k49 (Nat.le_of_ble_eq_true rfl) hj1 jw_b1 ?_
    exact jw_return d_M_take_119 rfl h
  · have h := h.2 hc
    refine jw_aload_n (i := 0) d_M_take_65 rfl rfl ?_
    refine jw_get (j := 7) (v := jw_a G 45) d_M_take_66 jw_k41 jw_c_M jw_oc_M (Nat.le_of_ble_eq_true rfl) jw_fl_M_20 rfl rfl ?_
    refine jw_iload_n (i := 3) d_M_take_69 rfl rfl ?_
    obtain ⟨j2, hj2, h⟩ := h
    refine jw_iald2 d_M_take_70 jw_k45 (Nat.le_of_ble_eq_true rfl) hj2 ?_
    refine jw_aload_n (i := 0) d_M_take_71 rfl rfl ?_
    refine jw_get (j := 7) (v := jw_a G 45) d_M_take_72 jw_k41 jw_c_M jw_oc_M (Nat.le_of_ble_eq_true rfl) jw_fl_M_20 rfl rfl ?_
    refine jw_iload_n (i := 2) d_M_take_75 rfl rfl ?_
    obtain ⟨j3, hj3, h⟩ := h
    refine jw_iald2 d_M_take_76 jw_k45 (Nat.le_of_ble_eq_true rfl) hj3 ?_
    refine jw_icmp_ne (tgt := 101) d_M_take_77 (by decide) (fun hc => ?_) (fun hc => ?_)
    · have h := h.1 hc
      refine jw_iinc (d := 1) d_M_take_101 rfl jc_i_1 (Nat.le_of_ble_eq_true rfl) ?_
      refine jw_goto (tgt := 57) d_M_take_104 (by decide) ?_
      exact h
    · have h := h.2 hc
      refine jw_aload_n (i := 0) d_M_take_80 rfl rfl ?_
      refine jw_iload_n (i := 3) d_M_take_81 rfl rfl ?_
      refine jw_iload_n (i := 2) d_M_take_82 rfl rfl ?_
      refine jw_callV (As := [.int x3, .int x2]) (S := []) d_M_take_83 jw_k41 jw_c_M jw_ml_M_105 jw_in_f_M_below jw_se_f_M_below ⟨Nat.le_of_ble_eq_true rfl, Nat.le_of_ble_eq_true rfl⟩ rfl rfl (Nat.le_of_ble_eq_true rfl) (jw_M_mono h (fun r1 M1 h => ?_))
      refine jw_st (S' := [.int r1]) rfl ?_
      refine jw_if_eq (tgt := 101) d_M_take_86 (by decide) (fun hc => ?_) (fun hc => ?_)
      · have h := h.1 hc
        refine jw_iinc (d := 1) d_M_take_101 rfl jc_i_1 (Nat.le_of_ble_eq_true rfl) ?_
        refine jw_goto (tgt := 57) d_M_take_104 (by decide) ?_
        exact h
      · have h := h.2 hc
        refine jw_aload_n (i := 0) d_M_take_89 rfl rfl ?_
        refine jw_get (j := 11) (v := jw_a G 49) d_M_take_90 jw_k41 jw_c_M jw_oc_M (Nat.le_of_ble_eq_true rfl) jw_fl_M_32 rfl rfl ?_
        refine jw_bipush (v := 40) d_M_take_93 jc_b_40 ?_
        refine jw_iload_n (i := 1) d_M_take_95 rfl rfl ?_
        refine jw_imul d_M_take_96 ?_
        refine jw_iload_n (i := 3) d_M_take_97 rfl rfl ?_
        refine jw_iadd d_M_take_98 ?_
        refine jw_iconst (v := 0) d_M_take_99 jc_i_0 ?_
        obtain ⟨j4, hj4, h⟩ := h
        refine jw_zast2 d_M_take_100 jw_k49 (Nat.le_of_ble_eq_true rfl) hj4 jw_b0 ?_
        refine jw_iinc (d := 1) d_M_take_101 rfl jc_i_1 (Nat.le_of_ble_eq_true rfl) ?_
        refine jw_goto (tgt := 57) d_M_take_104 (by decide) ?_
        exact h
set_option maxRecDepth 100000 in
theorem e_M_take {l : Launch} {G : jw_G} {A : Nat → Prop} {x1 : Int32} {x2 : Int32} {M : jw_Mem} {Q : Int32 → jw_Mem → Prop} (h : ∀ X : jw_X0, (∀ M', Q 0 M' → jw_R l X (jw_g G) A f_M_take 0 M') → jw_X l X (jw_g G) A f_M_take 2 [some (jw_a G 41), some (.int x1), some (.int x2), some (.int 0)] [] M) : jw_M l (jw_g G) A f_M_take [jw_a G 41, .int x1, .int x2] M Q := by
  refine jw_M_of (by decide) (Nat.le_of_ble_eq_true rfl) (by intro v hv; simp at hv; rcases hv with rfl | rfl | rfl <;> rfl) (fun X hR => ?_)
  exact k_M_take_0  (h X (fun M' q => hR 0 M' q (fun ty h0 => nomatch h0)))

set_option maxRecDepth 100000 in
set_option maxHeartbeats 4000000 in
theorem k_M_put_0 {l : Launch} {X : jw_X0} {G : jw_G} {A : Nat → Prop} {x1 : Int32} {x2 : Int32} {x3 : Int32} {x4 : Int32} {M : jw_Mem} (h : jw_M l (jw_g G) A f_M_isNode [.int x1] M (fun r1 M1 => ((r1 = 0 → jw_R l X (jw_g G) A f_M_put (-1) M1) ∧ (¬ r1 = 0 → jw_M l (jw_g G) A f_M_isKey [.int x2] M1 (fun r2 M2 => ((r2 = 0 → jw_R l X (jw_g G) A f_M_put (-1) M2) ∧ (¬ r2 = 0 → ((x4 < (-1) → jw_R l X (jw_g G) A f_M_put (-1) M2) ∧ (¬ x4 < (-1) → ((3 < x4 → jw_R l X (jw_g G) A f_M_put (-1) M2) ∧ (¬ 3 < x4 → ((x4 < 0 → (∃ j1 : Nat, (j1 < 5 ∧ x1 = nI j1) ∧ (((M2 42 j1) = 0 → ((¬ (M2 41 6) = 40 → jw_M l (jw_g G) A f_M_aim [jw_a G 41, .int x1, .int x2] M2 (fun _ M3 => (((M3 41 2) ≤ (M3 41 23) → jw_X l X (jw_g G) A f_M_put 104 [some (jw_a G 41), some (.int x1), some (.int x2), some (.int x3), some (.int x4), some (.int 1), some (.int 0), none, none] [] M3) ∧ (¬ (M3 41 2) ≤ (M3 41 23) → jw_R l X (jw_g G) A f_M_put (-4) M3)))) ∧ ((M2 41 6) = 40 → jw_R l X (jw_g G) A f_M_put (-3) M2))) ∧ (¬ (M2 42 j1) = 0 → jw_R l X (jw_g G) A f_M_put (-2) M2)))) ∧ (¬ x4 < 0 → (∃ j2 : Nat, (j2 < 4 ∧ x4 = nI j2) ∧ (((M2 53 j2) = 0 → (∃ j3 : Nat, (j3 < 5 ∧ x1 = nI j3) ∧ (((M2 42 j3) = 0 → ((¬ (M2 41 6) = 40 → jw_M l (jw_g G) A f_M_aim [jw_a G 41, .int x1, .int x2] M2 (fun _ M4 => (((M4 41 2) ≤ (M4 41 23) → jw_X l X (jw_g G) A f_M_put 104 [some (jw_a G 41), some (.int x1), some (.int x2), some (.int x3), some (.int x4), some (.int 1), some (.int 0), none, none] [] M4) ∧ (¬ (M4 41 2) ≤ (M4 41 23) → jw_R l X (jw_g G) A f_M_put (-4) M4)))) ∧ ((M2 41 6) = 40 → jw_R l X (jw_g G) A f_M_put (-3) M2))) ∧ (¬ (M2 42 j3) = 0 → jw_R l X (jw_g G) A f_M_put (-2) M2)))) ∧ (¬ (M2 53 j2) = 0 → (∃ j4 : Nat, (j4 < 4 ∧ x4 = nI j4) ∧ (((M2 52 j4) = x2 → (∃ j5 : Nat, (j5 < 5 ∧ x1 = nI j5) ∧ (((M2 42 j5) = 0 → ((¬ (M2 41 6) = 40 → jw_M l (jw_g G) A f_M_aim [jw_a G 41, .int x1, .int x2] M2 (fun _ M5 => (((M5 41 2) ≤ (M5 41 23) → jw_X l X (jw_g G) A f_M_put 104 [some (jw_a G 41), some (.int x1), some (.int x2), some (.int x3), some (.int x4), some (.int 1), some (.int 0), none, none] [] M5) ∧ (¬ (M5 41 2) ≤ (M5 41 23) → jw_R l X (jw_g G) A f_M_put (-4) M5)))) ∧ ((M2 41 6) = 40 → jw_R l X (jw_g G) A f_M_put (-3) M2))) ∧ (¬ (M2 42 j5) = 0 → jw_R l X (jw_g G) A f_M_put (-2) M2)))) ∧ (¬ (M2 52 j4) = x2 → jw_R l X (jw_g G) A f_M_put (-1) M2))))))))))))))))))) : jw_X l X (jw_g G) A f_M_put 0 [some (jw_a G 41), some (.int x1), some (.int x2), some (.int x3), some (.int x4), none, none, none, none] [] M := by
  refine jw_iload_n (i := 1) d_M_put_0 rfl rfl ?_
  refine jw_callS (As := [.int x1]) (S := []) d_M_put_1 jw_ml_M_69 jw_st_f_M_isNode ⟨Nat.le_of_ble_eq_true rfl, Nat.le_of_ble_eq_true rfl⟩ rfl rfl (Nat.le_of_ble_eq_true rfl) (jw_M_mono h (fun r1 M1 h => ?_))
  refine jw_st (S' := [.int r1]) rfl ?_
  refine jw_if_eq (tgt := 52) d_M_put_4 (by decide) (fun hc => ?_) (fun hc => ?_)
  · have h := h.1 hc
    refine jw_iconst (v := (-1)) d_M_put_52 jc_i_m1 ?_
    exact jw_ireturn d_M_put_53 rfl h
  · have h := h.2 hc
    refine jw_iload_n (i := 2) d_M_put_7 rfl rfl ?_
    refine jw_callS (As := [.int x2]) (S := []) d_M_put_8 jw_ml_M_84 jw_st_f_M_isKey ⟨Nat.le_of_ble_eq_true rfl, Nat.le_of_ble_eq_true rfl⟩ rfl rfl (Nat.le_of_ble_eq_true rfl) (jw_M_mono h (fun r2 M2 h => ?_))
    refine jw_st (S' := [.int r2]) rfl ?_
    refine jw_if_eq (tgt := 52) d_M_put_11 (by decide) (fun hc => ?_) (fun hc => ?_)
    · have h := h.1 hc
      refine jw_iconst (v := (-1)) d_M_put_52 jc_i_m1 ?_
      exact jw_ireturn d_M_put_53 rfl h
    · have h := h.2 hc
      refine jw_iload d_M_put_14 rfl ?_
      refine jw_iconst (v := (-1)) d_M_put_16 jc_i_m1 ?_
      refine jw_icmp_lt (tgt := 52) d_M_put_17 (by decide) (fun hc => ?_) (fun hc => ?_)
      · have h := h.1 hc
        refine jw_iconst (v := (-1)) d_M_put_52 jc_i_m1 ?_
        exact jw_ireturn d_M_put_53 rfl h
      · have h := h.2 hc
        refine jw_iload d_M_put_20 rfl ?_
        refine jw_iconst (v := 3) d_M_put_22 jc_i_3 ?_
        refine jw_icmp_gt (tgt := 52) d_M_put_23 (by decide) (fun hc => ?_) (fun hc => ?_)
        · have h := h.1 hc
          refine jw_iconst (v := (-1)) d_M_put_52 jc_i_m1 ?_
          exact jw_ireturn d_M_put_53 rfl h
        · have h := h.2 hc
          refine jw_iload d_M_put_26 rfl ?_
          refine jw_if_lt (tgt := 54) d_M_put_28 (by decide) (fun hc => ?_) (fun hc => ?_)
          · have h := h.1 hc
            refine jw_aload_n (i := 0) d_M_put_54 rfl rfl ?_
            refine jw_get (j := 3) (v := jw_a G 42) d_M_put_55 jw_k41 jw_c_M jw_oc_M (Nat.le_of_ble_eq_true rfl) jw_fl_M_7 rfl rfl ?_
            refine jw_iload_n (i := 1) d_M_put_58 rfl rfl ?_
            obtain ⟨j1, hj1, h⟩ := h
            refine jw_zald2 d_M_put_59 jw_k42 (Nat.le_of_ble_eq_true rfl) hj1 ?_
            refine jw_if_eq (tgt := 66) d_M_put_60 (by decide) (fun hc => ?_) (fun hc => ?_)
            · have h := h.1 hc
              refine jw_aload_n (i := 0) d_M_put_66 rfl rfl ?_
              refine jw_get (j := 6) (v := .int (M2 41 6)) d_M_put_67 jw_k41 jw_c_M jw_oc_M (Nat.le_of_ble_eq_true rfl) jw_fl_M_102 rfl rfl ?_
              refine jw_bipush (v := 40) d_M_put_70 jc_b_40 ?_
              refine jw_icmp_ne (tgt := 78) d_M_put_72 (by decide) (fun hc => ?_) (fun hc => ?_)
              · have h := h.1 hc
                refine jw_aload_n (i := 0) d_M_put_78 rfl rfl ?_
                refine jw_iload_n (i := 1) d_M_put_79 rfl rfl ?_
                refine jw_iload_n (i := 2) d_M_put_80 rfl rfl ?_
                refine jw_callV (As := [.int x1, .int x2]) (S := []) d_M_put_81 jw_k41 jw_c_M jw_ml_M_98 jw_in_f_M_aim jw_se_f_M_aim ⟨Nat.le_of_ble_eq_true rfl, Nat.le_of_ble_eq_true rfl⟩ rfl rfl (Nat.le_of_ble_eq_true rfl) (jw_M_mono h (fun r3 M3 h => ?_))
                refine jw_st (S' := []) rfl ?_
                refine jw_aload_n (i := 0) d_M_put_84 rfl rfl ?_
                refine jw_get (j := 23) (v := .int (M3 41 23)) d_M_put_85 jw_k41 jw_c_M jw_oc_M (Nat.le_of_ble_eq_true rfl) jw_fl_M_91 rfl rfl ?_
                refine jw_aload_n (i := 0) d_M_put_88 rfl rfl ?_
                refine jw_get (j := 2) (v := .int (M3 41 2)) d_M_put_89 jw_k41 jw_c_M jw_oc_M (Nat.le_of_ble_eq_true rfl) jw_fl_M_66 rfl rfl ?_
                refine jw_icmp_ge (tgt := 98) d_M_put_92 (by decide) (fun hc => ?_) (fun hc => ?_)
                · have h := h.1 hc
                  refine jw_iconst (v := 1) d_M_put_98 jc_i_1 ?_
                  refine jw_istore d_M_put_99 (Nat.le_of_ble_eq_true rfl) ?_
                  refine jw_iconst (v := 0) d_M_put_101 jc_i_0 ?_
                  refine jw_istore d_M_put_102 (Nat.le_of_ble_eq_true rfl) ?_
                  exact h
                · have h := h.2 hc
                  refine jw_bipush (v := (-4)) d_M_put_95 jc_b_m4 ?_
                  exact jw_ireturn d_M_put_97 rfl h
              · have h := h.2 hc
                refine jw_bipush (v := (-3)) d_M_put_75 jc_b_m3 ?_
                exact jw_ireturn d_M_put_77 rfl h
            · have h := h.2 hc
              refine jw_bipush (v := (-2)) d_M_put_63 jc_b_m2 ?_
              exact jw_ireturn d_M_put_65 rfl h
          · have h := h.2 hc
            refine jw_aload_n (i := 0) d_M_put_31 rfl rfl ?_
            refine jw_get (j := 15) (v := jw_a G 53) d_M_put_32 jw_k41 jw_c_M jw_oc_M (Nat.le_of_ble_eq_true rfl) jw_fl_M_44 rfl rfl ?_
            refine jw_iload d_M_put_35 rfl ?_
            obtain ⟨j2, hj2, h⟩ := h
            refine jw_zald2 d_M_put_37 jw_k53 (Nat.le_of_ble_eq_true rfl) hj2 ?_
            refine jw_if_eq (tgt := 54) d_M_put_38 (by decide) (fun hc => ?_) (fun hc => ?_)
            · have h := h.1 hc
              refine jw_aload_n (i := 0) d_M_put_54 rfl rfl ?_
              refine jw_get (j := 3) (v := jw_a G 42) d_M_put_55 jw_k41 jw_c_M jw_oc_M (Nat.le_of_ble_eq_true rfl) jw_fl_M_7 rfl rfl ?_
              refine jw_iload_n (i := 1) d_M_put_58 rfl rfl ?_
              obtain ⟨j3, hj3, h⟩ := h
              refine jw_zald2 d_M_put_59 jw_k42 (Nat.le_of_ble_eq_true rfl) hj3 ?_
              refine jw_if_eq (tgt := 66) d_M_put_60 (by decide) (fun hc => ?_) (fun hc => ?_)
              · have h := h.1 hc
                refine jw_aload_n (i := 0) d_M_put_66 rfl rfl ?_
                refine jw_get (j := 6) (v := .int (M2 41 6)) d_M_put_67 jw_k41 jw_c_M jw_oc_M (Nat.le_of_ble_eq_true rfl) jw_fl_M_102 rfl rfl ?_
                refine jw_bipush (v := 40) d_M_put_70 jc_b_40 ?_
                refine jw_icmp_ne (tgt := 78) d_M_put_72 (by decide) (fun hc => ?_) (fun hc => ?_)
                · have h := h.1 hc
                  refine jw_aload_n (i := 0) d_M_put_78 rfl rfl ?_
                  refine jw_iload_n (i := 1) d_M_put_79 rfl rfl ?_
                  refine jw_iload_n (i := 2) d_M_put_80 rfl rfl ?_
                  refine jw_callV (As := [.int x1, .int x2]) (S := []) d_M_put_81 jw_k41 jw_c_M jw_ml_M_98 jw_in_f_M_aim jw_se_f_M_aim ⟨Nat.le_of_ble_eq_true rfl, Nat.le_of_ble_eq_true rfl⟩ rfl rfl (Nat.le_of_ble_eq_true rfl) (jw_M_mono h (fun r4 M4 h => ?_))
                  refine jw_st (S' := []) rfl ?_
                  refine jw_aload_n (i := 0) d_M_put_84 rfl rfl ?_
                  refine jw_get (j := 23) (v := .int (M4 41 23)) d_M_put_85 jw_k41 jw_c_M jw_oc_M (Nat.le_of_ble_eq_true rfl) jw_fl_M_91 rfl rfl ?_
                  refine jw_aload_n (i := 0) d_M_put_88 rfl rfl ?_
                  refine jw_get (j := 2) (v := .int (M4 41 2)) d_M_put_89 jw_k41 jw_c_M jw_oc_M (Nat.le_of_ble_eq_true rfl) jw_fl_M_66 rfl rfl ?_
                  refine jw_icmp_ge (tgt := 98) d_M_put_92 (by decide) (fun hc => ?_) (fun hc => ?_)
                  · have h := h.1 hc
                    refine jw_iconst (v := 1) d_M_put_98 jc_i_1 ?_
                    refine jw_istore d_M_put_99 (Nat.le_of_ble_eq_true rfl) ?_
                    refine jw_iconst (v := 0) d_M_put_101 jc_i_0 ?_
                    refine jw_istore d_M_put_102 (Nat.le_of_ble_eq_true rfl) ?_
                    exact h
                  · have h := h.2 hc
                    refine jw_bipush (v := (-4)) d_M_put_95 jc_b_m4 ?_
                    exact jw_ireturn d_M_put_97 rfl h
                · have h := h.2 hc
                  refine jw_bipush (v := (-3)) d_M_put_75 jc_b_m3 ?_
                  exact jw_ireturn d_M_put_77 rfl h
              · have h := h.2 hc
                refine jw_bipush (v := (-2)) d_M_put_63 jc_b_m2 ?_
                exact jw_ireturn d_M_put_65 rfl h
            · have h := h.2 hc
              refine jw_aload_n (i := 0) d_M_put_41 rfl rfl ?_
              refine jw_get (j := 14) (v := jw_a G 52) d_M_put_42 jw_k41 jw_c_M jw_oc_M (Nat.le_of_ble_eq_true rfl) jw_fl_M_41 rfl rfl ?_
              refine jw_iload d_M_put_45 rfl ?_
              obtain ⟨j4, hj4, h⟩ := h
              refine jw_iald2 d_M_put_47 jw_k52 (Nat.le_of_ble_eq_true rfl) hj4 ?_
              refine jw_iload_n (i := 2) d_M_put_48 rfl rfl ?_
              refine jw_icmp_eq (tgt := 54) d_M_put_49 (by decide) (fun hc => ?_) (fun hc => ?_)
              · have h := h.1 hc
                refine jw_aload_n (i := 0) d_M_put_54 rfl rfl ?_
                refine jw_get (j := 3) (v := jw_a G 42) d_M_put_55 jw_k41 jw_c_M jw_oc_M (Nat.le_of_ble_eq_true rfl) jw_fl_M_7 rfl rfl ?_
                refine jw_iload_n (i := 1) d_M_put_58 rfl rfl ?_
                obtain ⟨j5, hj5, h⟩ := h
                refine jw_zald2 d_M_put_59 jw_k42 (Nat.le_of_ble_eq_true rfl) hj5 ?_
                refine jw_if_eq (tgt := 66) d_M_put_60 (by decide) (fun hc => ?_) (fun hc => ?_)
                · have h := h.1 hc
                  refine jw_aload_n (i := 0) d_M_put_66 rfl rfl ?_
                  refine jw_get (j := 6) (v := .int (M2 41 6)) d_M_put_67 jw_k41 jw_c_M jw_oc_M (Nat.le_of_ble_eq_true rfl) jw_fl_M_102 rfl rfl ?_
                  refine jw_bipush (v := 40) d_M_put_70 jc_b_40 ?_
                  refine jw_icmp_ne (tgt := 78) d_M_put_72 (by decide) (fun hc => ?_) (fun hc => ?_)
                  · have h := h.1 hc
                    refine jw_aload_n (i := 0) d_M_put_78 rfl rfl ?_
                    refine jw_iload_n (i := 1) d_M_put_79 rfl rfl ?_
                    refine jw_iload_n (i := 2) d_M_put_80 rfl rfl ?_
                    refine jw_callV (As := [.int x1, .int x2]) (S := []) d_M_put_81 jw_k41 jw_c_M jw_ml_M_98 jw_in_f_M_aim jw_se_f_M_aim ⟨Nat.le_of_ble_eq_true rfl, Nat.le_of_ble_eq_true rfl⟩ rfl rfl (Nat.le_of_ble_eq_true rfl) (jw_M_mono h (fun r5 M5 h => ?_))
                    refine jw_st (S' := []) rfl ?_
                    refine jw_aload_n (i := 0) d_M_put_84 rfl rfl ?_
                    refine jw_get (j := 23) (v := .int (M5 41 23)) d_M_put_85 jw_k41 jw_c_M jw_oc_M (Nat.le_of_ble_eq_true rfl) jw_fl_M_91 rfl rfl ?_
                    refine jw_aload_n (i := 0) d_M_put_88 rfl rfl ?_
                    refine jw_get (j := 2) (v := .int (M5 41 2)) d_M_put_89 jw_k41 jw_c_M jw_oc_M (Nat.le_of_ble_eq_true rfl) jw_fl_M_66 rfl rfl ?_
                    refine jw_icmp_ge (tgt := 98) d_M_put_92 (by decide) (fun hc => ?_) (fun hc => ?_)
                    · have h := h.1 hc
                      refine jw_iconst (v := 1) d_M_put_98 jc_i_1 ?_
                      refine jw_istore d_M_put_99 (Nat.le_of_ble_eq_true rfl) ?_
                      refine jw_iconst (v := 0) d_M_put_101 jc_i_0 ?_
                      refine jw_istore d_M_put_102 (Nat.le_of_ble_eq_true rfl) ?_
                      exact h
                    · have h := h.2 hc
                      refine jw_bipush (v := (-4)) d_M_put_95 jc_b_m4 ?_
                      exact jw_ireturn d_M_put_97 rfl h
                  · have h := h.2 hc
                    refine jw_bipush (v := (-3)) d_M_put_75 jc_b_m3 ?_
                    exact jw_ireturn d_M_put_77 rfl h
                · have h := h.2 hc
                  refine jw_bipush (v := (-2)) d_M_put_63 jc_b_m2 ?_
                  exact jw_ireturn d_M_put_65 rfl h
              · have h := h.2 hc
                refine jw_iconst (v := (-1)) d_M_put_52 jc_i_m1 ?_
                exact jw_ireturn d_M_put_53 rfl h
set_option maxRecDepth 100000 in
set_option maxHeartbeats 4000000 in
theorem k_M_put_104 {l : Launch} {X : jw_X0} {G : jw_G} {A : Nat → Prop} {x1 x2 x3 x4 x5 x6 : Int32} {M : jw_Mem} (h : (((M 41 6) ≤ x6 → (∃ j1 : Nat, (j1 < 40 ∧ (M 41 6) = nI j1) ∧ (∃ j2 : Nat, (j2 < 40 ∧ (M 41 6) = nI j2) ∧ (∃ j3 : Nat, (j3 < 40 ∧ (M 41 6) = nI j3) ∧ jw_X l X (jw_g G) A f_M_put 195 [some (jw_a G 41), some (.int x1), some (.int x2), some (.int x3), some (.int x4), some (.int x5), some (.int (M 41 6)), some (.int 0), none] [] (jw_U (jw_U (jw_U (jw_U M 41 6 ((M 41 6) + 1)) 45 j1 x2) 46 j2 x3) 47 j3 x1))))) ∧ (¬ (M 41 6) ≤ x6 → (∃ j4 : Nat, (j4 < 40 ∧ x6 = nI j4) ∧ ((¬ (M 45 j4) = x2 → jw_X l X (jw_g G) A f_M_put 104 [some (jw_a G 41), some (.int x1), some (.int x2), some (.int x3), some (.int x4), some (.int x5), some (.int (x6 + 1)), none, none] [] M) ∧ ((M 45 j4) = x2 → (∃ j5 : Nat, (j5 < 40 ∧ x6 = nI j5) ∧ ((¬ (M 47 j5) = x1 → jw_X l X (jw_g G) A f_M_put 104 [some (jw_a G 41), some (.int x1), some (.int x2), some (.int x3), some (.int x4), some (.int x5), some (.int (x6 + 1)), none, none] [] M) ∧ ((M 47 j5) = x1 → jw_X l X (jw_g G) A f_M_put 104 [some (jw_a G 41), some (.int x1), some (.int x2), some (.int x3), some (.int x4), some (.int (x5 + 1)), some (.int (x6 + 1)), none, none] [] M))))))))) : jw_X l X (jw_g G) A f_M_put 104 [some (jw_a G 41), some (.int x1), some (.int x2), some (.int x3), some (.int x4), some (.int x5), some (.int x6), none, none] [] M := by
  refine jw_iload d_M_put_104 rfl ?_
  refine jw_aload_n (i := 0) d_M_put_106 rfl rfl ?_
  refine jw_get (j := 6) (v := .int (M 41 6)) d_M_put_107 jw_k41 jw_c_M jw_oc_M (Nat.le_of_ble_eq_true rfl) jw_fl_M_102 rfl rfl ?_
  refine jw_icmp_ge (tgt := 152) d_M_put_110 (by decide) (fun hc => ?_) (fun hc => ?_)
  · have h := h.1 hc
    refine jw_aload_n (i := 0) d_M_put_152 rfl rfl ?_
    refine jw_get (j := 6) (v := .int (M 41 6)) d_M_put_153 jw_k41 jw_c_M jw_oc_M (Nat.le_of_ble_eq_true rfl) jw_fl_M_102 rfl rfl ?_
    refine jw_istore d_M_put_156 (Nat.le_of_ble_eq_true rfl) ?_
    refine jw_aload_n (i := 0) d_M_put_158 rfl rfl ?_
    refine jw_dup d_M_put_159 rfl ?_
    refine jw_get (j := 6) (v := .int (M 41 6)) d_M_put_160 jw_k41 jw_c_M jw_oc_M (Nat.le_of_ble_eq_true rfl) jw_fl_M_102 rfl rfl ?_
    refine jw_iconst (v := 1) d_M_put_163 jc_i_1 ?_
    refine jw_iadd d_M_put_164 ?_
    refine jw_put (j := 6) d_M_put_165 jw_k41 jw_c_M jw_oc_M (Nat.le_of_ble_eq_true rfl) jw_fl_M_102 rfl rfl rfl rfl ?_
    refine jw_aload_n (i := 0) d_M_put_168 rfl rfl ?_
    refine jw_get (j := 7) (v := jw_a G 45) d_M_put_169 jw_k41 jw_c_M jw_oc_M (Nat.le_of_ble_eq_true rfl) jw_fl_M_20 rfl rfl ?_
    refine jw_iload d_M_put_172 rfl ?_
    refine jw_iload_n (i := 2) d_M_put_174 rfl rfl ?_
    obtain ⟨j1, hj1, h⟩ := h
    refine jw_iast2 d_M_put_175 jw_k45 (Nat.le_of_ble_eq_true rfl) hj1 ?_
    refine jw_aload_n (i := 0) d_M_put_176 rfl rfl ?_
    refine jw_get (j := 8) (v := jw_a G 46) d_M_put_177 jw_k41 jw_c_M jw_oc_M (Nat.le_of_ble_eq_true rfl) jw_fl_M_23 rfl rfl ?_
    refine jw_iload d_M_put_180 rfl ?_
    refine jw_iload_n (i := 3) d_M_put_182 rfl rfl ?_
    obtain ⟨j2, hj2, h⟩ := h
    refine jw_iast2 d_M_put_183 jw_k46 (Nat.le_of_ble_eq_true rfl) hj2 ?_
    refine jw_aload_n (i := 0) d_M_put_184 rfl rfl ?_
    refine jw_get (j := 9) (v := jw_a G 47) d_M_put_185 jw_k41 jw_c_M jw_oc_M (Nat.le_of_ble_eq_true rfl) jw_fl_M_26 rfl rfl ?_
    refine jw_iload d_M_put_188 rfl ?_
    refine jw_iload_n (i := 1) d_M_put_190 rfl rfl ?_
    obtain ⟨j3, hj3, h⟩ := h
    refine jw_iast2 d_M_put_191 jw_k47 (Nat.le_of_ble_eq_true rfl) hj3 ?_
    refine jw_iconst (v := 0) d_M_put_192 jc_i_0 ?_
    refine jw_istore d_M_put_193 (Nat.le_of_ble_eq_true rfl) ?_
    exact h
  · have h := h.2 hc
    refine jw_aload_n (i := 0) d_M_put_113 rfl rfl ?_
    refine jw_get (j := 7) (v := jw_a G 45) d_M_put_114 jw_k41 jw_c_M jw_oc_M (Nat.le_of_ble_eq_true rfl) jw_fl_M_20 rfl rfl ?_
    refine jw_iload d_M_put_117 rfl ?_
    obtain ⟨j4, hj4, h⟩ := h
    refine jw_iald2 d_M_put_119 jw_k45 (Nat.le_of_ble_eq_true rfl) hj4 ?_
    refine jw_iload_n (i := 2) d_M_put_120 rfl rfl ?_
    refine jw_icmp_ne (tgt := 142) d_M_put_121 (by decide) (fun hc => ?_) (fun hc => ?_)
    · have h := h.1 hc
      refine jw_iload d_M_put_142 rfl ?_
      refine jw_istore d_M_put_144 (Nat.le_of_ble_eq_true rfl) ?_
      refine jw_iinc (d := 1) d_M_put_146 rfl jc_i_1 (Nat.le_of_ble_eq_true rfl) ?_
      refine jw_goto (tgt := 104) d_M_put_149 (by decide) ?_
      exact h
    · have h := h.2 hc
      refine jw_aload_n (i := 0) d_M_put_124 rfl rfl ?_
      refine jw_get (j := 9) (v := jw_a G 47) d_M_put_125 jw_k41 jw_c_M jw_oc_M (Nat.le_of_ble_eq_true rfl) jw_fl_M_26 rfl rfl ?_
      refine jw_iload d_M_put_128 rfl ?_
      obtain ⟨j5, hj5, h⟩ := h
      refine jw_iald2 d_M_put_130 jw_k47 (Nat.le_of_ble_eq_true rfl) hj5 ?_
      refine jw_iload_n (i := 1) d_M_put_131 rfl rfl ?_
      refine jw_icmp_ne (tgt := 142) d_M_put_132 (by decide) (fun hc => ?_) (fun hc => ?_)
      · have h := h.1 hc
        refine jw_iload d_M_put_142 rfl ?_
        refine jw_istore d_M_put_144 (Nat.le_of_ble_eq_true rfl) ?_
        refine jw_iinc (d := 1) d_M_put_146 rfl jc_i_1 (Nat.le_of_ble_eq_true rfl) ?_
        refine jw_goto (tgt := 104) d_M_put_149 (by decide) ?_
        exact h
      · have h := h.2 hc
        refine jw_iload d_M_put_135 rfl ?_
        refine jw_iconst (v := 1) d_M_put_137 jc_i_1 ?_
        refine jw_iadd d_M_put_138 ?_
        refine jw_goto (tgt := 144) d_M_put_139 (by decide) ?_
        refine jw_istore d_M_put_144 (Nat.le_of_ble_eq_true rfl) ?_
        refine jw_iinc (d := 1) d_M_put_146 rfl jc_i_1 (Nat.le_of_ble_eq_true rfl) ?_
        refine jw_goto (tgt := 104) d_M_put_149 (by decide) ?_
        exact h
set_option maxRecDepth 100000 in
set_option maxHeartbeats 4000000 in
theorem k_M_put_195 {l : Launch} {X : jw_X0} {G : jw_G} {A : Nat → Prop} {x1 x2 x3 x4 x5 x6 x7 : Int32} {M : jw_Mem} (h : ((5 ≤ x7 → (∃ j1 : Nat, (j1 < 200 ∧ ((5 * x6) + x1) = nI j1) ∧ jw_X l X (jw_g G) A f_M_put 266 [some (jw_a G 41), some (.int x1), some (.int x2), some (.int x3), some (.int x4), some (.int x5), some (.int x6), some (.int 0), none] [] (jw_U M 48 j1 x5))) ∧ (¬ 5 ≤ x7 → ((x4 < 0 → (∃ j2 : Nat, (j2 < 200 ∧ ((5 * x6) + x7) = nI j2) ∧ jw_X l X (jw_g G) A f_M_put 195 [some (jw_a G 41), some (.int x1), some (.int x2), some (.int x3), some (.int x4), some (.int x5), some (.int x6), some (.int (x7 + 1)), none] [] (jw_U M 48 j2 0))) ∧ (¬ x4 < 0 → (∃ j3 : Nat, (j3 < 4 ∧ x4 = nI j3) ∧ (((M 53 j3) = 0 → (∃ j4 : Nat, (j4 < 200 ∧ ((5 * x6) + x7) = nI j4) ∧ jw_X l X (jw_g G) A f_M_put 195 [some (jw_a G 41), some (.int x1), some (.int x2), some (.int x3), some (.int x4), some (.int x5), some (.int x6), some (.int (x7 + 1)), none] [] (jw_U M 48 j4 0))) ∧ (¬ (M 53 j3) = 0 → (∃ j5 : Nat, (j5 < 20 ∧ ((5 * x4) + x7) = nI j5) ∧ (∃ j6 : Nat, (j6 < 200 ∧ ((5 * x6) + x7) = nI j6) ∧ jw_X l X (jw_g G) A f_M_put 195 [some (jw_a G 41), some (.int x1), some (.int x2), some (.int x3), some (.int x4), some (.int x5), some (.int x6), some (.int (x7 + 1)), none] [] (jw_U M 48 j6 (M 54 j5)))))))))))) : jw_X l X (jw_g G) A f_M_put 195 [some (jw_a G 41), some (.int x1), some (.int x2), some (.int x3), some (.int x4), some (.int x5), some (.int x6), some (.int x7), none] [] M := by
  refine jw_iload d_M_put_195 rfl ?_
  refine jw_iconst (v := 5) d_M_put_197 jc_i_5 ?_
  refine jw_icmp_ge (tgt := 250) d_M_put_198 (by decide) (fun hc => ?_) (fun hc => ?_)
  · have h := h.1 hc
    refine jw_aload_n (i := 0) d_M_put_250 rfl rfl ?_
    refine jw_get (j := 10) (v := jw_a G 48) d_M_put_251 jw_k41 jw_c_M jw_oc_M (Nat.le_of_ble_eq_true rfl) jw_fl_M_29 rfl rfl ?_
    refine jw_iconst (v := 5) d_M_put_254 jc_i_5 ?_
    refine jw_iload d_M_put_255 rfl ?_
    refine jw_imul d_M_put_257 ?_
    refine jw_iload_n (i := 1) d_M_put_258 rfl rfl ?_
    refine jw_iadd d_M_put_259 ?_
    refine jw_iload d_M_put_260 rfl ?_
    obtain ⟨j1, hj1, h⟩ := h
    refine jw_iast2 d_M_put_262 jw_k48 (Nat.le_of_ble_eq_true rfl) hj1 ?_
    refine jw_iconst (v := 0) d_M_put_263 jc_i_0 ?_
    refine jw_istore d_M_put_264 (Nat.le_of_ble_eq_true rfl) ?_
    exact h
  · have h := h.2 hc
    refine jw_aload_n (i := 0) d_M_put_201 rfl rfl ?_
    refine jw_get (j := 10) (v := jw_a G 48) d_M_put_202 jw_k41 jw_c_M jw_oc_M (Nat.le_of_ble_eq_true rfl) jw_fl_M_29 rfl rfl ?_
    refine jw_iconst (v := 5) d_M_put_205 jc_i_5 ?_
    refine jw_iload d_M_put_206 rfl ?_
    refine jw_imul d_M_put_208 ?_
    refine jw_iload d_M_put_209 rfl ?_
    refine jw_iadd d_M_put_211 ?_
    refine jw_iload d_M_put_212 rfl ?_
    refine jw_if_lt (tgt := 242) d_M_put_214 (by decide) (fun hc => ?_) (fun hc => ?_)
    · have h := h.1 hc
      refine jw_iconst (v := 0) d_M_put_242 jc_i_0 ?_
      obtain ⟨j2, hj2, h⟩ := h
      refine jw_iast2 d_M_put_243 jw_k48 (Nat.le_of_ble_eq_true rfl) hj2 ?_
      refine jw_iinc (d := 1) d_M_put_244 rfl jc_i_1 (Nat.le_of_ble_eq_true rfl) ?_
      refine jw_goto (tgt := 195) d_M_put_247 (by decide) ?_
      exact h
    · have h := h.2 hc
      refine jw_aload_n (i := 0) d_M_put_217 rfl rfl ?_
      refine jw_get (j := 15) (v := jw_a G 53) d_M_put_218 jw_k41 jw_c_M jw_oc_M (Nat.le_of_ble_eq_true rfl) jw_fl_M_44 rfl rfl ?_
      refine jw_iload d_M_put_221 rfl ?_
      obtain ⟨j3, hj3, h⟩ := h
      refine jw_zald2 d_M_put_223 jw_k53 (Nat.le_of_ble_eq_true rfl) hj3 ?_
      refine jw_if_eq (tgt := 242) d_M_put_224 (by decide) (fun hc => ?_) (fun hc => ?_)
      · have h := h.1 hc
        refine jw_iconst (v := 0) d_M_put_242 jc_i_0 ?_
        obtain ⟨j4, hj4, h⟩ := h
        refine jw_iast2 d_M_put_243 jw_k48 (Nat.le_of_ble_eq_true rfl) hj4 ?_
        refine jw_iinc (d := 1) d_M_put_244 rfl jc_i_1 (Nat.le_of_ble_eq_true rfl) ?_
        refine jw_goto (tgt := 195) d_M_put_247 (by decide) ?_
        exact h
      · have h := h.2 hc
        refine jw_aload_n (i := 0) d_M_put_227 rfl rfl ?_
        refine jw_get (j := 16) (v := jw_a G 54) d_M_put_228 jw_k41 jw_c_M jw_oc_M (Nat.le_of_ble_eq_true rfl) jw_fl_M_47 rfl rfl ?_
        refine jw_iconst (v := 5) d_M_put_231 jc_i_5 ?_
        refine jw_iload d_M_put_232 rfl ?_
        refine jw_imul d_M_put_234 ?_
        refine jw_iload d_M_put_235 rfl ?_
        refine jw_iadd d_M_put_237 ?_
        obtain ⟨j5, hj5, h⟩ := h
        refine jw_iald2 d_M_put_238 jw_k54 (Nat.le_of_ble_eq_true rfl) hj5 ?_
        refine jw_goto (tgt := 243) d_M_put_239 (by decide) ?_
        obtain ⟨j6, hj6, h⟩ := h
        refine jw_iast2 d_M_put_243 jw_k48 (Nat.le_of_ble_eq_true rfl) hj6 ?_
        refine jw_iinc (d := 1) d_M_put_244 rfl jc_i_1 (Nat.le_of_ble_eq_true rfl) ?_
        refine jw_goto (tgt := 195) d_M_put_247 (by decide) ?_
        exact h
set_option maxRecDepth 100000 in
set_option maxHeartbeats 4000000 in
theorem k_M_put_266 {l : Launch} {X : jw_X0} {G : jw_G} {A : Nat → Prop} {x1 x2 x3 x4 x5 x6 x7 : Int32} {M : jw_Mem} (h : (((M 41 23) ≤ x7 → jw_R l X (jw_g G) A f_M_put x6 M) ∧ (¬ (M 41 23) ≤ x7 → jw_M l (jw_g G) A f_M_standsFor [jw_a G 41, .int x1, .int x7] M (fun r1 M1 => ((0 ≤ r1 → (∃ j1 : Nat, (j1 < 5 ∧ x7 = nI j1) ∧ (∃ j2 : Nat, (j2 < 200 ∧ ((40 * (M1 57 j1)) + x6) = nI j2) ∧ jw_X l X (jw_g G) A f_M_put 266 [some (jw_a G 41), some (.int x1), some (.int x2), some (.int x3), some (.int x4), some (.int x5), some (.int x6), some (.int (x7 + 1)), none] [] (jw_U M1 50 j2 (r1 + 1))))) ∧ (¬ 0 ≤ r1 → (∃ j3 : Nat, (j3 < 5 ∧ x7 = nI j3) ∧ jw_M l (jw_g G) A f_M_take [jw_a G 41, .int (M1 57 j3), .int x6] M1 (fun _ M2 => jw_X l X (jw_g G) A f_M_put 266 [some (jw_a G 41), some (.int x1), some (.int x2), some (.int x3), some (.int x4), some (.int x5), some (.int x6), some (.int (x7 + 1)), none] [] M2)))))))) : jw_X l X (jw_g G) A f_M_put 266 [some (jw_a G 41), some (.int x1), some (.int x2), some (.int x3), some (.int x4), some (.int x5), some (.int x6), some (.int x7), none] [] M := by
  refine jw_iload d_M_put_266 rfl ?_
  refine jw_aload_n (i := 0) d_M_put_268 rfl rfl ?_
  refine jw_get (j := 23) (v := .int (M 41 23)) d_M_put_269 jw_k41 jw_c_M jw_oc_M (Nat.le_of_ble_eq_true rfl) jw_fl_M_91 rfl rfl ?_
  refine jw_icmp_ge (tgt := 333) d_M_put_272 (by decide) (fun hc => ?_) (fun hc => ?_)
  · have h := h.1 hc
    refine jw_iload d_M_put_333 rfl ?_
    exact jw_ireturn d_M_put_335 rfl h
  · have h := h.2 hc
    refine jw_aload_n (i := 0) d_M_put_275 rfl rfl ?_
    refine jw_iload_n (i := 1) d_M_put_276 rfl rfl ?_
    refine jw_iload d_M_put_277 rfl ?_
    refine jw_callV (As := [.int x1, .int x7]) (S := []) d_M_put_279 jw_k41 jw_c_M jw_ml_M_108 jw_in_f_M_standsFor jw_se_f_M_standsFor ⟨Nat.le_of_ble_eq_true rfl, Nat.le_of_ble_eq_true rfl⟩ rfl rfl (Nat.le_of_ble_eq_true rfl) (jw_M_mono h (fun r1 M1 h => ?_))
    refine jw_st (S' := [.int r1]) rfl ?_
    refine jw_istore d_M_put_282 (Nat.le_of_ble_eq_true rfl) ?_
    refine jw_iload d_M_put_284 rfl ?_
    refine jw_if_ge (tgt := 305) d_M_put_286 (by decide) (fun hc => ?_) (fun hc => ?_)
    · have h := h.1 hc
      refine jw_aload_n (i := 0) d_M_put_305 rfl rfl ?_
      refine jw_get (j := 12) (v := jw_a G 50) d_M_put_306 jw_k41 jw_c_M jw_oc_M (Nat.le_of_ble_eq_true rfl) jw_fl_M_35 rfl rfl ?_
      refine jw_bipush (v := 40) d_M_put_309 jc_b_40 ?_
      refine jw_aload_n (i := 0) d_M_put_311 rfl rfl ?_
      refine jw_get (j := 22) (v := jw_a G 57) d_M_put_312 jw_k41 jw_c_M jw_oc_M (Nat.le_of_ble_eq_true rfl) jw_fl_M_56 rfl rfl ?_
      refine jw_iload d_M_put_315 rfl ?_
      obtain ⟨j1, hj1, h⟩ := h
      refine jw_iald2 d_M_put_317 jw_k57 (Nat.le_of_ble_eq_true rfl) hj1 ?_
      refine jw_imul d_M_put_318 ?_
      refine jw_iload d_M_put_319 rfl ?_
      refine jw_iadd d_M_put_321 ?_
      refine jw_iload d_M_put_322 rfl ?_
      refine jw_iconst (v := 1) d_M_put_324 jc_i_1 ?_
      refine jw_iadd d_M_put_325 ?_
      obtain ⟨j2, hj2, h⟩ := h
      refine jw_iast2 d_M_put_326 jw_k50 (Nat.le_of_ble_eq_true rfl) hj2 ?_
      refine jw_iinc (d := 1) d_M_put_327 rfl jc_i_1 (Nat.le_of_ble_eq_true rfl) ?_
      refine jw_goto (tgt := 266) d_M_put_330 (by decide) ?_
      refine jw_forget 8 ?_
      exact h
    · have h := h.2 hc
      refine jw_aload_n (i := 0) d_M_put_289 rfl rfl ?_
      refine jw_aload_n (i := 0) d_M_put_290 rfl rfl ?_
      refine jw_get (j := 22) (v := jw_a G 57) d_M_put_291 jw_k41 jw_c_M jw_oc_M (Nat.le_of_ble_eq_true rfl) jw_fl_M_56 rfl rfl ?_
      refine jw_iload d_M_put_294 rfl ?_
      obtain ⟨j3, hj3, h⟩ := h
      refine jw_iald2 d_M_put_296 jw_k57 (Nat.le_of_ble_eq_true rfl) hj3 ?_
      refine jw_iload d_M_put_297 rfl ?_
      refine jw_callV (As := [.int (M1 57 j3), .int x6]) (S := []) d_M_put_299 jw_k41 jw_c_M jw_ml_M_112 jw_in_f_M_take jw_se_f_M_take ⟨Nat.le_of_ble_eq_true rfl, Nat.le_of_ble_eq_true rfl⟩ rfl rfl (Nat.le_of_ble_eq_true rfl) (jw_M_mono h (fun r2 M2 h => ?_))
      refine jw_st (S' := []) rfl ?_
      refine jw_goto (tgt := 327) d_M_put_302 (by decide) ?_
      refine jw_iinc (d := 1) d_M_put_327 rfl jc_i_1 (Nat.le_of_ble_eq_true rfl) ?_
      refine jw_goto (tgt := 266) d_M_put_330 (by decide) ?_
      refine jw_forget 8 ?_
      exact h
set_option maxRecDepth 100000 in
theorem e_M_put {l : Launch} {G : jw_G} {A : Nat → Prop} {x1 : Int32} {x2 : Int32} {x3 : Int32} {x4 : Int32} {M : jw_Mem} {Q : Int32 → jw_Mem → Prop} (h : ∀ X : jw_X0, (∀ r M', Q r M' → jw_R l X (jw_g G) A f_M_put r M') → jw_M l (jw_g G) A f_M_isNode [.int x1] M (fun r1 M1 => ((r1 = 0 → jw_R l X (jw_g G) A f_M_put (-1) M1) ∧ (¬ r1 = 0 → jw_M l (jw_g G) A f_M_isKey [.int x2] M1 (fun r2 M2 => ((r2 = 0 → jw_R l X (jw_g G) A f_M_put (-1) M2) ∧ (¬ r2 = 0 → ((x4 < (-1) → jw_R l X (jw_g G) A f_M_put (-1) M2) ∧ (¬ x4 < (-1) → ((3 < x4 → jw_R l X (jw_g G) A f_M_put (-1) M2) ∧ (¬ 3 < x4 → ((x4 < 0 → (∃ j1 : Nat, (j1 < 5 ∧ x1 = nI j1) ∧ (((M2 42 j1) = 0 → ((¬ (M2 41 6) = 40 → jw_M l (jw_g G) A f_M_aim [jw_a G 41, .int x1, .int x2] M2 (fun _ M3 => (((M3 41 2) ≤ (M3 41 23) → jw_X l X (jw_g G) A f_M_put 104 [some (jw_a G 41), some (.int x1), some (.int x2), some (.int x3), some (.int x4), some (.int 1), some (.int 0), none, none] [] M3) ∧ (¬ (M3 41 2) ≤ (M3 41 23) → jw_R l X (jw_g G) A f_M_put (-4) M3)))) ∧ ((M2 41 6) = 40 → jw_R l X (jw_g G) A f_M_put (-3) M2))) ∧ (¬ (M2 42 j1) = 0 → jw_R l X (jw_g G) A f_M_put (-2) M2)))) ∧ (¬ x4 < 0 → (∃ j2 : Nat, (j2 < 4 ∧ x4 = nI j2) ∧ (((M2 53 j2) = 0 → (∃ j3 : Nat, (j3 < 5 ∧ x1 = nI j3) ∧ (((M2 42 j3) = 0 → ((¬ (M2 41 6) = 40 → jw_M l (jw_g G) A f_M_aim [jw_a G 41, .int x1, .int x2] M2 (fun _ M4 => (((M4 41 2) ≤ (M4 41 23) → jw_X l X (jw_g G) A f_M_put 104 [some (jw_a G 41), some (.int x1), some (.int x2), some (.int x3), some (.int x4), some (.int 1), some (.int 0), none, none] [] M4) ∧ (¬ (M4 41 2) ≤ (M4 41 23) → jw_R l X (jw_g G) A f_M_put (-4) M4)))) ∧ ((M2 41 6) = 40 → jw_R l X (jw_g G) A f_M_put (-3) M2))) ∧ (¬ (M2 42 j3) = 0 → jw_R l X (jw_g G) A f_M_put (-2) M2)))) ∧ (¬ (M2 53 j2) = 0 → (∃ j4 : Nat, (j4 < 4 ∧ x4 = nI j4) ∧ (((M2 52 j4) = x2 → (∃ j5 : Nat, (j5 < 5 ∧ x1 = nI j5) ∧ (((M2 42 j5) = 0 → ((¬ (M2 41 6) = 40 → jw_M l (jw_g G) A f_M_aim [jw_a G 41, .int x1, .int x2] M2 (fun _ M5 => (((M5 41 2) ≤ (M5 41 23) → jw_X l X (jw_g G) A f_M_put 104 [some (jw_a G 41), some (.int x1), some (.int x2), some (.int x3), some (.int x4), some (.int 1), some (.int 0), none, none] [] M5) ∧ (¬ (M5 41 2) ≤ (M5 41 23) → jw_R l X (jw_g G) A f_M_put (-4) M5)))) ∧ ((M2 41 6) = 40 → jw_R l X (jw_g G) A f_M_put (-3) M2))) ∧ (¬ (M2 42 j5) = 0 → jw_R l X (jw_g G) A f_M_put (-2) M2)))) ∧ (¬ (M2 52 j4) = x2 → jw_R l X (jw_g G) A f_M_put (-1) M2))))))))))))))))))) : jw_M l (jw_g G) A f_M_put [jw_a G 41, .int x1, .int x2, .int x3, .int x4] M Q := by
  refine jw_M_of (by decide) (Nat.le_of_ble_eq_true rfl) (by intro v hv; simp at hv; rcases hv with rfl | rfl | rfl | rfl | rfl <;> rfl) (fun X hR => ?_)
  exact k_M_put_0  (h X (fun r M' q => hR r M' q (fun ty h0 => by cases h0; rfl)))

set_option maxRecDepth 100000 in
set_option maxHeartbeats 4000000 in
theorem k_M_shown_0 {l : Launch} {X : jw_X0} {G : jw_G} {A : Nat → Prop} {x1 : Int32} {M : jw_Mem} (h : jw_X l X (jw_g G) A f_M_shown 4 [some (jw_a G 41), some (.int x1), some (.int 0), some (.int 0)] [] M) : jw_X l X (jw_g G) A f_M_shown 0 [some (jw_a G 41), some (.int x1), none, none] [] M := by
  refine jw_iconst (v := 0) d_M_shown_0 jc_i_0 ?_
  refine jw_istore_n (i := 2) d_M_shown_1 rfl (Nat.le_of_ble_eq_true rfl) ?_
  refine jw_iconst (v := 0) d_M_shown_2 jc_i_0 ?_
  refine jw_istore_n (i := 3) d_M_shown_3 rfl (Nat.le_of_ble_eq_true rfl) ?_
  exact h
set_option maxRecDepth 100000 in
set_option maxHeartbeats 4000000 in
theorem k_M_shown_4 {l : Launch} {X : jw_X0} {G : jw_G} {A : Nat → Prop} {x1 x2 x3 : Int32} {M : jw_Mem} (h : (((M 41 23) ≤ x3 → jw_R l X (jw_g G) A f_M_shown x2 M) ∧ (¬ (M 41 23) ≤ x3 → ((¬ x2 = 0 → jw_X l X (jw_g G) A f_M_shown 4 [some (jw_a G 41), some (.int x1), some (.int 1), some (.int (x3 + 1))] [] M) ∧ (x2 = 0 → (∃ j1 : Nat, (j1 < 5 ∧ x3 = nI j1) ∧ (∃ j2 : Nat, (j2 < 200 ∧ ((40 * (M 57 j1)) + x1) = nI j2) ∧ ((¬ (M 49 j2) = 0 → jw_X l X (jw_g G) A f_M_shown 4 [some (jw_a G 41), some (.int x1), some (.int 1), some (.int (x3 + 1))] [] M) ∧ ((M 49 j2) = 0 → (∃ j3 : Nat, (j3 < 5 ∧ x3 = nI j3) ∧ (∃ j4 : Nat, (j4 < 200 ∧ ((40 * (M 57 j3)) + x1) = nI j4) ∧ (((M 50 j4) ≤ 0 → jw_X l X (jw_g G) A f_M_shown 4 [some (jw_a G 41), some (.int x1), some (.int 0), some (.int (x3 + 1))] [] M) ∧ (¬ (M 50 j4) ≤ 0 → jw_X l X (jw_g G) A f_M_shown 4 [some (jw_a G 41), some (.int x1), some (.int 1), some (.int (x3 + 1))] [] M))))))))))))) : jw_X l X (jw_g G) A f_M_shown 4 [some (jw_a G 41), some (.int x1), some (.int x2), some (.int x3)] [] M := by
  refine jw_iload_n (i := 3) d_M_shown_4 rfl rfl ?_
  refine jw_aload_n (i := 0) d_M_shown_5 rfl rfl ?_
  refine jw_get (j := 23) (v := .int (M 41 23)) d_M_shown_6 jw_k41 jw_c_M jw_oc_M (Nat.le_of_ble_eq_true rfl) jw_fl_M_91 rfl rfl ?_
  refine jw_icmp_ge (tgt := 66) d_M_shown_9 (by decide) (fun hc => ?_) (fun hc => ?_)
  · have h := h.1 hc
    refine jw_iload_n (i := 2) d_M_shown_66 rfl rfl ?_
    exact jw_ireturn d_M_shown_67 rfl h
  · have h := h.2 hc
    refine jw_iload_n (i := 2) d_M_shown_12 rfl rfl ?_
    refine jw_if_ne (tgt := 54) d_M_shown_13 (by decide) (fun hc => ?_) (fun hc => ?_)
    · have h := h.1 hc
      refine jw_iconst (v := 1) d_M_shown_54 jc_i_1 ?_
      refine jw_goto (tgt := 59) d_M_shown_55 (by decide) ?_
      refine jw_istore_n (i := 2) d_M_shown_59 rfl (Nat.le_of_ble_eq_true rfl) ?_
      refine jw_iinc (d := 1) d_M_shown_60 rfl jc_i_1 (Nat.le_of_ble_eq_true rfl) ?_
      refine jw_goto (tgt := 4) d_M_shown_63 (by decide) ?_
      exact h
    · have h := h.2 hc
      refine jw_aload_n (i := 0) d_M_shown_16 rfl rfl ?_
      refine jw_get (j := 11) (v := jw_a G 49) d_M_shown_17 jw_k41 jw_c_M jw_oc_M (Nat.le_of_ble_eq_true rfl) jw_fl_M_32 rfl rfl ?_
      refine jw_bipush (v := 40) d_M_shown_20 jc_b_40 ?_
      refine jw_aload_n (i := 0) d_M_shown_22 rfl rfl ?_
      refine jw_get (j := 22) (v := jw_a G 57) d_M_shown_23 jw_k41 jw_c_M jw_oc_M (Nat.le_of_ble_eq_true rfl) jw_fl_M_56 rfl rfl ?_
      refine jw_iload_n (i := 3) d_M_shown_26 rfl rfl ?_
      obtain ⟨j1, hj1, h⟩ := h
      refine jw_iald2 d_M_shown_27 jw_k57 (Nat.le_of_ble_eq_true rfl) hj1 ?_
      refine jw_imul d_M_shown_28 ?_
      refine jw_iload_n (i := 1) d_M_shown_29 rfl rfl ?_
      refine jw_iadd d_M_shown_30 ?_
      obtain ⟨j2, hj2, h⟩ := h
      refine jw_zald2 d_M_shown_31 jw_k49 (Nat.le_of_ble_eq_true rfl) hj2 ?_
      refine jw_if_ne (tgt := 54) d_M_shown_32 (by decide) (fun hc => ?_) (fun hc => ?_)
      · have h := h.1 hc
        refine jw_iconst (v := 1) d_M_shown_54 jc_i_1 ?_
        refine jw_goto (tgt := 59) d_M_shown_55 (by decide) ?_
        refine jw_istore_n (i := 2) d_M_shown_59 rfl (Nat.le_of_ble_eq_true rfl) ?_
        refine jw_iinc (d := 1) d_M_shown_60 rfl jc_i_1 (Nat.le_of_ble_eq_true rfl) ?_
        refine jw_goto (tgt := 4) d_M_shown_63 (by decide) ?_
        exact h
      · have h := h.2 hc
        refine jw_aload_n (i := 0) d_M_shown_35 rfl rfl ?_
        refine jw_get (j := 12) (v := jw_a G 50) d_M_shown_36 jw_k41 jw_c_M jw_oc_M (Nat.le_of_ble_eq_true rfl) jw_fl_M_35 rfl rfl ?_
        refine jw_bipush (v := 40) d_M_shown_39 jc_b_40 ?_
        refine jw_aload_n (i := 0) d_M_shown_41 rfl rfl ?_
        refine jw_get (j := 22) (v := jw_a G 57) d_M_shown_42 jw_k41 jw_c_M jw_oc_M (Nat.le_of_ble_eq_true rfl) jw_fl_M_56 rfl rfl ?_
        refine jw_iload_n (i := 3) d_M_shown_45 rfl rfl ?_
        obtain ⟨j3, hj3, h⟩ := h
        refine jw_iald2 d_M_shown_46 jw_k57 (Nat.le_of_ble_eq_true rfl) hj3 ?_
        refine jw_imul d_M_shown_47 ?_
        refine jw_iload_n (i := 1) d_M_shown_48 rfl rfl ?_
        refine jw_iadd d_M_shown_49 ?_
        obtain ⟨j4, hj4, h⟩ := h
        refine jw_iald2 d_M_shown_50 jw_k50 (Nat.le_of_ble_eq_true rfl) hj4 ?_
        refine jw_if_le (tgt := 58) d_M_shown_51 (by decide) (fun hc => ?_) (fun hc => ?_)
        · have h := h.1 hc
          refine jw_iconst (v := 0) d_M_shown_58 jc_i_0 ?_
          refine jw_istore_n (i := 2) d_M_shown_59 rfl (Nat.le_of_ble_eq_true rfl) ?_
          refine jw_iinc (d := 1) d_M_shown_60 rfl jc_i_1 (Nat.le_of_ble_eq_true rfl) ?_
          refine jw_goto (tgt := 4) d_M_shown_63 (by decide) ?_
          exact h
        · have h := h.2 hc
          refine jw_iconst (v := 1) d_M_shown_54 jc_i_1 ?_
          refine jw_goto (tgt := 59) d_M_shown_55 (by decide) ?_
          refine jw_istore_n (i := 2) d_M_shown_59 rfl (Nat.le_of_ble_eq_true rfl) ?_
          refine jw_iinc (d := 1) d_M_shown_60 rfl jc_i_1 (Nat.le_of_ble_eq_true rfl) ?_
          refine jw_goto (tgt := 4) d_M_shown_63 (by decide) ?_
          exact h
set_option maxRecDepth 100000 in
theorem e_M_shown {l : Launch} {G : jw_G} {A : Nat → Prop} {x1 : Int32} {M : jw_Mem} {Q : Int32 → jw_Mem → Prop} (h : ∀ X : jw_X0, (∀ r M', Q r M' → (r = 0 ∨ r = 1) → jw_R l X (jw_g G) A f_M_shown r M') → jw_X l X (jw_g G) A f_M_shown 4 [some (jw_a G 41), some (.int x1), some (.int 0), some (.int 0)] [] M) : jw_M l (jw_g G) A f_M_shown [jw_a G 41, .int x1] M Q := by
  refine jw_M_of (by decide) (Nat.le_of_ble_eq_true rfl) (by intro v hv; simp at hv; rcases hv with rfl | rfl <;> rfl) (fun X hR => ?_)
  exact k_M_shown_0  (h X (fun r M' q hb => hR r M' q (fun ty h0 => by cases h0; exact jw_nb hb)))

set_option maxRecDepth 100000 in
set_option maxHeartbeats 4000000 in
theorem k_M_isFound_0 {l : Launch} {X : jw_X0} {G : jw_G} {A : Nat → Prop} {x1 : Int32} {x2 : Int32} {M : jw_Mem} (h : (∃ j1 : Nat, (j1 < 40 ∧ x1 = nI j1) ∧ ((¬ (M 45 j1) = x2 → jw_R l X (jw_g G) A f_M_isFound 0 M) ∧ ((M 45 j1) = x2 → jw_M l (jw_g G) A f_M_shown [jw_a G 41, .int x1] M (fun r1 M1 => ((¬ r1 = 0 → jw_X l X (jw_g G) A f_M_isFound 22 [some (jw_a G 41), some (.int x1), some (.int x2), some (.int 0)] [] M1) ∧ (r1 = 0 → jw_R l X (jw_g G) A f_M_isFound 0 M1))))))) : jw_X l X (jw_g G) A f_M_isFound 0 [some (jw_a G 41), some (.int x1), some (.int x2), none] [] M := by
  refine jw_aload_n (i := 0) d_M_isFound_0 rfl rfl ?_
  refine jw_get (j := 7) (v := jw_a G 45) d_M_isFound_1 jw_k41 jw_c_M jw_oc_M (Nat.le_of_ble_eq_true rfl) jw_fl_M_20 rfl rfl ?_
  refine jw_iload_n (i := 1) d_M_isFound_4 rfl rfl ?_
  obtain ⟨j1, hj1, h⟩ := h
  refine jw_iald2 d_M_isFound_5 jw_k45 (Nat.le_of_ble_eq_true rfl) hj1 ?_
  refine jw_iload_n (i := 2) d_M_isFound_6 rfl rfl ?_
  refine jw_icmp_ne (tgt := 18) d_M_isFound_7 (by decide) (fun hc => ?_) (fun hc => ?_)
  · have h := h.1 hc
    refine jw_iconst (v := 0) d_M_isFound_18 jc_i_0 ?_
    exact jw_ireturn d_M_isFound_19 rfl h
  · have h := h.2 hc
    refine jw_aload_n (i := 0) d_M_isFound_10 rfl rfl ?_
    refine jw_iload_n (i := 1) d_M_isFound_11 rfl rfl ?_
    refine jw_callV (As := [.int x1]) (S := []) d_M_isFound_12 jw_k41 jw_c_M jw_ml_M_115 jw_in_f_M_shown jw_se_f_M_shown ⟨Nat.le_of_ble_eq_true rfl, Nat.le_of_ble_eq_true rfl⟩ rfl rfl (Nat.le_of_ble_eq_true rfl) (jw_M_mono h (fun r1 M1 h => ?_))
    refine jw_st (S' := [.int r1]) rfl ?_
    refine jw_if_ne (tgt := 20) d_M_isFound_15 (by decide) (fun hc => ?_) (fun hc => ?_)
    · have h := h.1 hc
      refine jw_iconst (v := 0) d_M_isFound_20 jc_i_0 ?_
      refine jw_istore_n (i := 3) d_M_isFound_21 rfl (Nat.le_of_ble_eq_true rfl) ?_
      exact h
    · have h := h.2 hc
      refine jw_iconst (v := 0) d_M_isFound_18 jc_i_0 ?_
      exact jw_ireturn d_M_isFound_19 rfl h
set_option maxRecDepth 100000 in
set_option maxHeartbeats 4000000 in
theorem k_M_isFound_22 {l : Launch} {X : jw_X0} {G : jw_G} {A : Nat → Prop} {x1 x2 x3 : Int32} {M : jw_Mem} (h : (((M 41 6) ≤ x3 → jw_R l X (jw_g G) A f_M_isFound 1 M) ∧ (¬ (M 41 6) ≤ x3 → ((x3 = x1 → jw_X l X (jw_g G) A f_M_isFound 22 [some (jw_a G 41), some (.int x1), some (.int x2), some (.int (x3 + 1))] [] M) ∧ (¬ x3 = x1 → (∃ j1 : Nat, (j1 < 40 ∧ x3 = nI j1) ∧ ((¬ (M 45 j1) = x2 → jw_X l X (jw_g G) A f_M_isFound 22 [some (jw_a G 41), some (.int x1), some (.int x2), some (.int (x3 + 1))] [] M) ∧ ((M 45 j1) = x2 → jw_M l (jw_g G) A f_M_below [jw_a G 41, .int x1, .int x3] M (fun r1 M1 => ((r1 = 0 → jw_X l X (jw_g G) A f_M_isFound 22 [some (jw_a G 41), some (.int x1), some (.int x2), some (.int (x3 + 1))] [] M1) ∧ (¬ r1 = 0 → jw_M l (jw_g G) A f_M_shown [jw_a G 41, .int x3] M1 (fun r2 M2 => ((r2 = 0 → jw_X l X (jw_g G) A f_M_isFound 22 [some (jw_a G 41), some (.int x1), some (.int x2), some (.int (x3 + 1))] [] M2) ∧ (¬ r2 = 0 → jw_R l X (jw_g G) A f_M_isFound 0 M2)))))))))))))) : jw_X l X (jw_g G) A f_M_isFound 22 [some (jw_a G 41), some (.int x1), some (.int x2), some (.int x3)] [] M := by
  refine jw_iload_n (i := 3) d_M_isFound_22 rfl rfl ?_
  refine jw_aload_n (i := 0) d_M_isFound_23 rfl rfl ?_
  refine jw_get (j := 6) (v := .int (M 41 6)) d_M_isFound_24 jw_k41 jw_c_M jw_oc_M (Nat.le_of_ble_eq_true rfl) jw_fl_M_102 rfl rfl ?_
  refine jw_icmp_ge (tgt := 70) d_M_isFound_27 (by decide) (fun hc => ?_) (fun hc => ?_)
  · have h := h.1 hc
    refine jw_iconst (v := 1) d_M_isFound_70 jc_i_1 ?_
    exact jw_ireturn d_M_isFound_71 rfl h
  · have h := h.2 hc
    refine jw_iload_n (i := 3) d_M_isFound_30 rfl rfl ?_
    refine jw_iload_n (i := 1) d_M_isFound_31 rfl rfl ?_
    refine jw_icmp_eq (tgt := 64) d_M_isFound_32 (by decide) (fun hc => ?_) (fun hc => ?_)
    · have h := h.1 hc
      refine jw_iinc (d := 1) d_M_isFound_64 rfl jc_i_1 (Nat.le_of_ble_eq_true rfl) ?_
      refine jw_goto (tgt := 22) d_M_isFound_67 (by decide) ?_
      exact h
    · have h := h.2 hc
      refine jw_aload_n (i := 0) d_M_isFound_35 rfl rfl ?_
      refine jw_get (j := 7) (v := jw_a G 45) d_M_isFound_36 jw_k41 jw_c_M jw_oc_M (Nat.le_of_ble_eq_true rfl) jw_fl_M_20 rfl rfl ?_
      refine jw_iload_n (i := 3) d_M_isFound_39 rfl rfl ?_
      obtain ⟨j1, hj1, h⟩ := h
      refine jw_iald2 d_M_isFound_40 jw_k45 (Nat.le_of_ble_eq_true rfl) hj1 ?_
      refine jw_iload_n (i := 2) d_M_isFound_41 rfl rfl ?_
      refine jw_icmp_ne (tgt := 64) d_M_isFound_42 (by decide) (fun hc => ?_) (fun hc => ?_)
      · have h := h.1 hc
        refine jw_iinc (d := 1) d_M_isFound_64 rfl jc_i_1 (Nat.le_of_ble_eq_true rfl) ?_
        refine jw_goto (tgt := 22) d_M_isFound_67 (by decide) ?_
        exact h
      · have h := h.2 hc
        refine jw_aload_n (i := 0) d_M_isFound_45 rfl rfl ?_
        refine jw_iload_n (i := 1) d_M_isFound_46 rfl rfl ?_
        refine jw_iload_n (i := 3) d_M_isFound_47 rfl rfl ?_
        refine jw_callV (As := [.int x1, .int x3]) (S := []) d_M_isFound_48 jw_k41 jw_c_M jw_ml_M_105 jw_in_f_M_below jw_se_f_M_below ⟨Nat.le_of_ble_eq_true rfl, Nat.le_of_ble_eq_true rfl⟩ rfl rfl (Nat.le_of_ble_eq_true rfl) (jw_M_mono h (fun r1 M1 h => ?_))
        refine jw_st (S' := [.int r1]) rfl ?_
        refine jw_if_eq (tgt := 64) d_M_isFound_51 (by decide) (fun hc => ?_) (fun hc => ?_)
        · have h := h.1 hc
          refine jw_iinc (d := 1) d_M_isFound_64 rfl jc_i_1 (Nat.le_of_ble_eq_true rfl) ?_
          refine jw_goto (tgt := 22) d_M_isFound_67 (by decide) ?_
          exact h
        · have h := h.2 hc
          refine jw_aload_n (i := 0) d_M_isFound_54 rfl rfl ?_
          refine jw_iload_n (i := 3) d_M_isFound_55 rfl rfl ?_
          refine jw_callV (As := [.int x3]) (S := []) d_M_isFound_56 jw_k41 jw_c_M jw_ml_M_115 jw_in_f_M_shown jw_se_f_M_shown ⟨Nat.le_of_ble_eq_true rfl, Nat.le_of_ble_eq_true rfl⟩ rfl rfl (Nat.le_of_ble_eq_true rfl) (jw_M_mono h (fun r2 M2 h => ?_))
          refine jw_st (S' := [.int r2]) rfl ?_
          refine jw_if_eq (tgt := 64) d_M_isFound_59 (by decide) (fun hc => ?_) (fun hc => ?_)
          · have h := h.1 hc
            refine jw_iinc (d := 1) d_M_isFound_64 rfl jc_i_1 (Nat.le_of_ble_eq_true rfl) ?_
            refine jw_goto (tgt := 22) d_M_isFound_67 (by decide) ?_
            exact h
          · have h := h.2 hc
            refine jw_iconst (v := 0) d_M_isFound_62 jc_i_0 ?_
            exact jw_ireturn d_M_isFound_63 rfl h
set_option maxRecDepth 100000 in
theorem e_M_isFound {l : Launch} {G : jw_G} {A : Nat → Prop} {x1 : Int32} {x2 : Int32} {M : jw_Mem} {Q : Int32 → jw_Mem → Prop} (h : ∀ X : jw_X0, (∀ r M', Q r M' → (r = 0 ∨ r = 1) → jw_R l X (jw_g G) A f_M_isFound r M') → (∃ j1 : Nat, (j1 < 40 ∧ x1 = nI j1) ∧ ((¬ (M 45 j1) = x2 → jw_R l X (jw_g G) A f_M_isFound 0 M) ∧ ((M 45 j1) = x2 → jw_M l (jw_g G) A f_M_shown [jw_a G 41, .int x1] M (fun r1 M1 => ((¬ r1 = 0 → jw_X l X (jw_g G) A f_M_isFound 22 [some (jw_a G 41), some (.int x1), some (.int x2), some (.int 0)] [] M1) ∧ (r1 = 0 → jw_R l X (jw_g G) A f_M_isFound 0 M1))))))) : jw_M l (jw_g G) A f_M_isFound [jw_a G 41, .int x1, .int x2] M Q := by
  refine jw_M_of (by decide) (Nat.le_of_ble_eq_true rfl) (by intro v hv; simp at hv; rcases hv with rfl | rfl | rfl <;> rfl) (fun X hR => ?_)
  exact k_M_isFound_0  (h X (fun r M' q hb => hR r M' q (fun ty h0 => by cases h0; exact jw_nb hb)))

set_option maxRecDepth 100000 in
set_option maxHeartbeats 4000000 in
theorem k_M_get_0 {l : Launch} {X : jw_X0} {G : jw_G} {A : Nat → Prop} {x1 : Int32} {x2 : Int32} {x3 : Int32} {M : jw_Mem} (h : jw_M l (jw_g G) A f_M_isNode [.int x1] M (fun r1 M1 => ((r1 = 0 → jw_R l X (jw_g G) A f_M_get (-1) M1) ∧ (¬ r1 = 0 → jw_M l (jw_g G) A f_M_isKey [.int x2] M1 (fun r2 M2 => ((r2 = 0 → jw_R l X (jw_g G) A f_M_get (-1) M2) ∧ (¬ r2 = 0 → ((x3 < 0 → jw_R l X (jw_g G) A f_M_get (-1) M2) ∧ (¬ x3 < 0 → ((x3 ≤ 3 → (∃ j1 : Nat, (j1 < 5 ∧ x1 = nI j1) ∧ (((M2 42 j1) = 0 → jw_M l (jw_g G) A f_M_aim [jw_a G 41, .int x1, .int x2] M2 (fun _ M3 => (((M3 41 1) ≤ (M3 41 23) → jw_X l X (jw_g G) A f_M_get 65 [some (jw_a G 41), some (.int x1), some (.int x2), some (.int x3), some (.int 0), none, none, none] [] (jw_U M3 41 18 0)) ∧ (¬ (M3 41 1) ≤ (M3 41 23) → jw_R l X (jw_g G) A f_M_get (-3) M3)))) ∧ (¬ (M2 42 j1) = 0 → jw_R l X (jw_g G) A f_M_get (-2) M2)))) ∧ (¬ x3 ≤ 3 → jw_R l X (jw_g G) A f_M_get (-1) M2))))))))))) : jw_X l X (jw_g G) A f_M_get 0 [some (jw_a G 41), some (.int x1), some (.int x2), some (.int x3), none, none, none, none] [] M := by
  refine jw_iload_n (i := 1) d_M_get_0 rfl rfl ?_
  refine jw_callS (As := [.int x1]) (S := []) d_M_get_1 jw_ml_M_69 jw_st_f_M_isNode ⟨Nat.le_of_ble_eq_true rfl, Nat.le_of_ble_eq_true rfl⟩ rfl rfl (Nat.le_of_ble_eq_true rfl) (jw_M_mono h (fun r1 M1 h => ?_))
  refine jw_st (S' := [.int r1]) rfl ?_
  refine jw_if_eq (tgt := 23) d_M_get_4 (by decide) (fun hc => ?_) (fun hc => ?_)
  · have h := h.1 hc
    refine jw_iconst (v := (-1)) d_M_get_23 jc_i_m1 ?_
    exact jw_ireturn d_M_get_24 rfl h
  · have h := h.2 hc
    refine jw_iload_n (i := 2) d_M_get_7 rfl rfl ?_
    refine jw_callS (As := [.int x2]) (S := []) d_M_get_8 jw_ml_M_84 jw_st_f_M_isKey ⟨Nat.le_of_ble_eq_true rfl, Nat.le_of_ble_eq_true rfl⟩ rfl rfl (Nat.le_of_ble_eq_true rfl) (jw_M_mono h (fun r2 M2 h => ?_))
    refine jw_st (S' := [.int r2]) rfl ?_
    refine jw_if_eq (tgt := 23) d_M_get_11 (by decide) (fun hc => ?_) (fun hc => ?_)
    · have h := h.1 hc
      refine jw_iconst (v := (-1)) d_M_get_23 jc_i_m1 ?_
      exact jw_ireturn d_M_get_24 rfl h
    · have h := h.2 hc
      refine jw_iload_n (i := 3) d_M_get_14 rfl rfl ?_
      refine jw_if_lt (tgt := 23) d_M_get_15 (by decide) (fun hc => ?_) (fun hc => ?_)
      · have h := h.1 hc
        refine jw_iconst (v := (-1)) d_M_get_23 jc_i_m1 ?_
        exact jw_ireturn d_M_get_24 rfl h
      · have h := h.2 hc
        refine jw_iload_n (i := 3) d_M_get_18 rfl rfl ?_
        refine jw_iconst (v := 3) d_M_get_19 jc_i_3 ?_
        refine jw_icmp_le (tgt := 25) d_M_get_20 (by decide) (fun hc => ?_) (fun hc => ?_)
        · have h := h.1 hc
          refine jw_aload_n (i := 0) d_M_get_25 rfl rfl ?_
          refine jw_get (j := 3) (v := jw_a G 42) d_M_get_26 jw_k41 jw_c_M jw_oc_M (Nat.le_of_ble_eq_true rfl) jw_fl_M_7 rfl rfl ?_
          refine jw_iload_n (i := 1) d_M_get_29 rfl rfl ?_
          obtain ⟨j1, hj1, h⟩ := h
          refine jw_zald2 d_M_get_30 jw_k42 (Nat.le_of_ble_eq_true rfl) hj1 ?_
          refine jw_if_eq (tgt := 37) d_M_get_31 (by decide) (fun hc => ?_) (fun hc => ?_)
          · have h := h.1 hc
            refine jw_aload_n (i := 0) d_M_get_37 rfl rfl ?_
            refine jw_iload_n (i := 1) d_M_get_38 rfl rfl ?_
            refine jw_iload_n (i := 2) d_M_get_39 rfl rfl ?_
            refine jw_callV (As := [.int x1, .int x2]) (S := []) d_M_get_40 jw_k41 jw_c_M jw_ml_M_98 jw_in_f_M_aim jw_se_f_M_aim ⟨Nat.le_of_ble_eq_true rfl, Nat.le_of_ble_eq_true rfl⟩ rfl rfl (Nat.le_of_ble_eq_true rfl) (jw_M_mono h (fun r3 M3 h => ?_))
            refine jw_st (S' := []) rfl ?_
            refine jw_aload_n (i := 0) d_M_get_43 rfl rfl ?_
            refine jw_get (j := 23) (v := .int (M3 41 23)) d_M_get_44 jw_k41 jw_c_M jw_oc_M (Nat.le_of_ble_eq_true rfl) jw_fl_M_91 rfl rfl ?_
            refine jw_aload_n (i := 0) d_M_get_47 rfl rfl ?_
            refine jw_get (j := 1) (v := .int (M3 41 1)) d_M_get_48 jw_k41 jw_c_M jw_oc_M (Nat.le_of_ble_eq_true rfl) jw_fl_M_63 rfl rfl ?_
            refine jw_icmp_ge (tgt := 57) d_M_get_51 (by decide) (fun hc => ?_) (fun hc => ?_)
            · have h := h.1 hc
              refine jw_aload_n (i := 0) d_M_get_57 rfl rfl ?_
              refine jw_iconst (v := 0) d_M_get_58 jc_i_0 ?_
              refine jw_put (j := 18) d_M_get_59 jw_k41 jw_c_M jw_oc_M (Nat.le_of_ble_eq_true rfl) jw_fl_M_118 rfl rfl rfl rfl ?_
              refine jw_iconst (v := 0) d_M_get_62 jc_i_0 ?_
              refine jw_istore d_M_get_63 (Nat.le_of_ble_eq_true rfl) ?_
              exact h
            · have h := h.2 hc
              refine jw_bipush (v := (-3)) d_M_get_54 jc_b_m3 ?_
              exact jw_ireturn d_M_get_56 rfl h
          · have h := h.2 hc
            refine jw_bipush (v := (-2)) d_M_get_34 jc_b_m2 ?_
            exact jw_ireturn d_M_get_36 rfl h
        · have h := h.2 hc
          refine jw_iconst (v := (-1)) d_M_get_23 jc_i_m1 ?_
          exact jw_ireturn d_M_get_24 rfl h
set_option maxRecDepth 100000 in
set_option maxHeartbeats 4000000 in
theorem k_M_get_65 {l : Launch} {X : jw_X0} {G : jw_G} {A : Nat → Prop} {x1 x2 x3 x4 : Int32} {M : jw_Mem} (h : (((M 41 6) ≤ x4 → (∃ j1 : Nat, (j1 < 4 ∧ x3 = nI j1) ∧ (∃ j2 : Nat, (j2 < 4 ∧ x3 = nI j2) ∧ jw_X l X (jw_g G) A f_M_get 128 [some (jw_a G 41), some (.int x1), some (.int x2), some (.int x3), some (.int 0), none, none, none] [] (jw_U (jw_U M 53 j1 1) 52 j2 x2)))) ∧ (¬ (M 41 6) ≤ x4 → jw_M l (jw_g G) A f_M_isFound [jw_a G 41, .int x4, .int x2] M (fun r1 M1 => ((r1 = 0 → jw_X l X (jw_g G) A f_M_get 65 [some (jw_a G 41), some (.int x1), some (.int x2), some (.int x3), some (.int (x4 + 1)), none, none, none] [] M1) ∧ (¬ r1 = 0 → (∃ j3 : Nat, (j3 < 40 ∧ (M1 41 18) = nI j3) ∧ jw_X l X (jw_g G) A f_M_get 65 [some (jw_a G 41), some (.int x1), some (.int x2), some (.int x3), some (.int (x4 + 1)), none, none, none] [] (jw_U (jw_U M1 55 j3 x4) 41 18 (((jw_U M1 55 j3 x4) 41 18) + 1))))))))) : jw_X l X (jw_g G) A f_M_get 65 [some (jw_a G 41), some (.int x1), some (.int x2), some (.int x3), some (.int x4), none, none, none] [] M := by
  refine jw_iload d_M_get_65 rfl ?_
  refine jw_aload_n (i := 0) d_M_get_67 rfl rfl ?_
  refine jw_get (j := 6) (v := .int (M 41 6)) d_M_get_68 jw_k41 jw_c_M jw_oc_M (Nat.le_of_ble_eq_true rfl) jw_fl_M_102 rfl rfl ?_
  refine jw_icmp_ge (tgt := 111) d_M_get_71 (by decide) (fun hc => ?_) (fun hc => ?_)
  · have h := h.1 hc
    refine jw_aload_n (i := 0) d_M_get_111 rfl rfl ?_
    refine jw_get (j := 15) (v := jw_a G 53) d_M_get_112 jw_k41 jw_c_M jw_oc_M (Nat.le_of_ble_eq_true rfl) jw_fl_M_44 rfl rfl ?_
    refine jw_iload_n (i := 3) d_M_get_115 rfl rfl ?_
    refine jw_iconst (v := 1) d_M_get_116 jc_i_1 ?_
    obtain ⟨j1, hj1, h⟩ := h
    refine jw_zast2 d_M_get_117 jw_k53 (Nat.le_of_ble_eq_true rfl) hj1 jw_b1 ?_
    refine jw_aload_n (i := 0) d_M_get_118 rfl rfl ?_
    refine jw_get (j := 14) (v := jw_a G 52) d_M_get_119 jw_k41 jw_c_M jw_oc_M (Nat.le_of_ble_eq_true rfl) jw_fl_M_41 rfl rfl ?_
    refine jw_iload_n (i := 3) d_M_get_122 rfl rfl ?_
    refine jw_iload_n (i := 2) d_M_get_123 rfl rfl ?_
    obtain ⟨j2, hj2, h⟩ := h
    refine jw_iast2 d_M_get_124 jw_k52 (Nat.le_of_ble_eq_true rfl) hj2 ?_
    refine jw_iconst (v := 0) d_M_get_125 jc_i_0 ?_
    refine jw_istore d_M_get_126 (Nat.le_of_ble_eq_true rfl) ?_
    exact h
  · have h := h.2 hc
    refine jw_aload_n (i := 0) d_M_get_74 rfl rfl ?_
    refine jw_iload d_M_get_75 rfl ?_
    refine jw_iload_n (i := 2) d_M_get_77 rfl rfl ?_
    refine jw_callV (As := [.int x4, .int x2]) (S := []) d_M_get_78 jw_k41 jw_c_M jw_ml_M_121 jw_in_f_M_isFound jw_se_f_M_isFound ⟨Nat.le_of_ble_eq_true rfl, Nat.le_of_ble_eq_true rfl⟩ rfl rfl (Nat.le_of_ble_eq_true rfl) (jw_M_mono h (fun r1 M1 h => ?_))
    refine jw_st (S' := [.int r1]) rfl ?_
    refine jw_if_eq (tgt := 105) d_M_get_81 (by decide) (fun hc => ?_) (fun hc => ?_)
    · have h := h.1 hc
      refine jw_iinc (d := 1) d_M_get_105 rfl jc_i_1 (Nat.le_of_ble_eq_true rfl) ?_
      refine jw_goto (tgt := 65) d_M_get_108 (by decide) ?_
      exact h
    · have h := h.2 hc
      refine jw_aload_n (i := 0) d_M_get_84 rfl rfl ?_
      refine jw_get (j := 17) (v := jw_a G 55) d_M_get_85 jw_k41 jw_c_M jw_oc_M (Nat.le_of_ble_eq_true rfl) jw_fl_M_50 rfl rfl ?_
      refine jw_aload_n (i := 0) d_M_get_88 rfl rfl ?_
      refine jw_get (j := 18) (v := .int (M1 41 18)) d_M_get_89 jw_k41 jw_c_M jw_oc_M (Nat.le_of_ble_eq_true rfl) jw_fl_M_118 rfl rfl ?_
      refine jw_iload d_M_get_92 rfl ?_
      obtain ⟨j3, hj3, h⟩ := h
      refine jw_iast2 d_M_get_94 jw_k55 (Nat.le_of_ble_eq_true rfl) hj3 ?_
      refine jw_aload_n (i := 0) d_M_get_95 rfl rfl ?_
      refine jw_dup d_M_get_96 rfl ?_
      refine jw_get (j := 18) (v := .int ((jw_U M1 55 j3 x4) 41 18)) d_M_get_97 jw_k41 jw_c_M jw_oc_M (Nat.le_of_ble_eq_true rfl) jw_fl_M_118 rfl rfl ?_
      refine jw_iconst (v := 1) d_M_get_100 jc_i_1 ?_
      refine jw_iadd d_M_get_101 ?_
      refine jw_put (j := 18) d_M_get_102 jw_k41 jw_c_M jw_oc_M (Nat.le_of_ble_eq_true rfl) jw_fl_M_118 rfl rfl rfl rfl ?_
      refine jw_iinc (d := 1) d_M_get_105 rfl jc_i_1 (Nat.le_of_ble_eq_true rfl) ?_
      refine jw_goto (tgt := 65) d_M_get_108 (by decide) ?_
      exact h
set_option maxRecDepth 100000 in
set_option maxHeartbeats 4000000 in
theorem k_M_get_128 {l : Launch} {X : jw_X0} {G : jw_G} {A : Nat → Prop} {x1 x2 x3 x4 : Int32} {M : jw_Mem} (h : ((5 ≤ x4 → jw_M l (jw_g G) A f_M_repair [jw_a G 41] M (fun _ M1 => jw_R l X (jw_g G) A f_M_get (M1 41 18) M1)) ∧ (¬ 5 ≤ x4 → jw_X l X (jw_g G) A f_M_get 140 [some (jw_a G 41), some (.int x1), some (.int x2), some (.int x3), some (.int x4), some (.int 0), some (.int 0), none] [] M))) : jw_X l X (jw_g G) A f_M_get 128 [some (jw_a G 41), some (.int x1), some (.int x2), some (.int x3), some (.int x4), none, none, none] [] M := by
  refine jw_iload d_M_get_128 rfl ?_
  refine jw_iconst (v := 5) d_M_get_130 jc_i_5 ?_
  refine jw_icmp_ge (tgt := 209) d_M_get_131 (by decide) (fun hc => ?_) (fun hc => ?_)
  · have h := h.1 hc
    refine jw_aload_n (i := 0) d_M_get_209 rfl rfl ?_
    refine jw_callV (As := []) (S := []) d_M_get_210 jw_k41 jw_c_M jw_ml_M_124 jw_in_f_M_repair jw_se_f_M_repair ⟨Nat.le_of_ble_eq_true rfl, Nat.le_of_ble_eq_true rfl⟩ rfl rfl (Nat.le_of_ble_eq_true rfl) (jw_M_mono h (fun r1 M1 h => ?_))
    refine jw_st (S' := []) rfl ?_
    refine jw_aload_n (i := 0) d_M_get_213 rfl rfl ?_
    refine jw_get (j := 18) (v := .int (M1 41 18)) d_M_get_214 jw_k41 jw_c_M jw_oc_M (Nat.le_of_ble_eq_true rfl) jw_fl_M_118 rfl rfl ?_
    exact jw_ireturn d_M_get_217 rfl h
  · have h := h.2 hc
    refine jw_iconst (v := 0) d_M_get_134 jc_i_0 ?_
    refine jw_istore d_M_get_135 (Nat.le_of_ble_eq_true rfl) ?_
    refine jw_iconst (v := 0) d_M_get_137 jc_i_0 ?_
    refine jw_istore d_M_get_138 (Nat.le_of_ble_eq_true rfl) ?_
    exact h
set_option maxRecDepth 100000 in
set_option maxHeartbeats 4000000 in
theorem k_M_get_140 {l : Launch} {X : jw_X0} {G : jw_G} {A : Nat → Prop} {x1 x2 x3 x4 x5 x6 : Int32} {M : jw_Mem} (h : (((M 41 18) ≤ x6 → (∃ j1 : Nat, (j1 < 20 ∧ ((5 * x3) + x4) = nI j1) ∧ jw_X l X (jw_g G) A f_M_get 128 [some (jw_a G 41), some (.int x1), some (.int x2), some (.int x3), some (.int (x4 + 1)), none, none, none] [] (jw_U M 54 j1 x5))) ∧ (¬ (M 41 18) ≤ x6 → (∃ j2 : Nat, (j2 < 40 ∧ x6 = nI j2) ∧ (∃ j3 : Nat, (j3 < 200 ∧ ((5 * (M 55 j2)) + x4) = nI j3) ∧ (((M 48 j3) ≤ x5 → jw_X l X (jw_g G) A f_M_get 140 [some (jw_a G 41), some (.int x1), some (.int x2), some (.int x3), some (.int x4), some (.int x5), some (.int (x6 + 1)), none] [] M) ∧ (¬ (M 48 j3) ≤ x5 → jw_X l X (jw_g G) A f_M_get 140 [some (jw_a G 41), some (.int x1), some (.int x2), some (.int x3), some (.int x4), some (.int (M 48 j3)), some (.int (x6 + 1)), none] [] M))))))) : jw_X l X (jw_g G) A f_M_get 140 [some (jw_a G 41), some (.int x1), some (.int x2), some (.int x3), some (.int x4), some (.int x5), some (.int x6), none] [] M := by
  refine jw_iload d_M_get_140 rfl ?_
  refine jw_aload_n (i := 0) d_M_get_142 rfl rfl ?_
  refine jw_get (j := 18) (v := .int (M 41 18)) d_M_get_143 jw_k41 jw_c_M jw_oc_M (Nat.le_of_ble_eq_true rfl) jw_fl_M_118 rfl rfl ?_
  refine jw_icmp_ge (tgt := 190) d_M_get_146 (by decide) (fun hc => ?_) (fun hc => ?_)
  · have h := h.1 hc
    refine jw_aload_n (i := 0) d_M_get_190 rfl rfl ?_
    refine jw_get (j := 16) (v := jw_a G 54) d_M_get_191 jw_k41 jw_c_M jw_oc_M (Nat.le_of_ble_eq_true rfl) jw_fl_M_47 rfl rfl ?_
    refine jw_iconst (v := 5) d_M_get_194 jc_i_5 ?_
    refine jw_iload_n (i := 3) d_M_get_195 rfl rfl ?_
    refine jw_imul d_M_get_196 ?_
    refine jw_iload d_M_get_197 rfl ?_
    refine jw_iadd d_M_get_199 ?_
    refine jw_iload d_M_get_200 rfl ?_
    obtain ⟨j1, hj1, h⟩ := h
    refine jw_iast2 d_M_get_202 jw_k54 (Nat.le_of_ble_eq_true rfl) hj1 ?_
    refine jw_iinc (d := 1) d_M_get_203 rfl jc_i_1 (Nat.le_of_ble_eq_true rfl) ?_
    refine jw_goto (tgt := 128) d_M_get_206 (by decide) ?_
    refine jw_forget 5 ?_
    refine jw_forget 6 ?_
    exact h
  · have h := h.2 hc
    refine jw_aload_n (i := 0) d_M_get_149 rfl rfl ?_
    refine jw_get (j := 10) (v := jw_a G 48) d_M_get_150 jw_k41 jw_c_M jw_oc_M (Nat.le_of_ble_eq_true rfl) jw_fl_M_29 rfl rfl ?_
    refine jw_iconst (v := 5) d_M_get_153 jc_i_5 ?_
    refine jw_aload_n (i := 0) d_M_get_154 rfl rfl ?_
    refine jw_get (j := 17) (v := jw_a G 55) d_M_get_155 jw_k41 jw_c_M jw_oc_M (Nat.le_of_ble_eq_true rfl) jw_fl_M_50 rfl rfl ?_
    refine jw_iload d_M_get_158 rfl ?_
    obtain ⟨j2, hj2, h⟩ := h
    refine jw_iald2 d_M_get_160 jw_k55 (Nat.le_of_ble_eq_true rfl) hj2 ?_
    refine jw_imul d_M_get_161 ?_
    refine jw_iload d_M_get_162 rfl ?_
    refine jw_iadd d_M_get_164 ?_
    obtain ⟨j3, hj3, h⟩ := h
    refine jw_iald2 d_M_get_165 jw_k48 (Nat.le_of_ble_eq_true rfl) hj3 ?_
    refine jw_istore d_M_get_166 (Nat.le_of_ble_eq_true rfl) ?_
    refine jw_iload d_M_get_168 rfl ?_
    refine jw_iload d_M_get_170 rfl ?_
    refine jw_icmp_le (tgt := 180) d_M_get_172 (by decide) (fun hc => ?_) (fun hc => ?_)
    · have h := h.1 hc
      refine jw_iload d_M_get_180 rfl ?_
      refine jw_istore d_M_get_182 (Nat.le_of_ble_eq_true rfl) ?_
      refine jw_iinc (d := 1) d_M_get_184 rfl jc_i_1 (Nat.le_of_ble_eq_true rfl) ?_
      refine jw_goto (tgt := 140) d_M_get_187 (by decide) ?_
      refine jw_forget 7 ?_
      exact h
    · have h := h.2 hc
      refine jw_iload d_M_get_175 rfl ?_
      refine jw_goto (tgt := 182) d_M_get_177 (by decide) ?_
      refine jw_istore d_M_get_182 (Nat.le_of_ble_eq_true rfl) ?_
      refine jw_iinc (d := 1) d_M_get_184 rfl jc_i_1 (Nat.le_of_ble_eq_true rfl) ?_
      refine jw_goto (tgt := 140) d_M_get_187 (by decide) ?_
      refine jw_forget 7 ?_
      exact h
set_option maxRecDepth 100000 in
theorem e_M_get {l : Launch} {G : jw_G} {A : Nat → Prop} {x1 : Int32} {x2 : Int32} {x3 : Int32} {M : jw_Mem} {Q : Int32 → jw_Mem → Prop} (h : ∀ X : jw_X0, (∀ r M', Q r M' → jw_R l X (jw_g G) A f_M_get r M') → jw_M l (jw_g G) A f_M_isNode [.int x1] M (fun r1 M1 => ((r1 = 0 → jw_R l X (jw_g G) A f_M_get (-1) M1) ∧ (¬ r1 = 0 → jw_M l (jw_g G) A f_M_isKey [.int x2] M1 (fun r2 M2 => ((r2 = 0 → jw_R l X (jw_g G) A f_M_get (-1) M2) ∧ (¬ r2 = 0 → ((x3 < 0 → jw_R l X (jw_g G) A f_M_get (-1) M2) ∧ (¬ x3 < 0 → ((x3 ≤ 3 → (∃ j1 : Nat, (j1 < 5 ∧ x1 = nI j1) ∧ (((M2 42 j1) = 0 → jw_M l (jw_g G) A f_M_aim [jw_a G 41, .int x1, .int x2] M2 (fun _ M3 => (((M3 41 1) ≤ (M3 41 23) → jw_X l X (jw_g G) A f_M_get 65 [some (jw_a G 41), some (.int x1), some (.int x2), some (.int x3), some (.int 0), none, none, none] [] (jw_U M3 41 18 0)) ∧ (¬ (M3 41 1) ≤ (M3 41 23) → jw_R l X (jw_g G) A f_M_get (-3) M3)))) ∧ (¬ (M2 42 j1) = 0 → jw_R l X (jw_g G) A f_M_get (-2) M2)))) ∧ (¬ x3 ≤ 3 → jw_R l X (jw_g G) A f_M_get (-1) M2))))))))))) : jw_M l (jw_g G) A f_M_get [jw_a G 41, .int x1, .int x2, .int x3] M Q := by
  refine jw_M_of (by decide) (Nat.le_of_ble_eq_true rfl) (by intro v hv; simp at hv; rcases hv with rfl | rfl | rfl | rfl <;> rfl) (fun X hR => ?_)
  exact k_M_get_0  (h X (fun r M' q => hR r M' q (fun ty h0 => by cases h0; rfl)))

set_option maxRecDepth 100000 in
set_option maxHeartbeats 4000000 in
theorem k_M_repair_0 {l : Launch} {X : jw_X0} {G : jw_G} {A : Nat → Prop}  {M : jw_Mem} (h : jw_X l X (jw_g G) A f_M_repair 7 [some (jw_a G 41), some (.int 0), none, none] [] (jw_U M 41 19 0)) : jw_X l X (jw_g G) A f_M_repair 0 [some (jw_a G 41), none, none, none] [] M := by
  refine jw_aload_n (i := 0) d_M_repair_0 rfl rfl ?_
  refine jw_iconst (v := 0) d_M_repair_1 jc_i_0 ?_
  refine jw_put (j := 19) d_M_repair_2 jw_k41 jw_c_M jw_oc_M (Nat.le_of_ble_eq_true rfl) jw_fl_M_127 rfl rfl rfl rfl ?_
  refine jw_iconst (v := 0) d_M_repair_5 jc_i_0 ?_
  refine jw_istore_n (i := 1) d_M_repair_6 rfl (Nat.le_of_ble_eq_true rfl) ?_
  exact h
set_option maxRecDepth 100000 in
set_option maxHeartbeats 4000000 in
theorem k_M_repair_7 {l : Launch} {X : jw_X0} {G : jw_G} {A : Nat → Prop} {x1 : Int32} {M : jw_Mem} (h : (((M 41 23) ≤ x1 → jw_R l X (jw_g G) A f_M_repair 0 M) ∧ (¬ (M 41 23) ≤ x1 → (∃ j1 : Nat, (j1 < 5 ∧ x1 = nI j1) ∧ jw_M l (jw_g G) A f_M_placeIn [jw_a G 41, .int (M 57 j1)] M (fun r1 M1 => (((M1 41 0) ≤ r1 → jw_X l X (jw_g G) A f_M_repair 7 [some (jw_a G 41), some (.int (x1 + 1)), none, none] [] M1) ∧ (¬ (M1 41 0) ≤ r1 → jw_X l X (jw_g G) A f_M_repair 34 [some (jw_a G 41), some (.int x1), some (.int 0), none] [] M1))))))) : jw_X l X (jw_g G) A f_M_repair 7 [some (jw_a G 41), some (.int x1), none, none] [] M := by
  refine jw_iload_n (i := 1) d_M_repair_7 rfl rfl ?_
  refine jw_aload_n (i := 0) d_M_repair_8 rfl rfl ?_
  refine jw_get (j := 23) (v := .int (M 41 23)) d_M_repair_9 jw_k41 jw_c_M jw_oc_M (Nat.le_of_ble_eq_true rfl) jw_fl_M_91 rfl rfl ?_
  refine jw_icmp_ge (tgt := 137) d_M_repair_12 (by decide) (fun hc => ?_) (fun hc => ?_)
  · have h := h.1 hc
    exact jw_return d_M_repair_137 rfl h
  · have h := h.2 hc
    refine jw_aload_n (i := 0) d_M_repair_15 rfl rfl ?_
    refine jw_aload_n (i := 0) d_M_repair_16 rfl rfl ?_
    refine jw_get (j := 22) (v := jw_a G 57) d_M_repair_17 jw_k41 jw_c_M jw_oc_M (Nat.le_of_ble_eq_true rfl) jw_fl_M_56 rfl rfl ?_
    refine jw_iload_n (i := 1) d_M_repair_20 rfl rfl ?_
    obtain ⟨j1, hj1, h⟩ := h
    refine jw_iald2 d_M_repair_21 jw_k57 (Nat.le_of_ble_eq_true rfl) hj1 ?_
    refine jw_callV (As := [.int (M 57 j1)]) (S := []) d_M_repair_22 jw_k41 jw_c_M jw_ml_M_76 jw_in_f_M_placeIn jw_se_f_M_placeIn ⟨Nat.le_of_ble_eq_true rfl, Nat.le_of_ble_eq_true rfl⟩ rfl rfl (Nat.le_of_ble_eq_true rfl) (jw_M_mono h (fun r1 M1 h => ?_))
    refine jw_st (S' := [.int r1]) rfl ?_
    refine jw_aload_n (i := 0) d_M_repair_25 rfl rfl ?_
    refine jw_get (j := 0) (v := .int (M1 41 0)) d_M_repair_26 jw_k41 jw_c_M jw_oc_M (Nat.le_of_ble_eq_true rfl) jw_fl_M_59 rfl rfl ?_
    refine jw_icmp_ge (tgt := 131) d_M_repair_29 (by decide) (fun hc => ?_) (fun hc => ?_)
    · have h := h.1 hc
      refine jw_iinc (d := 1) d_M_repair_131 rfl jc_i_1 (Nat.le_of_ble_eq_true rfl) ?_
      refine jw_goto (tgt := 7) d_M_repair_134 (by decide) ?_
      exact h
    · have h := h.2 hc
      refine jw_iconst (v := 0) d_M_repair_32 jc_i_0 ?_
      refine jw_istore_n (i := 2) d_M_repair_33 rfl (Nat.le_of_ble_eq_true rfl) ?_
      exact h
set_option maxRecDepth 100000 in
set_option maxHeartbeats 4000000 in
theorem k_M_repair_34 {l : Launch} {X : jw_X0} {G : jw_G} {A : Nat → Prop} {x1 x2 : Int32} {M : jw_Mem} (h : (((M 41 18) ≤ x2 → jw_X l X (jw_g G) A f_M_repair 7 [some (jw_a G 41), some (.int (x1 + 1)), none, none] [] M) ∧ (¬ (M 41 18) ≤ x2 → (∃ j1 : Nat, (j1 < 5 ∧ x1 = nI j1) ∧ (∃ j2 : Nat, (j2 < 40 ∧ x2 = nI j2) ∧ (∃ j3 : Nat, (j3 < 200 ∧ ((40 * (M 57 j1)) + (M 55 j2)) = nI j3) ∧ (∃ j4 : Nat, (j4 < 5 ∧ x1 = nI j4) ∧ (∃ j5 : Nat, (j5 < 40 ∧ x2 = nI j5) ∧ jw_M l (jw_g G) A f_M_take [jw_a G 41, .int (M 57 j4), .int (M 55 j5)] M (fun _ M1 => ((¬ (M 49 j3) = 0 → jw_X l X (jw_g G) A f_M_repair 34 [some (jw_a G 41), some (.int x1), some (.int (x2 + 1)), none] [] (jw_U M1 41 19 (M1 41 19))) ∧ ((M 49 j3) = 0 → (∃ j6 : Nat, (j6 < 5 ∧ x1 = nI j6) ∧ (∃ j7 : Nat, (j7 < 40 ∧ x2 = nI j7) ∧ (∃ j8 : Nat, (j8 < 200 ∧ ((40 * (M1 57 j6)) + (M1 55 j7)) = nI j8) ∧ (((M1 49 j8) = 0 → jw_X l X (jw_g G) A f_M_repair 34 [some (jw_a G 41), some (.int x1), some (.int (x2 + 1)), none] [] (jw_U M1 41 19 (M1 41 19))) ∧ (¬ (M1 49 j8) = 0 → jw_X l X (jw_g G) A f_M_repair 34 [some (jw_a G 41), some (.int x1), some (.int (x2 + 1)), none] [] (jw_U M1 41 19 ((M1 41 19) + 1)))))))))))))))))) : jw_X l X (jw_g G) A f_M_repair 34 [some (jw_a G 41), some (.int x1), some (.int x2), none] [] M := by
  refine jw_iload_n (i := 2) d_M_repair_34 rfl rfl ?_
  refine jw_aload_n (i := 0) d_M_repair_35 rfl rfl ?_
  refine jw_get (j := 18) (v := .int (M 41 18)) d_M_repair_36 jw_k41 jw_c_M jw_oc_M (Nat.le_of_ble_eq_true rfl) jw_fl_M_118 rfl rfl ?_
  refine jw_icmp_ge (tgt := 131) d_M_repair_39 (by decide) (fun hc => ?_) (fun hc => ?_)
  · have h := h.1 hc
    refine jw_iinc (d := 1) d_M_repair_131 rfl jc_i_1 (Nat.le_of_ble_eq_true rfl) ?_
    refine jw_goto (tgt := 7) d_M_repair_134 (by decide) ?_
    refine jw_forget 2 ?_
    exact h
  · have h := h.2 hc
    refine jw_aload_n (i := 0) d_M_repair_42 rfl rfl ?_
    refine jw_get (j := 11) (v := jw_a G 49) d_M_repair_43 jw_k41 jw_c_M jw_oc_M (Nat.le_of_ble_eq_true rfl) jw_fl_M_32 rfl rfl ?_
    refine jw_bipush (v := 40) d_M_repair_46 jc_b_40 ?_
    refine jw_aload_n (i := 0) d_M_repair_48 rfl rfl ?_
    refine jw_get (j := 22) (v := jw_a G 57) d_M_repair_49 jw_k41 jw_c_M jw_oc_M (Nat.le_of_ble_eq_true rfl) jw_fl_M_56 rfl rfl ?_
    refine jw_iload_n (i := 1) d_M_repair_52 rfl rfl ?_
    obtain ⟨j1, hj1, h⟩ := h
    refine jw_iald2 d_M_repair_53 jw_k57 (Nat.le_of_ble_eq_true rfl) hj1 ?_
    refine jw_imul d_M_repair_54 ?_
    refine jw_aload_n (i := 0) d_M_repair_55 rfl rfl ?_
    refine jw_get (j := 17) (v := jw_a G 55) d_M_repair_56 jw_k41 jw_c_M jw_oc_M (Nat.le_of_ble_eq_true rfl) jw_fl_M_50 rfl rfl ?_
    refine jw_iload_n (i := 2) d_M_repair_59 rfl rfl ?_
    obtain ⟨j2, hj2, h⟩ := h
    refine jw_iald2 d_M_repair_60 jw_k55 (Nat.le_of_ble_eq_true rfl) hj2 ?_
    refine jw_iadd d_M_repair_61 ?_
    obtain ⟨j3, hj3, h⟩ := h
    refine jw_zald2 d_M_repair_62 jw_k49 (Nat.le_of_ble_eq_true rfl) hj3 ?_
    refine jw_istore_n (i := 3) d_M_repair_63 rfl (Nat.le_of_ble_eq_true rfl) ?_
    refine jw_aload_n (i := 0) d_M_repair_64 rfl rfl ?_
    refine jw_aload_n (i := 0) d_M_repair_65 rfl rfl ?_
    refine jw_get (j := 22) (v := jw_a G 57) d_M_repair_66 jw_k41 jw_c_M jw_oc_M (Nat.le_of_ble_eq_true rfl) jw_fl_M_56 rfl rfl ?_
    refine jw_iload_n (i := 1) d_M_repair_69 rfl rfl ?_
    obtain ⟨j4, hj4, h⟩ := h
    refine jw_iald2 d_M_repair_70 jw_k57 (Nat.le_of_ble_eq_true rfl) hj4 ?_
    refine jw_aload_n (i := 0) d_M_repair_71 rfl rfl ?_
    refine jw_get (j := 17) (v := jw_a G 55) d_M_repair_72 jw_k41 jw_c_M jw_oc_M (Nat.le_of_ble_eq_true rfl) jw_fl_M_50 rfl rfl ?_
    refine jw_iload_n (i := 2) d_M_repair_75 rfl rfl ?_
    obtain ⟨j5, hj5, h⟩ := h
    refine jw_iald2 d_M_repair_76 jw_k55 (Nat.le_of_ble_eq_true rfl) hj5 ?_
    refine jw_callV (As := [.int (M 57 j4), .int (M 55 j5)]) (S := []) d_M_repair_77 jw_k41 jw_c_M jw_ml_M_112 jw_in_f_M_take jw_se_f_M_take ⟨Nat.le_of_ble_eq_true rfl, Nat.le_of_ble_eq_true rfl⟩ rfl rfl (Nat.le_of_ble_eq_true rfl) (jw_M_mono h (fun r1 M1 h => ?_))
    refine jw_st (S' := []) rfl ?_
    refine jw_aload_n (i := 0) d_M_repair_80 rfl rfl ?_
    refine jw_iload_n (i := 3) d_M_repair_81 rfl rfl ?_
    refine jw_if_ne (tgt := 118) d_M_repair_82 (by decide) (fun hc => ?_) (fun hc => ?_)
    · have h := h.1 hc
      refine jw_aload_n (i := 0) d_M_repair_118 rfl rfl ?_
      refine jw_get (j := 19) (v := .int (M1 41 19)) d_M_repair_119 jw_k41 jw_c_M jw_oc_M (Nat.le_of_ble_eq_true rfl) jw_fl_M_127 rfl rfl ?_
      refine jw_put (j := 19) d_M_repair_122 jw_k41 jw_c_M jw_oc_M (Nat.le_of_ble_eq_true rfl) jw_fl_M_127 rfl rfl rfl rfl ?_
      refine jw_iinc (d := 1) d_M_repair_125 rfl jc_i_1 (Nat.le_of_ble_eq_true rfl) ?_
      refine jw_goto (tgt := 34) d_M_repair_128 (by decide) ?_
      refine jw_forget 3 ?_
      exact h
    · have h := h.2 hc
      refine jw_aload_n (i := 0) d_M_repair_85 rfl rfl ?_
      refine jw_get (j := 11) (v := jw_a G 49) d_M_repair_86 jw_k41 jw_c_M jw_oc_M (Nat.le_of_ble_eq_true rfl) jw_fl_M_32 rfl rfl ?_
      refine jw_bipush (v := 40) d_M_repair_89 jc_b_40 ?_
      refine jw_aload_n (i := 0) d_M_repair_91 rfl rfl ?_
      refine jw_get (j := 22) (v := jw_a G 57) d_M_repair_92 jw_k41 jw_c_M jw_oc_M (Nat.le_of_ble_eq_true rfl) jw_fl_M_56 rfl rfl ?_
      refine jw_iload_n (i := 1) d_M_repair_95 rfl rfl ?_
      obtain ⟨j6, hj6, h⟩ := h
      refine jw_iald2 d_M_repair_96 jw_k57 (Nat.le_of_ble_eq_true rfl) hj6 ?_
      refine jw_imul d_M_repair_97 ?_
      refine jw_aload_n (i := 0) d_M_repair_98 rfl rfl ?_
      refine jw_get (j := 17) (v := jw_a G 55) d_M_repair_99 jw_k41 jw_c_M jw_oc_M (Nat.le_of_ble_eq_true rfl) jw_fl_M_50 rfl rfl ?_
      refine jw_iload_n (i := 2) d_M_repair_102 rfl rfl ?_
      obtain ⟨j7, hj7, h⟩ := h
      refine jw_iald2 d_M_repair_103 jw_k55 (Nat.le_of_ble_eq_true rfl) hj7 ?_
      refine jw_iadd d_M_repair_104 ?_
      obtain ⟨j8, hj8, h⟩ := h
      refine jw_zald2 d_M_repair_105 jw_k49 (Nat.le_of_ble_eq_true rfl) hj8 ?_
      refine jw_if_eq (tgt := 118) d_M_repair_106 (by decide) (fun hc => ?_) (fun hc => ?_)
      · have h := h.1 hc
        refine jw_aload_n (i := 0) d_M_repair_118 rfl rfl ?_
        refine jw_get (j := 19) (v := .int (M1 41 19)) d_M_repair_119 jw_k41 jw_c_M jw_oc_M (Nat.le_of_ble_eq_true rfl) jw_fl_M_127 rfl rfl ?_
        refine jw_put (j := 19) d_M_repair_122 jw_k41 jw_c_M jw_oc_M (Nat.le_of_ble_eq_true rfl) jw_fl_M_127 rfl rfl rfl rfl ?_
        refine jw_iinc (d := 1) d_M_repair_125 rfl jc_i_1 (Nat.le_of_ble_eq_true rfl) ?_
        refine jw_goto (tgt := 34) d_M_repair_128 (by decide) ?_
        refine jw_forget 3 ?_
        exact h
      · have h := h.2 hc
        refine jw_aload_n (i := 0) d_M_repair_109 rfl rfl ?_
        refine jw_get (j := 19) (v := .int (M1 41 19)) d_M_repair_110 jw_k41 jw_c_M jw_oc_M (Nat.le_of_ble_eq_true rfl) jw_fl_M_127 rfl rfl ?_
        refine jw_iconst (v := 1) d_M_repair_113 jc_i_1 ?_
        refine jw_iadd d_M_repair_114 ?_
        refine jw_goto (tgt := 122) d_M_repair_115 (by decide) ?_
        refine jw_put (j := 19) d_M_repair_122 jw_k41 jw_c_M jw_oc_M (Nat.le_of_ble_eq_true rfl) jw_fl_M_127 rfl rfl rfl rfl ?_
        refine jw_iinc (d := 1) d_M_repair_125 rfl jc_i_1 (Nat.le_of_ble_eq_true rfl) ?_
        refine jw_goto (tgt := 34) d_M_repair_128 (by decide) ?_
        refine jw_forget 3 ?_
        exact h
set_option maxRecDepth 100000 in
theorem e_M_repair {l : Launch} {G : jw_G} {A : Nat → Prop}  {M : jw_Mem} {Q : Int32 → jw_Mem → Prop} (h : ∀ X : jw_X0, (∀ M', Q 0 M' → jw_R l X (jw_g G) A f_M_repair 0 M') → jw_X l X (jw_g G) A f_M_repair 7 [some (jw_a G 41), some (.int 0), none, none] [] (jw_U M 41 19 0)) : jw_M l (jw_g G) A f_M_repair [jw_a G 41] M Q := by
  refine jw_M_of (by decide) (Nat.le_of_ble_eq_true rfl) (by intro v hv; simp at hv; rcases hv with rfl <;> rfl) (fun X hR => ?_)
  exact k_M_repair_0  (h X (fun M' q => hR 0 M' q (fun ty h0 => nomatch h0)))

set_option maxRecDepth 100000 in
set_option maxHeartbeats 4000000 in
theorem k_M_found_0 {l : Launch} {X : jw_X0} {G : jw_G} {A : Nat → Prop} {x1 : Int32} {M : jw_Mem} (h : ((x1 < 0 → jw_R l X (jw_g G) A f_M_found (-1) M) ∧ (¬ x1 < 0 → (((M 41 18) ≤ x1 → jw_R l X (jw_g G) A f_M_found (-1) M) ∧ (¬ (M 41 18) ≤ x1 → (∃ j1 : Nat, (j1 < 40 ∧ x1 = nI j1) ∧ jw_R l X (jw_g G) A f_M_found (M 55 j1) M)))))) : jw_X l X (jw_g G) A f_M_found 0 [some (jw_a G 41), some (.int x1)] [] M := by
  refine jw_iload_n (i := 1) d_M_found_0 rfl rfl ?_
  refine jw_if_lt (tgt := 21) d_M_found_1 (by decide) (fun hc => ?_) (fun hc => ?_)
  · have h := h.1 hc
    refine jw_iconst (v := (-1)) d_M_found_21 jc_i_m1 ?_
    exact jw_ireturn d_M_found_22 rfl h
  · have h := h.2 hc
    refine jw_iload_n (i := 1) d_M_found_4 rfl rfl ?_
    refine jw_aload_n (i := 0) d_M_found_5 rfl rfl ?_
    refine jw_get (j := 18) (v := .int (M 41 18)) d_M_found_6 jw_k41 jw_c_M jw_oc_M (Nat.le_of_ble_eq_true rfl) jw_fl_M_118 rfl rfl ?_
    refine jw_icmp_ge (tgt := 21) d_M_found_9 (by decide) (fun hc => ?_) (fun hc => ?_)
    · have h := h.1 hc
      refine jw_iconst (v := (-1)) d_M_found_21 jc_i_m1 ?_
      exact jw_ireturn d_M_found_22 rfl h
    · have h := h.2 hc
      refine jw_aload_n (i := 0) d_M_found_12 rfl rfl ?_
      refine jw_get (j := 17) (v := jw_a G 55) d_M_found_13 jw_k41 jw_c_M jw_oc_M (Nat.le_of_ble_eq_true rfl) jw_fl_M_50 rfl rfl ?_
      refine jw_iload_n (i := 1) d_M_found_16 rfl rfl ?_
      obtain ⟨j1, hj1, h⟩ := h
      refine jw_iald2 d_M_found_17 jw_k55 (Nat.le_of_ble_eq_true rfl) hj1 ?_
      refine jw_goto (tgt := 22) d_M_found_18 (by decide) ?_
      exact jw_ireturn d_M_found_22 rfl h
set_option maxRecDepth 100000 in
theorem e_M_found {l : Launch} {G : jw_G} {A : Nat → Prop} {x1 : Int32} {M : jw_Mem} {Q : Int32 → jw_Mem → Prop} (h : ∀ X : jw_X0, (∀ r M', Q r M' → jw_R l X (jw_g G) A f_M_found r M') → ((x1 < 0 → jw_R l X (jw_g G) A f_M_found (-1) M) ∧ (¬ x1 < 0 → (((M 41 18) ≤ x1 → jw_R l X (jw_g G) A f_M_found (-1) M) ∧ (¬ (M 41 18) ≤ x1 → (∃ j1 : Nat, (j1 < 40 ∧ x1 = nI j1) ∧ jw_R l X (jw_g G) A f_M_found (M 55 j1) M)))))) : jw_M l (jw_g G) A f_M_found [jw_a G 41, .int x1] M Q := by
  refine jw_M_of (by decide) (Nat.le_of_ble_eq_true rfl) (by intro v hv; simp at hv; rcases hv with rfl | rfl <;> rfl) (fun X hR => ?_)
  exact k_M_found_0  (h X (fun r M' q => hR r M' q (fun ty h0 => by cases h0; rfl)))

set_option maxRecDepth 100000 in
set_option maxHeartbeats 4000000 in
theorem k_M_repaired_0 {l : Launch} {X : jw_X0} {G : jw_G} {A : Nat → Prop}  {M : jw_Mem} (h : jw_R l X (jw_g G) A f_M_repaired (M 41 19) M) : jw_X l X (jw_g G) A f_M_repaired 0 [some (jw_a G 41)] [] M := by
  refine jw_aload_n (i := 0) d_M_repaired_0 rfl rfl ?_
  refine jw_get (j := 19) (v := .int (M 41 19)) d_M_repaired_1 jw_k41 jw_c_M jw_oc_M (Nat.le_of_ble_eq_true rfl) jw_fl_M_127 rfl rfl ?_
  exact jw_ireturn d_M_repaired_4 rfl h
set_option maxRecDepth 100000 in
theorem e_M_repaired {l : Launch} {G : jw_G} {A : Nat → Prop}  {M : jw_Mem} {Q : Int32 → jw_Mem → Prop} (h : ∀ X : jw_X0, (∀ r M', Q r M' → jw_R l X (jw_g G) A f_M_repaired r M') → jw_R l X (jw_g G) A f_M_repaired (M 41 19) M) : jw_M l (jw_g G) A f_M_repaired [jw_a G 41] M Q := by
  refine jw_M_of (by decide) (Nat.le_of_ble_eq_true rfl) (by intro v hv; simp at hv; rcases hv with rfl <;> rfl) (fun X hR => ?_)
  exact k_M_repaired_0  (h X (fun r M' q => hR r M' q (fun ty h0 => by cases h0; rfl)))

set_option maxRecDepth 100000 in
set_option maxHeartbeats 4000000 in
theorem k_M_handOver_0 {l : Launch} {X : jw_X0} {G : jw_G} {A : Nat → Prop} {x1 : Int32} {M : jw_Mem} (h : jw_M l (jw_g G) A f_M_isNode [.int x1] M (fun r1 M1 => ((¬ r1 = 0 → (∃ j1 : Nat, (j1 < 5 ∧ x1 = nI j1) ∧ (((M1 42 j1) = 0 → jw_X l X (jw_g G) A f_M_handOver 25 [some (jw_a G 41), some (.int x1), some (.int 0), some (.int 0), none] [] M1) ∧ (¬ (M1 42 j1) = 0 → jw_R l X (jw_g G) A f_M_handOver (-2) M1)))) ∧ (r1 = 0 → jw_R l X (jw_g G) A f_M_handOver (-1) M1)))) : jw_X l X (jw_g G) A f_M_handOver 0 [some (jw_a G 41), some (.int x1), none, none, none] [] M := by
  refine jw_iload_n (i := 1) d_M_handOver_0 rfl rfl ?_
  refine jw_callS (As := [.int x1]) (S := []) d_M_handOver_1 jw_ml_M_69 jw_st_f_M_isNode ⟨Nat.le_of_ble_eq_true rfl, Nat.le_of_ble_eq_true rfl⟩ rfl rfl (Nat.le_of_ble_eq_true rfl) (jw_M_mono h (fun r1 M1 h => ?_))
  refine jw_st (S' := [.int r1]) rfl ?_
  refine jw_if_ne (tgt := 9) d_M_handOver_4 (by decide) (fun hc => ?_) (fun hc => ?_)
  · have h := h.1 hc
    refine jw_aload_n (i := 0) d_M_handOver_9 rfl rfl ?_
    refine jw_get (j := 3) (v := jw_a G 42) d_M_handOver_10 jw_k41 jw_c_M jw_oc_M (Nat.le_of_ble_eq_true rfl) jw_fl_M_7 rfl rfl ?_
    refine jw_iload_n (i := 1) d_M_handOver_13 rfl rfl ?_
    obtain ⟨j1, hj1, h⟩ := h
    refine jw_zald2 d_M_handOver_14 jw_k42 (Nat.le_of_ble_eq_true rfl) hj1 ?_
    refine jw_if_eq (tgt := 21) d_M_handOver_15 (by decide) (fun hc => ?_) (fun hc => ?_)
    · have h := h.1 hc
      refine jw_iconst (v := 0) d_M_handOver_21 jc_i_0 ?_
      refine jw_istore_n (i := 2) d_M_handOver_22 rfl (Nat.le_of_ble_eq_true rfl) ?_
      refine jw_iconst (v := 0) d_M_handOver_23 jc_i_0 ?_
      refine jw_istore_n (i := 3) d_M_handOver_24 rfl (Nat.le_of_ble_eq_true rfl) ?_
      exact h
    · have h := h.2 hc
      refine jw_bipush (v := (-2)) d_M_handOver_18 jc_b_m2 ?_
      exact jw_ireturn d_M_handOver_20 rfl h
  · have h := h.2 hc
    refine jw_iconst (v := (-1)) d_M_handOver_7 jc_i_m1 ?_
    exact jw_ireturn d_M_handOver_8 rfl h
set_option maxRecDepth 100000 in
set_option maxHeartbeats 4000000 in
theorem k_M_handOver_25 {l : Launch} {X : jw_X0} {G : jw_G} {A : Nat → Prop} {x1 x2 x3 : Int32} {M : jw_Mem} (h : (((M 41 6) ≤ x3 → jw_X l X (jw_g G) A f_M_handOver 93 [some (jw_a G 41), some (.int x1), some (.int x2), some (.int 0), none] [] M) ∧ (¬ (M 41 6) ≤ x3 → (∃ j1 : Nat, (j1 < 200 ∧ ((40 * x1) + x3) = nI j1) ∧ ((((M 50 j1) - 1) < 0 → jw_X l X (jw_g G) A f_M_handOver 25 [some (jw_a G 41), some (.int x1), some (.int x2), some (.int (x3 + 1)), none] [] M) ∧ (¬ ((M 50 j1) - 1) < 0 → jw_M l (jw_g G) A f_M_reaches [jw_a G 41, .int x1, .int ((M 50 j1) - 1)] M (fun r1 M1 => ((r1 = 0 → jw_X l X (jw_g G) A f_M_handOver 25 [some (jw_a G 41), some (.int x1), some (.int x2), some (.int (x3 + 1)), none] [] M1) ∧ (¬ r1 = 0 → jw_M l (jw_g G) A f_M_take [jw_a G 41, .int ((M 50 j1) - 1), .int x3] M1 (fun _ M2 => (∃ j2 : Nat, (j2 < 200 ∧ ((40 * x1) + x3) = nI j2) ∧ jw_X l X (jw_g G) A f_M_handOver 25 [some (jw_a G 41), some (.int x1), some (.int (x2 + 1)), some (.int (x3 + 1)), none] [] (jw_U M2 50 j2 0)))))))))))) : jw_X l X (jw_g G) A f_M_handOver 25 [some (jw_a G 41), some (.int x1), some (.int x2), some (.int x3), none] [] M := by
  refine jw_iload_n (i := 3) d_M_handOver_25 rfl rfl ?_
  refine jw_aload_n (i := 0) d_M_handOver_26 rfl rfl ?_
  refine jw_get (j := 6) (v := .int (M 41 6)) d_M_handOver_27 jw_k41 jw_c_M jw_oc_M (Nat.le_of_ble_eq_true rfl) jw_fl_M_102 rfl rfl ?_
  refine jw_icmp_ge (tgt := 91) d_M_handOver_30 (by decide) (fun hc => ?_) (fun hc => ?_)
  · have h := h.1 hc
    refine jw_iconst (v := 0) d_M_handOver_91 jc_i_0 ?_
    refine jw_istore_n (i := 3) d_M_handOver_92 rfl (Nat.le_of_ble_eq_true rfl) ?_
    exact h
  · have h := h.2 hc
    refine jw_aload_n (i := 0) d_M_handOver_33 rfl rfl ?_
    refine jw_get (j := 12) (v := jw_a G 50) d_M_handOver_34 jw_k41 jw_c_M jw_oc_M (Nat.le_of_ble_eq_true rfl) jw_fl_M_35 rfl rfl ?_
    refine jw_bipush (v := 40) d_M_handOver_37 jc_b_40 ?_
    refine jw_iload_n (i := 1) d_M_handOver_39 rfl rfl ?_
    refine jw_imul d_M_handOver_40 ?_
    refine jw_iload_n (i := 3) d_M_handOver_41 rfl rfl ?_
    refine jw_iadd d_M_handOver_42 ?_
    obtain ⟨j1, hj1, h⟩ := h
    refine jw_iald2 d_M_handOver_43 jw_k50 (Nat.le_of_ble_eq_true rfl) hj1 ?_
    refine jw_iconst (v := 1) d_M_handOver_44 jc_i_1 ?_
    refine jw_isub d_M_handOver_45 ?_
    refine jw_istore d_M_handOver_46 (Nat.le_of_ble_eq_true rfl) ?_
    refine jw_iload d_M_handOver_48 rfl ?_
    refine jw_if_lt (tgt := 85) d_M_handOver_50 (by decide) (fun hc => ?_) (fun hc => ?_)
    · have h := h.1 hc
      refine jw_iinc (d := 1) d_M_handOver_85 rfl jc_i_1 (Nat.le_of_ble_eq_true rfl) ?_
      refine jw_goto (tgt := 25) d_M_handOver_88 (by decide) ?_
      refine jw_forget 4 ?_
      exact h
    · have h := h.2 hc
      refine jw_aload_n (i := 0) d_M_handOver_53 rfl rfl ?_
      refine jw_iload_n (i := 1) d_M_handOver_54 rfl rfl ?_
      refine jw_iload d_M_handOver_55 rfl ?_
      refine jw_callV (As := [.int x1, .int ((M 50 j1) - 1)]) (S := []) d_M_handOver_57 jw_k41 jw_c_M jw_ml_M_94 jw_in_f_M_reaches jw_se_f_M_reaches ⟨Nat.le_of_ble_eq_true rfl, Nat.le_of_ble_eq_true rfl⟩ rfl rfl (Nat.le_of_ble_eq_true rfl) (jw_M_mono h (fun r1 M1 h => ?_))
      refine jw_st (S' := [.int r1]) rfl ?_
      refine jw_if_eq (tgt := 85) d_M_handOver_60 (by decide) (fun hc => ?_) (fun hc => ?_)
      · have h := h.1 hc
        refine jw_iinc (d := 1) d_M_handOver_85 rfl jc_i_1 (Nat.le_of_ble_eq_true rfl) ?_
        refine jw_goto (tgt := 25) d_M_handOver_88 (by decide) ?_
        refine jw_forget 4 ?_
        exact h
      · have h := h.2 hc
        refine jw_aload_n (i := 0) d_M_handOver_63 rfl rfl ?_
        refine jw_iload d_M_handOver_64 rfl ?_
        refine jw_iload_n (i := 3) d_M_handOver_66 rfl rfl ?_
        refine jw_callV (As := [.int ((M 50 j1) - 1), .int x3]) (S := []) d_M_handOver_67 jw_k41 jw_c_M jw_ml_M_112 jw_in_f_M_take jw_se_f_M_take ⟨Nat.le_of_ble_eq_true rfl, Nat.le_of_ble_eq_true rfl⟩ rfl rfl (Nat.le_of_ble_eq_true rfl) (jw_M_mono h (fun r2 M2 h => ?_))
        refine jw_st (S' := []) rfl ?_
        refine jw_aload_n (i := 0) d_M_handOver_70 rfl rfl ?_
        refine jw_get (j := 12) (v := jw_a G 50) d_M_handOver_71 jw_k41 jw_c_M jw_oc_M (Nat.le_of_ble_eq_true rfl) jw_fl_M_35 rfl rfl ?_
        refine jw_bipush (v := 40) d_M_handOver_74 jc_b_40 ?_
        refine jw_iload_n (i := 1) d_M_handOver_76 rfl rfl ?_
        refine jw_imul d_M_handOver_77 ?_
        refine jw_iload_n (i := 3) d_M_handOver_78 rfl rfl ?_
        refine jw_iadd d_M_handOver_79 ?_
        refine jw_iconst (v := 0) d_M_handOver_80 jc_i_0 ?_
        obtain ⟨j2, hj2, h⟩ := h
        refine jw_iast2 d_M_handOver_81 jw_k50 (Nat.le_of_ble_eq_true rfl) hj2 ?_
        refine jw_iinc (d := 1) d_M_handOver_82 rfl jc_i_1 (Nat.le_of_ble_eq_true rfl) ?_
        refine jw_iinc (d := 1) d_M_handOver_85 rfl jc_i_1 (Nat.le_of_ble_eq_true rfl) ?_
        refine jw_goto (tgt := 25) d_M_handOver_88 (by decide) ?_
        refine jw_forget 4 ?_
        exact h
set_option maxRecDepth 100000 in
set_option maxHeartbeats 4000000 in
theorem k_M_handOver_93 {l : Launch} {X : jw_X0} {G : jw_G} {A : Nat → Prop} {x1 x2 x3 : Int32} {M : jw_Mem} (h : ((32 ≤ x3 → jw_R l X (jw_g G) A f_M_handOver x2 M) ∧ (¬ 32 ≤ x3 → jw_M l (jw_g G) A f_M_moved [jw_a G 41, .int x1, .int x3] M (fun r1 M1 => jw_X l X (jw_g G) A f_M_handOver 93 [some (jw_a G 41), some (.int x1), some (.int (x2 + r1)), some (.int (x3 + 1)), none] [] M1)))) : jw_X l X (jw_g G) A f_M_handOver 93 [some (jw_a G 41), some (.int x1), some (.int x2), some (.int x3), none] [] M := by
  refine jw_iload_n (i := 3) d_M_handOver_93 rfl rfl ?_
  refine jw_bipush (v := 32) d_M_handOver_94 jc_b_32 ?_
  refine jw_icmp_ge (tgt := 114) d_M_handOver_96 (by decide) (fun hc => ?_) (fun hc => ?_)
  · have h := h.1 hc
    refine jw_iload_n (i := 2) d_M_handOver_114 rfl rfl ?_
    exact jw_ireturn d_M_handOver_115 rfl h
  · have h := h.2 hc
    refine jw_iload_n (i := 2) d_M_handOver_99 rfl rfl ?_
    refine jw_aload_n (i := 0) d_M_handOver_100 rfl rfl ?_
    refine jw_iload_n (i := 1) d_M_handOver_101 rfl rfl ?_
    refine jw_iload_n (i := 3) d_M_handOver_102 rfl rfl ?_
    refine jw_callV (As := [.int x1, .int x3]) (S := [.int x2]) d_M_handOver_103 jw_k41 jw_c_M jw_ml_M_130 jw_in_f_M_moved jw_se_f_M_moved ⟨Nat.le_of_ble_eq_true rfl, Nat.le_of_ble_eq_true rfl⟩ rfl rfl (Nat.le_of_ble_eq_true rfl) (jw_M_mono h (fun r1 M1 h => ?_))
    refine jw_st (S' := [.int r1, .int x2]) rfl ?_
    refine jw_iadd d_M_handOver_106 ?_
    refine jw_istore_n (i := 2) d_M_handOver_107 rfl (Nat.le_of_ble_eq_true rfl) ?_
    refine jw_iinc (d := 1) d_M_handOver_108 rfl jc_i_1 (Nat.le_of_ble_eq_true rfl) ?_
    refine jw_goto (tgt := 93) d_M_handOver_111 (by decide) ?_
    exact h
set_option maxRecDepth 100000 in
theorem e_M_handOver {l : Launch} {G : jw_G} {A : Nat → Prop} {x1 : Int32} {M : jw_Mem} {Q : Int32 → jw_Mem → Prop} (h : ∀ X : jw_X0, (∀ r M', Q r M' → jw_R l X (jw_g G) A f_M_handOver r M') → jw_M l (jw_g G) A f_M_isNode [.int x1] M (fun r1 M1 => ((¬ r1 = 0 → (∃ j1 : Nat, (j1 < 5 ∧ x1 = nI j1) ∧ (((M1 42 j1) = 0 → jw_X l X (jw_g G) A f_M_handOver 25 [some (jw_a G 41), some (.int x1), some (.int 0), some (.int 0), none] [] M1) ∧ (¬ (M1 42 j1) = 0 → jw_R l X (jw_g G) A f_M_handOver (-2) M1)))) ∧ (r1 = 0 → jw_R l X (jw_g G) A f_M_handOver (-1) M1)))) : jw_M l (jw_g G) A f_M_handOver [jw_a G 41, .int x1] M Q := by
  refine jw_M_of (by decide) (Nat.le_of_ble_eq_true rfl) (by intro v hv; simp at hv; rcases hv with rfl | rfl <;> rfl) (fun X hR => ?_)
  exact k_M_handOver_0  (h X (fun r M' q => hR r M' q (fun ty h0 => by cases h0; rfl)))

set_option maxRecDepth 100000 in
set_option maxHeartbeats 4000000 in
theorem k_M_moved_0 {l : Launch} {X : jw_X0} {G : jw_G} {A : Nat → Prop} {x1 : Int32} {x2 : Int32} {M : jw_Mem} (h : jw_M l (jw_g G) A f_M_count [jw_a G 41, .int x1, .int x2] M (fun r1 M1 => ((r1 = 0 → jw_R l X (jw_g G) A f_M_moved 0 M1) ∧ (¬ r1 = 0 → jw_M l (jw_g G) A f_M_isHome [jw_a G 41, .int x1, .int x2] M1 (fun r2 M2 => ((¬ r2 = 0 → jw_R l X (jw_g G) A f_M_moved 0 M2) ∧ (r2 = 0 → jw_M l (jw_g G) A f_M_homes [jw_a G 41] M2 (fun r3 M3 => ((¬ r3 = 0 → jw_X l X (jw_g G) A f_M_moved 29 [some (jw_a G 41), some (.int x1), some (.int x2), some (.int 0), none, none] [] M3) ∧ (r3 = 0 → jw_R l X (jw_g G) A f_M_moved 0 M3)))))))))) : jw_X l X (jw_g G) A f_M_moved 0 [some (jw_a G 41), some (.int x1), some (.int x2), none, none, none] [] M := by
  refine jw_aload_n (i := 0) d_M_moved_0 rfl rfl ?_
  refine jw_iload_n (i := 1) d_M_moved_1 rfl rfl ?_
  refine jw_iload_n (i := 2) d_M_moved_2 rfl rfl ?_
  refine jw_callV (As := [.int x1, .int x2]) (S := []) d_M_moved_3 jw_k41 jw_c_M jw_ml_M_133 jw_in_f_M_count jw_se_f_M_count ⟨Nat.le_of_ble_eq_true rfl, Nat.le_of_ble_eq_true rfl⟩ rfl rfl (Nat.le_of_ble_eq_true rfl) (jw_M_mono h (fun r1 M1 h => ?_))
  refine jw_st (S' := [.int r1]) rfl ?_
  refine jw_if_eq (tgt := 25) d_M_moved_6 (by decide) (fun hc => ?_) (fun hc => ?_)
  · have h := h.1 hc
    refine jw_iconst (v := 0) d_M_moved_25 jc_i_0 ?_
    exact jw_ireturn d_M_moved_26 rfl h
  · have h := h.2 hc
    refine jw_aload_n (i := 0) d_M_moved_9 rfl rfl ?_
    refine jw_iload_n (i := 1) d_M_moved_10 rfl rfl ?_
    refine jw_iload_n (i := 2) d_M_moved_11 rfl rfl ?_
    refine jw_callV (As := [.int x1, .int x2]) (S := []) d_M_moved_12 jw_k41 jw_c_M jw_ml_M_136 jw_in_f_M_isHome jw_se_f_M_isHome ⟨Nat.le_of_ble_eq_true rfl, Nat.le_of_ble_eq_true rfl⟩ rfl rfl (Nat.le_of_ble_eq_true rfl) (jw_M_mono h (fun r2 M2 h => ?_))
    refine jw_st (S' := [.int r2]) rfl ?_
    refine jw_if_ne (tgt := 25) d_M_moved_15 (by decide) (fun hc => ?_) (fun hc => ?_)
    · have h := h.1 hc
      refine jw_iconst (v := 0) d_M_moved_25 jc_i_0 ?_
      exact jw_ireturn d_M_moved_26 rfl h
    · have h := h.2 hc
      refine jw_aload_n (i := 0) d_M_moved_18 rfl rfl ?_
      refine jw_callV (As := []) (S := []) d_M_moved_19 jw_k41 jw_c_M jw_ml_M_87 jw_in_f_M_homes jw_se_f_M_homes ⟨Nat.le_of_ble_eq_true rfl, Nat.le_of_ble_eq_true rfl⟩ rfl rfl (Nat.le_of_ble_eq_true rfl) (jw_M_mono h (fun r3 M3 h => ?_))
      refine jw_st (S' := [.int r3]) rfl ?_
      refine jw_if_ne (tgt := 27) d_M_moved_22 (by decide) (fun hc => ?_) (fun hc => ?_)
      · have h := h.1 hc
        refine jw_iconst (v := 0) d_M_moved_27 jc_i_0 ?_
        refine jw_istore_n (i := 3) d_M_moved_28 rfl (Nat.le_of_ble_eq_true rfl) ?_
        exact h
      · have h := h.2 hc
        refine jw_iconst (v := 0) d_M_moved_25 jc_i_0 ?_
        exact jw_ireturn d_M_moved_26 rfl h
set_option maxRecDepth 100000 in
set_option maxHeartbeats 4000000 in
theorem k_M_moved_29 {l : Launch} {X : jw_X0} {G : jw_G} {A : Nat → Prop} {x1 x2 x3 : Int32} {M : jw_Mem} (h : jw_M l (jw_g G) A f_M_homes [jw_a G 41] M (fun r1 M1 => ((r1 ≤ x3 → jw_X l X (jw_g G) A f_M_moved 64 [some (jw_a G 41), some (.int x1), some (.int x2), some (.int 0), some (.int 0), none] [] M1) ∧ (¬ r1 ≤ x3 → (∃ j1 : Nat, (j1 < 5 ∧ x3 = nI j1) ∧ jw_M l (jw_g G) A f_M_reaches [jw_a G 41, .int x1, .int (M1 56 j1)] M1 (fun r2 M2 => ((¬ r2 = 0 → jw_X l X (jw_g G) A f_M_moved 29 [some (jw_a G 41), some (.int x1), some (.int x2), some (.int (x3 + 1)), none, none] [] M2) ∧ (r2 = 0 → jw_R l X (jw_g G) A f_M_moved 0 M2)))))))) : jw_X l X (jw_g G) A f_M_moved 29 [some (jw_a G 41), some (.int x1), some (.int x2), some (.int x3), none, none] [] M := by
  refine jw_iload_n (i := 3) d_M_moved_29 rfl rfl ?_
  refine jw_aload_n (i := 0) d_M_moved_30 rfl rfl ?_
  refine jw_callV (As := []) (S := [.int x3]) d_M_moved_31 jw_k41 jw_c_M jw_ml_M_87 jw_in_f_M_homes jw_se_f_M_homes ⟨Nat.le_of_ble_eq_true rfl, Nat.le_of_ble_eq_true rfl⟩ rfl rfl (Nat.le_of_ble_eq_true rfl) (jw_M_mono h (fun r1 M1 h => ?_))
  refine jw_st (S' := [.int r1, .int x3]) rfl ?_
  refine jw_icmp_ge (tgt := 59) d_M_moved_34 (by decide) (fun hc => ?_) (fun hc => ?_)
  · have h := h.1 hc
    refine jw_iconst (v := 0) d_M_moved_59 jc_i_0 ?_
    refine jw_istore_n (i := 3) d_M_moved_60 rfl (Nat.le_of_ble_eq_true rfl) ?_
    refine jw_iconst (v := 0) d_M_moved_61 jc_i_0 ?_
    refine jw_istore d_M_moved_62 (Nat.le_of_ble_eq_true rfl) ?_
    exact h
  · have h := h.2 hc
    refine jw_aload_n (i := 0) d_M_moved_37 rfl rfl ?_
    refine jw_iload_n (i := 1) d_M_moved_38 rfl rfl ?_
    refine jw_aload_n (i := 0) d_M_moved_39 rfl rfl ?_
    refine jw_get (j := 20) (v := jw_a G 56) d_M_moved_40 jw_k41 jw_c_M jw_oc_M (Nat.le_of_ble_eq_true rfl) jw_fl_M_53 rfl rfl ?_
    refine jw_iload_n (i := 3) d_M_moved_43 rfl rfl ?_
    obtain ⟨j1, hj1, h⟩ := h
    refine jw_iald2 d_M_moved_44 jw_k56 (Nat.le_of_ble_eq_true rfl) hj1 ?_
    refine jw_callV (As := [.int x1, .int (M1 56 j1)]) (S := []) d_M_moved_45 jw_k41 jw_c_M jw_ml_M_94 jw_in_f_M_reaches jw_se_f_M_reaches ⟨Nat.le_of_ble_eq_true rfl, Nat.le_of_ble_eq_true rfl⟩ rfl rfl (Nat.le_of_ble_eq_true rfl) (jw_M_mono h (fun r2 M2 h => ?_))
    refine jw_st (S' := [.int r2]) rfl ?_
    refine jw_if_ne (tgt := 53) d_M_moved_48 (by decide) (fun hc => ?_) (fun hc => ?_)
    · have h := h.1 hc
      refine jw_iinc (d := 1) d_M_moved_53 rfl jc_i_1 (Nat.le_of_ble_eq_true rfl) ?_
      refine jw_goto (tgt := 29) d_M_moved_56 (by decide) ?_
      exact h
    · have h := h.2 hc
      refine jw_iconst (v := 0) d_M_moved_51 jc_i_0 ?_
      exact jw_ireturn d_M_moved_52 rfl h
set_option maxRecDepth 100000 in
set_option maxHeartbeats 4000000 in
theorem k_M_moved_64 {l : Launch} {X : jw_X0} {G : jw_G} {A : Nat → Prop} {x1 x2 x3 x4 : Int32} {M : jw_Mem} (h : (((M 41 6) ≤ x4 → jw_R l X (jw_g G) A f_M_moved x3 M) ∧ (¬ (M 41 6) ≤ x4 → (∃ j1 : Nat, (j1 < 200 ∧ ((40 * x1) + x4) = nI j1) ∧ (((M 49 j1) = 0 → jw_X l X (jw_g G) A f_M_moved 64 [some (jw_a G 41), some (.int x1), some (.int x2), some (.int x3), some (.int (x4 + 1)), none] [] M) ∧ (¬ (M 49 j1) = 0 → (∃ j2 : Nat, (j2 < 40 ∧ x4 = nI j2) ∧ ((¬ (M 45 j2) = x2 → jw_X l X (jw_g G) A f_M_moved 64 [some (jw_a G 41), some (.int x1), some (.int x2), some (.int x3), some (.int (x4 + 1)), none] [] M) ∧ ((M 45 j2) = x2 → jw_X l X (jw_g G) A f_M_moved 102 [some (jw_a G 41), some (.int x1), some (.int x2), some (.int x3), some (.int x4), some (.int 0)] [] M))))))))) : jw_X l X (jw_g G) A f_M_moved 64 [some (jw_a G 41), some (.int x1), some (.int x2), some (.int x3), some (.int x4), none] [] M := by
  refine jw_iload d_M_moved_64 rfl ?_
  refine jw_aload_n (i := 0) d_M_moved_66 rfl rfl ?_
  refine jw_get (j := 6) (v := .int (M 41 6)) d_M_moved_67 jw_k41 jw_c_M jw_oc_M (Nat.le_of_ble_eq_true rfl) jw_fl_M_102 rfl rfl ?_
  refine jw_icmp_ge (tgt := 152) d_M_moved_70 (by decide) (fun hc => ?_) (fun hc => ?_)
  · have h := h.1 hc
    refine jw_iload_n (i := 3) d_M_moved_152 rfl rfl ?_
    exact jw_ireturn d_M_moved_153 rfl h
  · have h := h.2 hc
    refine jw_aload_n (i := 0) d_M_moved_73 rfl rfl ?_
    refine jw_get (j := 11) (v := jw_a G 49) d_M_moved_74 jw_k41 jw_c_M jw_oc_M (Nat.le_of_ble_eq_true rfl) jw_fl_M_32 rfl rfl ?_
    refine jw_bipush (v := 40) d_M_moved_77 jc_b_40 ?_
    refine jw_iload_n (i := 1) d_M_moved_79 rfl rfl ?_
    refine jw_imul d_M_moved_80 ?_
    refine jw_iload d_M_moved_81 rfl ?_
    refine jw_iadd d_M_moved_83 ?_
    obtain ⟨j1, hj1, h⟩ := h
    refine jw_zald2 d_M_moved_84 jw_k49 (Nat.le_of_ble_eq_true rfl) hj1 ?_
    refine jw_if_eq (tgt := 146) d_M_moved_85 (by decide) (fun hc => ?_) (fun hc => ?_)
    · have h := h.1 hc
      refine jw_iinc (d := 1) d_M_moved_146 rfl jc_i_1 (Nat.le_of_ble_eq_true rfl) ?_
      refine jw_goto (tgt := 64) d_M_moved_149 (by decide) ?_
      exact h
    · have h := h.2 hc
      refine jw_aload_n (i := 0) d_M_moved_88 rfl rfl ?_
      refine jw_get (j := 7) (v := jw_a G 45) d_M_moved_89 jw_k41 jw_c_M jw_oc_M (Nat.le_of_ble_eq_true rfl) jw_fl_M_20 rfl rfl ?_
      refine jw_iload d_M_moved_92 rfl ?_
      obtain ⟨j2, hj2, h⟩ := h
      refine jw_iald2 d_M_moved_94 jw_k45 (Nat.le_of_ble_eq_true rfl) hj2 ?_
      refine jw_iload_n (i := 2) d_M_moved_95 rfl rfl ?_
      refine jw_icmp_ne (tgt := 146) d_M_moved_96 (by decide) (fun hc => ?_) (fun hc => ?_)
      · have h := h.1 hc
        refine jw_iinc (d := 1) d_M_moved_146 rfl jc_i_1 (Nat.le_of_ble_eq_true rfl) ?_
        refine jw_goto (tgt := 64) d_M_moved_149 (by decide) ?_
        exact h
      · have h := h.2 hc
        refine jw_iconst (v := 0) d_M_moved_99 jc_i_0 ?_
        refine jw_istore d_M_moved_100 (Nat.le_of_ble_eq_true rfl) ?_
        exact h
set_option maxRecDepth 100000 in
set_option maxHeartbeats 4000000 in
theorem k_M_moved_102 {l : Launch} {X : jw_X0} {G : jw_G} {A : Nat → Prop} {x1 x2 x3 x4 x5 : Int32} {M : jw_Mem} (h : jw_M l (jw_g G) A f_M_homes [jw_a G 41] M (fun r1 M1 => ((r1 ≤ x5 → (∃ j1 : Nat, (j1 < 200 ∧ ((40 * x1) + x4) = nI j1) ∧ jw_X l X (jw_g G) A f_M_moved 64 [some (jw_a G 41), some (.int x1), some (.int x2), some (.int (x3 + 1)), some (.int (x4 + 1)), none] [] (jw_U M1 49 j1 0))) ∧ (¬ r1 ≤ x5 → (∃ j2 : Nat, (j2 < 5 ∧ x5 = nI j2) ∧ jw_M l (jw_g G) A f_M_take [jw_a G 41, .int (M1 56 j2), .int x4] M1 (fun _ M2 => jw_X l X (jw_g G) A f_M_moved 102 [some (jw_a G 41), some (.int x1), some (.int x2), some (.int x3), some (.int x4), some (.int (x5 + 1))] [] M2)))))) : jw_X l X (jw_g G) A f_M_moved 102 [some (jw_a G 41), some (.int x1), some (.int x2), some (.int x3), some (.int x4), some (.int x5)] [] M := by
  refine jw_iload d_M_moved_102 rfl ?_
  refine jw_aload_n (i := 0) d_M_moved_104 rfl rfl ?_
  refine jw_callV (As := []) (S := [.int x5]) d_M_moved_105 jw_k41 jw_c_M jw_ml_M_87 jw_in_f_M_homes jw_se_f_M_homes ⟨Nat.le_of_ble_eq_true rfl, Nat.le_of_ble_eq_true rfl⟩ rfl rfl (Nat.le_of_ble_eq_true rfl) (jw_M_mono h (fun r1 M1 h => ?_))
  refine jw_st (S' := [.int r1, .int x5]) rfl ?_
  refine jw_icmp_ge (tgt := 130) d_M_moved_108 (by decide) (fun hc => ?_) (fun hc => ?_)
  · have h := h.1 hc
    refine jw_aload_n (i := 0) d_M_moved_130 rfl rfl ?_
    refine jw_get (j := 11) (v := jw_a G 49) d_M_moved_131 jw_k41 jw_c_M jw_oc_M (Nat.le_of_ble_eq_true rfl) jw_fl_M_32 rfl rfl ?_
    refine jw_bipush (v := 40) d_M_moved_134 jc_b_40 ?_
    refine jw_iload_n (i := 1) d_M_moved_136 rfl rfl ?_
    refine jw_imul d_M_moved_137 ?_
    refine jw_iload d_M_moved_138 rfl ?_
    refine jw_iadd d_M_moved_140 ?_
    refine jw_iconst (v := 0) d_M_moved_141 jc_i_0 ?_
    obtain ⟨j1, hj1, h⟩ := h
    refine jw_zast2 d_M_moved_142 jw_k49 (Nat.le_of_ble_eq_true rfl) hj1 jw_b0 ?_
    refine jw_iinc (d := 1) d_M_moved_143 rfl jc_i_1 (Nat.le_of_ble_eq_true rfl) ?_
    refine jw_iinc (d := 1) d_M_moved_146 rfl jc_i_1 (Nat.le_of_ble_eq_true rfl) ?_
    refine jw_goto (tgt := 64) d_M_moved_149 (by decide) ?_
    refine jw_forget 5 ?_
    exact h
  · have h := h.2 hc
    refine jw_aload_n (i := 0) d_M_moved_111 rfl rfl ?_
    refine jw_aload_n (i := 0) d_M_moved_112 rfl rfl ?_
    refine jw_get (j := 20) (v := jw_a G 56) d_M_moved_113 jw_k41 jw_c_M jw_oc_M (Nat.le_of_ble_eq_true rfl) jw_fl_M_53 rfl rfl ?_
    refine jw_iload d_M_moved_116 rfl ?_
    obtain ⟨j2, hj2, h⟩ := h
    refine jw_iald2 d_M_moved_118 jw_k56 (Nat.le_of_ble_eq_true rfl) hj2 ?_
    refine jw_iload d_M_moved_119 rfl ?_
    refine jw_callV (As := [.int (M1 56 j2), .int x4]) (S := []) d_M_moved_121 jw_k41 jw_c_M jw_ml_M_112 jw_in_f_M_take jw_se_f_M_take ⟨Nat.le_of_ble_eq_true rfl, Nat.le_of_ble_eq_true rfl⟩ rfl rfl (Nat.le_of_ble_eq_true rfl) (jw_M_mono h (fun r2 M2 h => ?_))
    refine jw_st (S' := []) rfl ?_
    refine jw_iinc (d := 1) d_M_moved_124 rfl jc_i_1 (Nat.le_of_ble_eq_true rfl) ?_
    refine jw_goto (tgt := 102) d_M_moved_127 (by decide) ?_
    exact h
set_option maxRecDepth 100000 in
theorem e_M_moved {l : Launch} {G : jw_G} {A : Nat → Prop} {x1 : Int32} {x2 : Int32} {M : jw_Mem} {Q : Int32 → jw_Mem → Prop} (h : ∀ X : jw_X0, (∀ r M', Q r M' → jw_R l X (jw_g G) A f_M_moved r M') → jw_M l (jw_g G) A f_M_count [jw_a G 41, .int x1, .int x2] M (fun r1 M1 => ((r1 = 0 → jw_R l X (jw_g G) A f_M_moved 0 M1) ∧ (¬ r1 = 0 → jw_M l (jw_g G) A f_M_isHome [jw_a G 41, .int x1, .int x2] M1 (fun r2 M2 => ((¬ r2 = 0 → jw_R l X (jw_g G) A f_M_moved 0 M2) ∧ (r2 = 0 → jw_M l (jw_g G) A f_M_homes [jw_a G 41] M2 (fun r3 M3 => ((¬ r3 = 0 → jw_X l X (jw_g G) A f_M_moved 29 [some (jw_a G 41), some (.int x1), some (.int x2), some (.int 0), none, none] [] M3) ∧ (r3 = 0 → jw_R l X (jw_g G) A f_M_moved 0 M3)))))))))) : jw_M l (jw_g G) A f_M_moved [jw_a G 41, .int x1, .int x2] M Q := by
  refine jw_M_of (by decide) (Nat.le_of_ble_eq_true rfl) (by intro v hv; simp at hv; rcases hv with rfl | rfl | rfl <;> rfl) (fun X hR => ?_)
  exact k_M_moved_0  (h X (fun r M' q => hR r M' q (fun ty h0 => by cases h0; rfl)))

set_option maxRecDepth 100000 in
set_option maxHeartbeats 4000000 in
theorem k_M_differ_0 {l : Launch} {X : jw_X0} {G : jw_G} {A : Nat → Prop} {x1 : Int32} {x2 : Int32} {x3 : Int32} {M : jw_Mem} (h : jw_M l (jw_g G) A f_M_isHome [jw_a G 41, .int x1, .int x3] M (fun r1 M1 => ((r1 = 0 → jw_R l X (jw_g G) A f_M_differ 0 M1) ∧ (¬ r1 = 0 → jw_M l (jw_g G) A f_M_isHome [jw_a G 41, .int x2, .int x3] M1 (fun r2 M2 => ((¬ r2 = 0 → jw_X l X (jw_g G) A f_M_differ 26 [some (jw_a G 41), some (.int x1), some (.int x2), some (.int x3), some (.int 0), some (.int 0)] [] M2) ∧ (r2 = 0 → jw_R l X (jw_g G) A f_M_differ 0 M2))))))) : jw_X l X (jw_g G) A f_M_differ 0 [some (jw_a G 41), some (.int x1), some (.int x2), some (.int x3), none, none] [] M := by
  refine jw_aload_n (i := 0) d_M_differ_0 rfl rfl ?_
  refine jw_iload_n (i := 1) d_M_differ_1 rfl rfl ?_
  refine jw_iload_n (i := 3) d_M_differ_2 rfl rfl ?_
  refine jw_callV (As := [.int x1, .int x3]) (S := []) d_M_differ_3 jw_k41 jw_c_M jw_ml_M_136 jw_in_f_M_isHome jw_se_f_M_isHome ⟨Nat.le_of_ble_eq_true rfl, Nat.le_of_ble_eq_true rfl⟩ rfl rfl (Nat.le_of_ble_eq_true rfl) (jw_M_mono h (fun r1 M1 h => ?_))
  refine jw_st (S' := [.int r1]) rfl ?_
  refine jw_if_eq (tgt := 18) d_M_differ_6 (by decide) (fun hc => ?_) (fun hc => ?_)
  · have h := h.1 hc
    refine jw_iconst (v := 0) d_M_differ_18 jc_i_0 ?_
    exact jw_ireturn d_M_differ_19 rfl h
  · have h := h.2 hc
    refine jw_aload_n (i := 0) d_M_differ_9 rfl rfl ?_
    refine jw_iload_n (i := 2) d_M_differ_10 rfl rfl ?_
    refine jw_iload_n (i := 3) d_M_differ_11 rfl rfl ?_
    refine jw_callV (As := [.int x2, .int x3]) (S := []) d_M_differ_12 jw_k41 jw_c_M jw_ml_M_136 jw_in_f_M_isHome jw_se_f_M_isHome ⟨Nat.le_of_ble_eq_true rfl, Nat.le_of_ble_eq_true rfl⟩ rfl rfl (Nat.le_of_ble_eq_true rfl) (jw_M_mono h (fun r2 M2 h => ?_))
    refine jw_st (S' := [.int r2]) rfl ?_
    refine jw_if_ne (tgt := 20) d_M_differ_15 (by decide) (fun hc => ?_) (fun hc => ?_)
    · have h := h.1 hc
      refine jw_iconst (v := 0) d_M_differ_20 jc_i_0 ?_
      refine jw_istore d_M_differ_21 (Nat.le_of_ble_eq_true rfl) ?_
      refine jw_iconst (v := 0) d_M_differ_23 jc_i_0 ?_
      refine jw_istore d_M_differ_24 (Nat.le_of_ble_eq_true rfl) ?_
      exact h
    · have h := h.2 hc
      refine jw_iconst (v := 0) d_M_differ_18 jc_i_0 ?_
      exact jw_ireturn d_M_differ_19 rfl h
set_option maxRecDepth 100000 in
set_option maxHeartbeats 4000000 in
theorem k_M_differ_26 {l : Launch} {X : jw_X0} {G : jw_G} {A : Nat → Prop} {x1 x2 x3 x4 x5 : Int32} {M : jw_Mem} (h : (((M 41 6) ≤ x5 → jw_R l X (jw_g G) A f_M_differ x4 M) ∧ (¬ (M 41 6) ≤ x5 → ((¬ x4 = 0 → jw_X l X (jw_g G) A f_M_differ 26 [some (jw_a G 41), some (.int x1), some (.int x2), some (.int x3), some (.int 1), some (.int (x5 + 1))] [] M) ∧ (x4 = 0 → (∃ j1 : Nat, (j1 < 40 ∧ x5 = nI j1) ∧ ((¬ (M 45 j1) = x3 → jw_X l X (jw_g G) A f_M_differ 26 [some (jw_a G 41), some (.int x1), some (.int x2), some (.int x3), some (.int 0), some (.int (x5 + 1))] [] M) ∧ ((M 45 j1) = x3 → (∃ j2 : Nat, (j2 < 200 ∧ ((40 * x1) + x5) = nI j2) ∧ (∃ j3 : Nat, (j3 < 200 ∧ ((40 * x2) + x5) = nI j3) ∧ (((M 49 j2) = (M 49 j3) → jw_X l X (jw_g G) A f_M_differ 26 [some (jw_a G 41), some (.int x1), some (.int x2), some (.int x3), some (.int 0), some (.int (x5 + 1))] [] M) ∧ (¬ (M 49 j2) = (M 49 j3) → jw_X l X (jw_g G) A f_M_differ 26 [some (jw_a G 41), some (.int x1), some (.int x2), some (.int x3), some (.int 1), some (.int (x5 + 1))] [] M)))))))))))) : jw_X l X (jw_g G) A f_M_differ 26 [some (jw_a G 41), some (.int x1), some (.int x2), some (.int x3), some (.int x4), some (.int x5)] [] M := by
  refine jw_iload d_M_differ_26 rfl ?_
  refine jw_aload_n (i := 0) d_M_differ_28 rfl rfl ?_
  refine jw_get (j := 6) (v := .int (M 41 6)) d_M_differ_29 jw_k41 jw_c_M jw_oc_M (Nat.le_of_ble_eq_true rfl) jw_fl_M_102 rfl rfl ?_
  refine jw_icmp_ge (tgt := 91) d_M_differ_32 (by decide) (fun hc => ?_) (fun hc => ?_)
  · have h := h.1 hc
    refine jw_iload d_M_differ_91 rfl ?_
    exact jw_ireturn d_M_differ_93 rfl h
  · have h := h.2 hc
    refine jw_iload d_M_differ_35 rfl ?_
    refine jw_if_ne (tgt := 78) d_M_differ_37 (by decide) (fun hc => ?_) (fun hc => ?_)
    · have h := h.1 hc
      refine jw_iconst (v := 1) d_M_differ_78 jc_i_1 ?_
      refine jw_goto (tgt := 83) d_M_differ_79 (by decide) ?_
      refine jw_istore d_M_differ_83 (Nat.le_of_ble_eq_true rfl) ?_
      refine jw_iinc (d := 1) d_M_differ_85 rfl jc_i_1 (Nat.le_of_ble_eq_true rfl) ?_
      refine jw_goto (tgt := 26) d_M_differ_88 (by decide) ?_
      exact h
    · have h := h.2 hc
      refine jw_aload_n (i := 0) d_M_differ_40 rfl rfl ?_
      refine jw_get (j := 7) (v := jw_a G 45) d_M_differ_41 jw_k41 jw_c_M jw_oc_M (Nat.le_of_ble_eq_true rfl) jw_fl_M_20 rfl rfl ?_
      refine jw_iload d_M_differ_44 rfl ?_
      obtain ⟨j1, hj1, h⟩ := h
      refine jw_iald2 d_M_differ_46 jw_k45 (Nat.le_of_ble_eq_true rfl) hj1 ?_
      refine jw_iload_n (i := 3) d_M_differ_47 rfl rfl ?_
      refine jw_icmp_ne (tgt := 82) d_M_differ_48 (by decide) (fun hc => ?_) (fun hc => ?_)
      · have h := h.1 hc
        refine jw_iconst (v := 0) d_M_differ_82 jc_i_0 ?_
        refine jw_istore d_M_differ_83 (Nat.le_of_ble_eq_true rfl) ?_
        refine jw_iinc (d := 1) d_M_differ_85 rfl jc_i_1 (Nat.le_of_ble_eq_true rfl) ?_
        refine jw_goto (tgt := 26) d_M_differ_88 (by decide) ?_
        exact h
      · have h := h.2 hc
        refine jw_aload_n (i := 0) d_M_differ_51 rfl rfl ?_
        refine jw_get (j := 11) (v := jw_a G 49) d_M_differ_52 jw_k41 jw_c_M jw_oc_M (Nat.le_of_ble_eq_true rfl) jw_fl_M_32 rfl rfl ?_
        refine jw_bipush (v := 40) d_M_differ_55 jc_b_40 ?_
        refine jw_iload_n (i := 1) d_M_differ_57 rfl rfl ?_
        refine jw_imul d_M_differ_58 ?_
        refine jw_iload d_M_differ_59 rfl ?_
        refine jw_iadd d_M_differ_61 ?_
        obtain ⟨j2, hj2, h⟩ := h
        refine jw_zald2 d_M_differ_62 jw_k49 (Nat.le_of_ble_eq_true rfl) hj2 ?_
        refine jw_aload_n (i := 0) d_M_differ_63 rfl rfl ?_
        refine jw_get (j := 11) (v := jw_a G 49) d_M_differ_64 jw_k41 jw_c_M jw_oc_M (Nat.le_of_ble_eq_true rfl) jw_fl_M_32 rfl rfl ?_
        refine jw_bipush (v := 40) d_M_differ_67 jc_b_40 ?_
        refine jw_iload_n (i := 2) d_M_differ_69 rfl rfl ?_
        refine jw_imul d_M_differ_70 ?_
        refine jw_iload d_M_differ_71 rfl ?_
        refine jw_iadd d_M_differ_73 ?_
        obtain ⟨j3, hj3, h⟩ := h
        refine jw_zald2 d_M_differ_74 jw_k49 (Nat.le_of_ble_eq_true rfl) hj3 ?_
        refine jw_icmp_eq (tgt := 82) d_M_differ_75 (by decide) (fun hc => ?_) (fun hc => ?_)
        · have h := h.1 hc
          refine jw_iconst (v := 0) d_M_differ_82 jc_i_0 ?_
          refine jw_istore d_M_differ_83 (Nat.le_of_ble_eq_true rfl) ?_
          refine jw_iinc (d := 1) d_M_differ_85 rfl jc_i_1 (Nat.le_of_ble_eq_true rfl) ?_
          refine jw_goto (tgt := 26) d_M_differ_88 (by decide) ?_
          exact h
        · have h := h.2 hc
          refine jw_iconst (v := 1) d_M_differ_78 jc_i_1 ?_
          refine jw_goto (tgt := 83) d_M_differ_79 (by decide) ?_
          refine jw_istore d_M_differ_83 (Nat.le_of_ble_eq_true rfl) ?_
          refine jw_iinc (d := 1) d_M_differ_85 rfl jc_i_1 (Nat.le_of_ble_eq_true rfl) ?_
          refine jw_goto (tgt := 26) d_M_differ_88 (by decide) ?_
          exact h
set_option maxRecDepth 100000 in
theorem e_M_differ {l : Launch} {G : jw_G} {A : Nat → Prop} {x1 : Int32} {x2 : Int32} {x3 : Int32} {M : jw_Mem} {Q : Int32 → jw_Mem → Prop} (h : ∀ X : jw_X0, (∀ r M', Q r M' → (r = 0 ∨ r = 1) → jw_R l X (jw_g G) A f_M_differ r M') → jw_M l (jw_g G) A f_M_isHome [jw_a G 41, .int x1, .int x3] M (fun r1 M1 => ((r1 = 0 → jw_R l X (jw_g G) A f_M_differ 0 M1) ∧ (¬ r1 = 0 → jw_M l (jw_g G) A f_M_isHome [jw_a G 41, .int x2, .int x3] M1 (fun r2 M2 => ((¬ r2 = 0 → jw_X l X (jw_g G) A f_M_differ 26 [some (jw_a G 41), some (.int x1), some (.int x2), some (.int x3), some (.int 0), some (.int 0)] [] M2) ∧ (r2 = 0 → jw_R l X (jw_g G) A f_M_differ 0 M2))))))) : jw_M l (jw_g G) A f_M_differ [jw_a G 41, .int x1, .int x2, .int x3] M Q := by
  refine jw_M_of (by decide) (Nat.le_of_ble_eq_true rfl) (by intro v hv; simp at hv; rcases hv with rfl | rfl | rfl | rfl <;> rfl) (fun X hR => ?_)
  exact k_M_differ_0  (h X (fun r M' q hb => hR r M' q (fun ty h0 => by cases h0; exact jw_nb hb)))

set_option maxRecDepth 100000 in
set_option maxHeartbeats 4000000 in
theorem k_M_exchange_0 {l : Launch} {X : jw_X0} {G : jw_G} {A : Nat → Prop} {x1 : Int32} {x2 : Int32} {x3 : Int32} {M : jw_Mem} (h : jw_X l X (jw_g G) A f_M_exchange 3 [some (jw_a G 41), some (.int x1), some (.int x2), some (.int x3), some (.int 0)] [] M) : jw_X l X (jw_g G) A f_M_exchange 0 [some (jw_a G 41), some (.int x1), some (.int x2), some (.int x3), none] [] M := by
  refine jw_iconst (v := 0) d_M_exchange_0 jc_i_0 ?_
  refine jw_istore d_M_exchange_1 (Nat.le_of_ble_eq_true rfl) ?_
  exact h
set_option maxRecDepth 100000 in
set_option maxHeartbeats 4000000 in
theorem k_M_exchange_3 {l : Launch} {X : jw_X0} {G : jw_G} {A : Nat → Prop} {x1 x2 x3 x4 : Int32} {M : jw_Mem} (h : (((M 41 6) ≤ x4 → jw_X l X (jw_g G) A f_M_exchange 100 [some (jw_a G 41), some (.int x1), some (.int x2), some (.int x3), some (.int 0)] [] M) ∧ (¬ (M 41 6) ≤ x4 → (∃ j1 : Nat, (j1 < 200 ∧ ((40 * x1) + x4) = nI j1) ∧ (((M 49 j1) = 0 → (∃ j2 : Nat, (j2 < 80 ∧ x4 = nI j2) ∧ (∃ j3 : Nat, (j3 < 200 ∧ ((40 * x2) + x4) = nI j3) ∧ ((((jw_U M 51 j2 0) 49 j3) = 0 → (∃ j4 : Nat, (j4 < 80 ∧ (40 + x4) = nI j4) ∧ jw_X l X (jw_g G) A f_M_exchange 3 [some (jw_a G 41), some (.int x1), some (.int x2), some (.int x3), some (.int (x4 + 1))] [] (jw_U (jw_U M 51 j2 0) 51 j4 0))) ∧ (¬ ((jw_U M 51 j2 0) 49 j3) = 0 → (∃ j5 : Nat, (j5 < 40 ∧ x4 = nI j5) ∧ ((¬ ((jw_U M 51 j2 0) 45 j5) = x3 → (∃ j6 : Nat, (j6 < 80 ∧ (40 + x4) = nI j6) ∧ jw_X l X (jw_g G) A f_M_exchange 3 [some (jw_a G 41), some (.int x1), some (.int x2), some (.int x3), some (.int (x4 + 1))] [] (jw_U (jw_U M 51 j2 0) 51 j6 0))) ∧ (((jw_U M 51 j2 0) 45 j5) = x3 → (∃ j7 : Nat, (j7 < 80 ∧ (40 + x4) = nI j7) ∧ jw_X l X (jw_g G) A f_M_exchange 3 [some (jw_a G 41), some (.int x1), some (.int x2), some (.int x3), some (.int (x4 + 1))] [] (jw_U (jw_U M 51 j2 0) 51 j7 1)))))))))) ∧ (¬ (M 49 j1) = 0 → (∃ j8 : Nat, (j8 < 40 ∧ x4 = nI j8) ∧ ((¬ (M 45 j8) = x3 → (∃ j9 : Nat, (j9 < 80 ∧ x4 = nI j9) ∧ (∃ j10 : Nat, (j10 < 200 ∧ ((40 * x2) + x4) = nI j10) ∧ ((((jw_U M 51 j9 0) 49 j10) = 0 → (∃ j11 : Nat, (j11 < 80 ∧ (40 + x4) = nI j11) ∧ jw_X l X (jw_g G) A f_M_exchange 3 [some (jw_a G 41), some (.int x1), some (.int x2), some (.int x3), some (.int (x4 + 1))] [] (jw_U (jw_U M 51 j9 0) 51 j11 0))) ∧ (¬ ((jw_U M 51 j9 0) 49 j10) = 0 → (∃ j12 : Nat, (j12 < 40 ∧ x4 = nI j12) ∧ ((¬ ((jw_U M 51 j9 0) 45 j12) = x3 → (∃ j13 : Nat, (j13 < 80 ∧ (40 + x4) = nI j13) ∧ jw_X l X (jw_g G) A f_M_exchange 3 [some (jw_a G 41), some (.int x1), some (.int x2), some (.int x3), some (.int (x4 + 1))] [] (jw_U (jw_U M 51 j9 0) 51 j13 0))) ∧ (((jw_U M 51 j9 0) 45 j12) = x3 → (∃ j14 : Nat, (j14 < 80 ∧ (40 + x4) = nI j14) ∧ jw_X l X (jw_g G) A f_M_exchange 3 [some (jw_a G 41), some (.int x1), some (.int x2), some (.int x3), some (.int (x4 + 1))] [] (jw_U (jw_U M 51 j9 0) 51 j14 1)))))))))) ∧ ((M 45 j8) = x3 → (∃ j15 : Nat, (j15 < 80 ∧ x4 = nI j15) ∧ (∃ j16 : Nat, (j16 < 200 ∧ ((40 * x2) + x4) = nI j16) ∧ ((((jw_U M 51 j15 1) 49 j16) = 0 → (∃ j17 : Nat, (j17 < 80 ∧ (40 + x4) = nI j17) ∧ jw_X l X (jw_g G) A f_M_exchange 3 [some (jw_a G 41), some (.int x1), some (.int x2), some (.int x3), some (.int (x4 + 1))] [] (jw_U (jw_U M 51 j15 1) 51 j17 0))) ∧ (¬ ((jw_U M 51 j15 1) 49 j16) = 0 → (∃ j18 : Nat, (j18 < 40 ∧ x4 = nI j18) ∧ ((¬ ((jw_U M 51 j15 1) 45 j18) = x3 → (∃ j19 : Nat, (j19 < 80 ∧ (40 + x4) = nI j19) ∧ jw_X l X (jw_g G) A f_M_exchange 3 [some (jw_a G 41), some (.int x1), some (.int x2), some (.int x3), some (.int (x4 + 1))] [] (jw_U (jw_U M 51 j15 1) 51 j19 0))) ∧ (((jw_U M 51 j15 1) 45 j18) = x3 → (∃ j20 : Nat, (j20 < 80 ∧ (40 + x4) = nI j20) ∧ jw_X l X (jw_g G) A f_M_exchange 3 [some (jw_a G 41), some (.int x1), some (.int x2), some (.int x3), some (.int (x4 + 1))] [] (jw_U (jw_U M 51 j15 1) 51 j20 1)))))))))))))))))) : jw_X l X (jw_g G) A f_M_exchange 3 [some (jw_a G 41), some (.int x1), some (.int x2), some (.int x3), some (.int x4)] [] M := by
  refine jw_iload d_M_exchange_3 rfl ?_
  refine jw_aload_n (i := 0) d_M_exchange_5 rfl rfl ?_
  refine jw_get (j := 6) (v := .int (M 41 6)) d_M_exchange_6 jw_k41 jw_c_M jw_oc_M (Nat.le_of_ble_eq_true rfl) jw_fl_M_102 rfl rfl ?_
  refine jw_icmp_ge (tgt := 97) d_M_exchange_9 (by decide) (fun hc => ?_) (fun hc => ?_)
  · have h := h.1 hc
    refine jw_iconst (v := 0) d_M_exchange_97 jc_i_0 ?_
    refine jw_istore d_M_exchange_98 (Nat.le_of_ble_eq_true rfl) ?_
    exact h
  · have h := h.2 hc
    refine jw_aload_n (i := 0) d_M_exchange_12 rfl rfl ?_
    refine jw_get (j := 13) (v := jw_a G 51) d_M_exchange_13 jw_k41 jw_c_M jw_oc_M (Nat.le_of_ble_eq_true rfl) jw_fl_M_38 rfl rfl ?_
    refine jw_iload d_M_exchange_16 rfl ?_
    refine jw_aload_n (i := 0) d_M_exchange_18 rfl rfl ?_
    refine jw_get (j := 11) (v := jw_a G 49) d_M_exchange_19 jw_k41 jw_c_M jw_oc_M (Nat.le_of_ble_eq_true rfl) jw_fl_M_32 rfl rfl ?_
    refine jw_bipush (v := 40) d_M_exchange_22 jc_b_40 ?_
    refine jw_iload_n (i := 1) d_M_exchange_24 rfl rfl ?_
    refine jw_imul d_M_exchange_25 ?_
    refine jw_iload d_M_exchange_26 rfl ?_
    refine jw_iadd d_M_exchange_28 ?_
    obtain ⟨j1, hj1, h⟩ := h
    refine jw_zald2 d_M_exchange_29 jw_k49 (Nat.le_of_ble_eq_true rfl) hj1 ?_
    refine jw_if_eq (tgt := 48) d_M_exchange_30 (by decide) (fun hc => ?_) (fun hc => ?_)
    · have h := h.1 hc
      refine jw_iconst (v := 0) d_M_exchange_48 jc_i_0 ?_
      obtain ⟨j2, hj2, h⟩ := h
      refine jw_zast2 d_M_exchange_49 jw_k51 (Nat.le_of_ble_eq_true rfl) hj2 jw_b0 ?_
      refine jw_aload_n (i := 0) d_M_exchange_50 rfl rfl ?_
      refine jw_get (j := 13) (v := jw_a G 51) d_M_exchange_51 jw_k41 jw_c_M jw_oc_M (Nat.le_of_ble_eq_true rfl) jw_fl_M_38 rfl rfl ?_
      refine jw_bipush (v := 40) d_M_exchange_54 jc_b_40 ?_
      refine jw_iload d_M_exchange_56 rfl ?_
      refine jw_iadd d_M_exchange_58 ?_
      refine jw_aload_n (i := 0) d_M_exchange_59 rfl rfl ?_
      refine jw_get (j := 11) (v := jw_a G 49) d_M_exchange_60 jw_k41 jw_c_M jw_oc_M (Nat.le_of_ble_eq_true rfl) jw_fl_M_32 rfl rfl ?_
      refine jw_bipush (v := 40) d_M_exchange_63 jc_b_40 ?_
      refine jw_iload_n (i := 2) d_M_exchange_65 rfl rfl ?_
      refine jw_imul d_M_exchange_66 ?_
      refine jw_iload d_M_exchange_67 rfl ?_
      refine jw_iadd d_M_exchange_69 ?_
      obtain ⟨j3, hj3, h⟩ := h
      refine jw_zald2 d_M_exchange_70 jw_k49 (Nat.le_of_ble_eq_true rfl) hj3 ?_
      refine jw_if_eq (tgt := 89) d_M_exchange_71 (by decide) (fun hc => ?_) (fun hc => ?_)
      · have h := h.1 hc
        refine jw_iconst (v := 0) d_M_exchange_89 jc_i_0 ?_
        obtain ⟨j4, hj4, h⟩ := h
        refine jw_zast2 d_M_exchange_90 jw_k51 (Nat.le_of_ble_eq_true rfl) hj4 jw_b0 ?_
        refine jw_iinc (d := 1) d_M_exchange_91 rfl jc_i_1 (Nat.le_of_ble_eq_true rfl) ?_
        refine jw_goto (tgt := 3) d_M_exchange_94 (by decide) ?_
        exact h
      · have h := h.2 hc
        refine jw_aload_n (i := 0) d_M_exchange_74 rfl rfl ?_
        refine jw_get (j := 7) (v := jw_a G 45) d_M_exchange_75 jw_k41 jw_c_M jw_oc_M (Nat.le_of_ble_eq_true rfl) jw_fl_M_20 rfl rfl ?_
        refine jw_iload d_M_exchange_78 rfl ?_
        obtain ⟨j5, hj5, h⟩ := h
        refine jw_iald2 d_M_exchange_80 jw_k45 (Nat.le_of_ble_eq_true rfl) hj5 ?_
        refine jw_iload_n (i := 3) d_M_exchange_81 rfl rfl ?_
        refine jw_icmp_ne (tgt := 89) d_M_exchange_82 (by decide) (fun hc => ?_) (fun hc => ?_)
        · have h := h.1 hc
          refine jw_iconst (v := 0) d_M_exchange_89 jc_i_0 ?_
          obtain ⟨j6, hj6, h⟩ := h
          refine jw_zast2 d_M_exchange_90 jw_k51 (Nat.le_of_ble_eq_true rfl) hj6 jw_b0 ?_
          refine jw_iinc (d := 1) d_M_exchange_91 rfl jc_i_1 (Nat.le_of_ble_eq_true rfl) ?_
          refine jw_goto (tgt := 3) d_M_exchange_94 (by decide) ?_
          exact h
        · have h := h.2 hc
          refine jw_iconst (v := 1) d_M_exchange_85 jc_i_1 ?_
          refine jw_goto (tgt := 90) d_M_exchange_86 (by decide) ?_
          obtain ⟨j7, hj7, h⟩ := h
          refine jw_zast2 d_M_exchange_90 jw_k51 (Nat.le_of_ble_eq_true rfl) hj7 jw_b1 ?_
          refine jw_iinc (d := 1) d_M_exchange_91 rfl jc_i_1 (Nat.le_of_ble_eq_true rfl) ?_
          refine jw_goto (tgt := 3) d_M_exchange_94 (by decide) ?_
          exact h
    · have h := h.2 hc
      refine jw_aload_n (i := 0) d_M_exchange_33 rfl rfl ?_
      refine jw_get (j := 7) (v := jw_a G 45) d_M_exchange_34 jw_k41 jw_c_M jw_oc_M (Nat.le_of_ble_eq_true rfl) jw_fl_M_20 rfl rfl ?_
      refine jw_iload d_M_exchange_37 rfl ?_
      obtain ⟨j8, hj8, h⟩ := h
      refine jw_iald2 d_M_exchange_39 jw_k45 (Nat.le_of_ble_eq_true rfl) hj8 ?_
      refine jw_iload_n (i := 3) d_M_exchange_40 rfl rfl ?_
      refine jw_icmp_ne (tgt := 48) d_M_exchange_41 (by decide) (fun hc => ?_) (fun hc => ?_)
      · have h := h.1 hc
        refine jw_iconst (v := 0) d_M_exchange_48 jc_i_0 ?_
        obtain ⟨j9, hj9, h⟩ := h
        refine jw_zast2 d_M_exchange_49 jw_k51 (Nat.le_of_ble_eq_true rfl) hj9 jw_b0 ?_
        refine jw_aload_n (i := 0) d_M_exchange_50 rfl rfl ?_
        refine jw_get (j := 13) (v := jw_a G 51) d_M_exchange_51 jw_k41 jw_c_M jw_oc_M (Nat.le_of_ble_eq_true rfl) jw_fl_M_38 rfl rfl ?_
        refine jw_bipush (v := 40) d_M_exchange_54 jc_b_40 ?_
        refine jw_iload d_M_exchange_56 rfl ?_
        refine jw_iadd d_M_exchange_58 ?_
        refine jw_aload_n (i := 0) d_M_exchange_59 rfl rfl ?_
        refine jw_get (j := 11) (v := jw_a G 49) d_M_exchange_60 jw_k41 jw_c_M jw_oc_M (Nat.le_of_ble_eq_true rfl) jw_fl_M_32 rfl rfl ?_
        refine jw_bipush (v := 40) d_M_exchange_63 jc_b_40 ?_
        refine jw_iload_n (i := 2) d_M_exchange_65 rfl rfl ?_
        refine jw_imul d_M_exchange_66 ?_
        refine jw_iload d_M_exchange_67 rfl ?_
        refine jw_iadd d_M_exchange_69 ?_
        obtain ⟨j10, hj10, h⟩ := h
        refine jw_zald2 d_M_exchange_70 jw_k49 (Nat.le_of_ble_eq_true rfl) hj10 ?_
        refine jw_if_eq (tgt := 89) d_M_exchange_71 (by decide) (fun hc => ?_) (fun hc => ?_)
        · have h := h.1 hc
          refine jw_iconst (v := 0) d_M_exchange_89 jc_i_0 ?_
          obtain ⟨j11, hj11, h⟩ := h
          refine jw_zast2 d_M_exchange_90 jw_k51 (Nat.le_of_ble_eq_true rfl) hj11 jw_b0 ?_
          refine jw_iinc (d := 1) d_M_exchange_91 rfl jc_i_1 (Nat.le_of_ble_eq_true rfl) ?_
          refine jw_goto (tgt := 3) d_M_exchange_94 (by decide) ?_
          exact h
        · have h := h.2 hc
          refine jw_aload_n (i := 0) d_M_exchange_74 rfl rfl ?_
          refine jw_get (j := 7) (v := jw_a G 45) d_M_exchange_75 jw_k41 jw_c_M jw_oc_M (Nat.le_of_ble_eq_true rfl) jw_fl_M_20 rfl rfl ?_
          refine jw_iload d_M_exchange_78 rfl ?_
          obtain ⟨j12, hj12, h⟩ := h
          refine jw_iald2 d_M_exchange_80 jw_k45 (Nat.le_of_ble_eq_true rfl) hj12 ?_
          refine jw_iload_n (i := 3) d_M_exchange_81 rfl rfl ?_
          refine jw_icmp_ne (tgt := 89) d_M_exchange_82 (by decide) (fun hc => ?_) (fun hc => ?_)
          · have h := h.1 hc
            refine jw_iconst (v := 0) d_M_exchange_89 jc_i_0 ?_
            obtain ⟨j13, hj13, h⟩ := h
            refine jw_zast2 d_M_exchange_90 jw_k51 (Nat.le_of_ble_eq_true rfl) hj13 jw_b0 ?_
            refine jw_iinc (d := 1) d_M_exchange_91 rfl jc_i_1 (Nat.le_of_ble_eq_true rfl) ?_
            refine jw_goto (tgt := 3) d_M_exchange_94 (by decide) ?_
            exact h
          · have h := h.2 hc
            refine jw_iconst (v := 1) d_M_exchange_85 jc_i_1 ?_
            refine jw_goto (tgt := 90) d_M_exchange_86 (by decide) ?_
            obtain ⟨j14, hj14, h⟩ := h
            refine jw_zast2 d_M_exchange_90 jw_k51 (Nat.le_of_ble_eq_true rfl) hj14 jw_b1 ?_
            refine jw_iinc (d := 1) d_M_exchange_91 rfl jc_i_1 (Nat.le_of_ble_eq_true rfl) ?_
            refine jw_goto (tgt := 3) d_M_exchange_94 (by decide) ?_
            exact h
      · have h := h.2 hc
        refine jw_iconst (v := 1) d_M_exchange_44 jc_i_1 ?_
        refine jw_goto (tgt := 49) d_M_exchange_45 (by decide) ?_
        obtain ⟨j15, hj15, h⟩ := h
        refine jw_zast2 d_M_exchange_49 jw_k51 (Nat.le_of_ble_eq_true rfl) hj15 jw_b1 ?_
        refine jw_aload_n (i := 0) d_M_exchange_50 rfl rfl ?_
        refine jw_get (j := 13) (v := jw_a G 51) d_M_exchange_51 jw_k41 jw_c_M jw_oc_M (Nat.le_of_ble_eq_true rfl) jw_fl_M_38 rfl rfl ?_
        refine jw_bipush (v := 40) d_M_exchange_54 jc_b_40 ?_
        refine jw_iload d_M_exchange_56 rfl ?_
        refine jw_iadd d_M_exchange_58 ?_
        refine jw_aload_n (i := 0) d_M_exchange_59 rfl rfl ?_
        refine jw_get (j := 11) (v := jw_a G 49) d_M_exchange_60 jw_k41 jw_c_M jw_oc_M (Nat.le_of_ble_eq_true rfl) jw_fl_M_32 rfl rfl ?_
        refine jw_bipush (v := 40) d_M_exchange_63 jc_b_40 ?_
        refine jw_iload_n (i := 2) d_M_exchange_65 rfl rfl ?_
        refine jw_imul d_M_exchange_66 ?_
        refine jw_iload d_M_exchange_67 rfl ?_
        refine jw_iadd d_M_exchange_69 ?_
        obtain ⟨j16, hj16, h⟩ := h
        refine jw_zald2 d_M_exchange_70 jw_k49 (Nat.le_of_ble_eq_true rfl) hj16 ?_
        refine jw_if_eq (tgt := 89) d_M_exchange_71 (by decide) (fun hc => ?_) (fun hc => ?_)
        · have h := h.1 hc
          refine jw_iconst (v := 0) d_M_exchange_89 jc_i_0 ?_
          obtain ⟨j17, hj17, h⟩ := h
          refine jw_zast2 d_M_exchange_90 jw_k51 (Nat.le_of_ble_eq_true rfl) hj17 jw_b0 ?_
          refine jw_iinc (d := 1) d_M_exchange_91 rfl jc_i_1 (Nat.le_of_ble_eq_true rfl) ?_
          refine jw_goto (tgt := 3) d_M_exchange_94 (by decide) ?_
          exact h
        · have h := h.2 hc
          refine jw_aload_n (i := 0) d_M_exchange_74 rfl rfl ?_
          refine jw_get (j := 7) (v := jw_a G 45) d_M_exchange_75 jw_k41 jw_c_M jw_oc_M (Nat.le_of_ble_eq_true rfl) jw_fl_M_20 rfl rfl ?_
          refine jw_iload d_M_exchange_78 rfl ?_
          obtain ⟨j18, hj18, h⟩ := h
          refine jw_iald2 d_M_exchange_80 jw_k45 (Nat.le_of_ble_eq_true rfl) hj18 ?_
          refine jw_iload_n (i := 3) d_M_exchange_81 rfl rfl ?_
          refine jw_icmp_ne (tgt := 89) d_M_exchange_82 (by decide) (fun hc => ?_) (fun hc => ?_)
          · have h := h.1 hc
            refine jw_iconst (v := 0) d_M_exchange_89 jc_i_0 ?_
            obtain ⟨j19, hj19, h⟩ := h
            refine jw_zast2 d_M_exchange_90 jw_k51 (Nat.le_of_ble_eq_true rfl) hj19 jw_b0 ?_
            refine jw_iinc (d := 1) d_M_exchange_91 rfl jc_i_1 (Nat.le_of_ble_eq_true rfl) ?_
            refine jw_goto (tgt := 3) d_M_exchange_94 (by decide) ?_
            exact h
          · have h := h.2 hc
            refine jw_iconst (v := 1) d_M_exchange_85 jc_i_1 ?_
            refine jw_goto (tgt := 90) d_M_exchange_86 (by decide) ?_
            obtain ⟨j20, hj20, h⟩ := h
            refine jw_zast2 d_M_exchange_90 jw_k51 (Nat.le_of_ble_eq_true rfl) hj20 jw_b1 ?_
            refine jw_iinc (d := 1) d_M_exchange_91 rfl jc_i_1 (Nat.le_of_ble_eq_true rfl) ?_
            refine jw_goto (tgt := 3) d_M_exchange_94 (by decide) ?_
            exact h
set_option maxRecDepth 100000 in
set_option maxHeartbeats 4000000 in
theorem k_M_exchange_100 {l : Launch} {X : jw_X0} {G : jw_G} {A : Nat → Prop} {x1 x2 x3 x4 : Int32} {M : jw_Mem} (h : (((M 41 6) ≤ x4 → jw_R l X (jw_g G) A f_M_exchange 0 M) ∧ (¬ (M 41 6) ≤ x4 → (∃ j1 : Nat, (j1 < 80 ∧ (40 + x4) = nI j1) ∧ (((M 51 j1) = 0 → (∃ j2 : Nat, (j2 < 80 ∧ x4 = nI j2) ∧ (((M 51 j2) = 0 → jw_X l X (jw_g G) A f_M_exchange 100 [some (jw_a G 41), some (.int x1), some (.int x2), some (.int x3), some (.int (x4 + 1))] [] M) ∧ (¬ (M 51 j2) = 0 → jw_M l (jw_g G) A f_M_take [jw_a G 41, .int x2, .int x4] M (fun _ M1 => jw_X l X (jw_g G) A f_M_exchange 100 [some (jw_a G 41), some (.int x1), some (.int x2), some (.int x3), some (.int (x4 + 1))] [] M1))))) ∧ (¬ (M 51 j1) = 0 → jw_M l (jw_g G) A f_M_take [jw_a G 41, .int x1, .int x4] M (fun _ M2 => (∃ j3 : Nat, (j3 < 80 ∧ x4 = nI j3) ∧ (((M2 51 j3) = 0 → jw_X l X (jw_g G) A f_M_exchange 100 [some (jw_a G 41), some (.int x1), some (.int x2), some (.int x3), some (.int (x4 + 1))] [] M2) ∧ (¬ (M2 51 j3) = 0 → jw_M l (jw_g G) A f_M_take [jw_a G 41, .int x2, .int x4] M2 (fun _ M3 => jw_X l X (jw_g G) A f_M_exchange 100 [some (jw_a G 41), some (.int x1), some (.int x2), some (.int x3), some (.int (x4 + 1))] [] M3))))))))))) : jw_X l X (jw_g G) A f_M_exchange 100 [some (jw_a G 41), some (.int x1), some (.int x2), some (.int x3), some (.int x4)] [] M := by
  refine jw_iload d_M_exchange_100 rfl ?_
  refine jw_aload_n (i := 0) d_M_exchange_102 rfl rfl ?_
  refine jw_get (j := 6) (v := .int (M 41 6)) d_M_exchange_103 jw_k41 jw_c_M jw_oc_M (Nat.le_of_ble_eq_true rfl) jw_fl_M_102 rfl rfl ?_
  refine jw_icmp_ge (tgt := 152) d_M_exchange_106 (by decide) (fun hc => ?_) (fun hc => ?_)
  · have h := h.1 hc
    exact jw_return d_M_exchange_152 rfl h
  · have h := h.2 hc
    refine jw_aload_n (i := 0) d_M_exchange_109 rfl rfl ?_
    refine jw_get (j := 13) (v := jw_a G 51) d_M_exchange_110 jw_k41 jw_c_M jw_oc_M (Nat.le_of_ble_eq_true rfl) jw_fl_M_38 rfl rfl ?_
    refine jw_bipush (v := 40) d_M_exchange_113 jc_b_40 ?_
    refine jw_iload d_M_exchange_115 rfl ?_
    refine jw_iadd d_M_exchange_117 ?_
    obtain ⟨j1, hj1, h⟩ := h
    refine jw_zald2 d_M_exchange_118 jw_k51 (Nat.le_of_ble_eq_true rfl) hj1 ?_
    refine jw_if_eq (tgt := 129) d_M_exchange_119 (by decide) (fun hc => ?_) (fun hc => ?_)
    · have h := h.1 hc
      refine jw_aload_n (i := 0) d_M_exchange_129 rfl rfl ?_
      refine jw_get (j := 13) (v := jw_a G 51) d_M_exchange_130 jw_k41 jw_c_M jw_oc_M (Nat.le_of_ble_eq_true rfl) jw_fl_M_38 rfl rfl ?_
      refine jw_iload d_M_exchange_133 rfl ?_
      obtain ⟨j2, hj2, h⟩ := h
      refine jw_zald2 d_M_exchange_135 jw_k51 (Nat.le_of_ble_eq_true rfl) hj2 ?_
      refine jw_if_eq (tgt := 146) d_M_exchange_136 (by decide) (fun hc => ?_) (fun hc => ?_)
      · have h := h.1 hc
        refine jw_iinc (d := 1) d_M_exchange_146 rfl jc_i_1 (Nat.le_of_ble_eq_true rfl) ?_
        refine jw_goto (tgt := 100) d_M_exchange_149 (by decide) ?_
        exact h
      · have h := h.2 hc
        refine jw_aload_n (i := 0) d_M_exchange_139 rfl rfl ?_
        refine jw_iload_n (i := 2) d_M_exchange_140 rfl rfl ?_
        refine jw_iload d_M_exchange_141 rfl ?_
        refine jw_callV (As := [.int x2, .int x4]) (S := []) d_M_exchange_143 jw_k41 jw_c_M jw_ml_M_112 jw_in_f_M_take jw_se_f_M_take ⟨Nat.le_of_ble_eq_true rfl, Nat.le_of_ble_eq_true rfl⟩ rfl rfl (Nat.le_of_ble_eq_true rfl) (jw_M_mono h (fun r1 M1 h => ?_))
        refine jw_st (S' := []) rfl ?_
        refine jw_iinc (d := 1) d_M_exchange_146 rfl jc_i_1 (Nat.le_of_ble_eq_true rfl) ?_
        refine jw_goto (tgt := 100) d_M_exchange_149 (by decide) ?_
        exact h
    · have h := h.2 hc
      refine jw_aload_n (i := 0) d_M_exchange_122 rfl rfl ?_
      refine jw_iload_n (i := 1) d_M_exchange_123 rfl rfl ?_
      refine jw_iload d_M_exchange_124 rfl ?_
      refine jw_callV (As := [.int x1, .int x4]) (S := []) d_M_exchange_126 jw_k41 jw_c_M jw_ml_M_112 jw_in_f_M_take jw_se_f_M_take ⟨Nat.le_of_ble_eq_true rfl, Nat.le_of_ble_eq_true rfl⟩ rfl rfl (Nat.le_of_ble_eq_true rfl) (jw_M_mono h (fun r2 M2 h => ?_))
      refine jw_st (S' := []) rfl ?_
      refine jw_aload_n (i := 0) d_M_exchange_129 rfl rfl ?_
      refine jw_get (j := 13) (v := jw_a G 51) d_M_exchange_130 jw_k41 jw_c_M jw_oc_M (Nat.le_of_ble_eq_true rfl) jw_fl_M_38 rfl rfl ?_
      refine jw_iload d_M_exchange_133 rfl ?_
      obtain ⟨j3, hj3, h⟩ := h
      refine jw_zald2 d_M_exchange_135 jw_k51 (Nat.le_of_ble_eq_true rfl) hj3 ?_
      refine jw_if_eq (tgt := 146) d_M_exchange_136 (by decide) (fun hc => ?_) (fun hc => ?_)
      · have h := h.1 hc
        refine jw_iinc (d := 1) d_M_exchange_146 rfl jc_i_1 (Nat.le_of_ble_eq_true rfl) ?_
        refine jw_goto (tgt := 100) d_M_exchange_149 (by decide) ?_
        exact h
      · have h := h.2 hc
        refine jw_aload_n (i := 0) d_M_exchange_139 rfl rfl ?_
        refine jw_iload_n (i := 2) d_M_exchange_140 rfl rfl ?_
        refine jw_iload d_M_exchange_141 rfl ?_
        refine jw_callV (As := [.int x2, .int x4]) (S := []) d_M_exchange_143 jw_k41 jw_c_M jw_ml_M_112 jw_in_f_M_take jw_se_f_M_take ⟨Nat.le_of_ble_eq_true rfl, Nat.le_of_ble_eq_true rfl⟩ rfl rfl (Nat.le_of_ble_eq_true rfl) (jw_M_mono h (fun r3 M3 h => ?_))
        refine jw_st (S' := []) rfl ?_
        refine jw_iinc (d := 1) d_M_exchange_146 rfl jc_i_1 (Nat.le_of_ble_eq_true rfl) ?_
        refine jw_goto (tgt := 100) d_M_exchange_149 (by decide) ?_
        exact h
set_option maxRecDepth 100000 in
theorem e_M_exchange {l : Launch} {G : jw_G} {A : Nat → Prop} {x1 : Int32} {x2 : Int32} {x3 : Int32} {M : jw_Mem} {Q : Int32 → jw_Mem → Prop} (h : ∀ X : jw_X0, (∀ M', Q 0 M' → jw_R l X (jw_g G) A f_M_exchange 0 M') → jw_X l X (jw_g G) A f_M_exchange 3 [some (jw_a G 41), some (.int x1), some (.int x2), some (.int x3), some (.int 0)] [] M) : jw_M l (jw_g G) A f_M_exchange [jw_a G 41, .int x1, .int x2, .int x3] M Q := by
  refine jw_M_of (by decide) (Nat.le_of_ble_eq_true rfl) (by intro v hv; simp at hv; rcases hv with rfl | rfl | rfl | rfl <;> rfl) (fun X hR => ?_)
  exact k_M_exchange_0  (h X (fun M' q => hR 0 M' q (fun ty h0 => nomatch h0)))

set_option maxRecDepth 100000 in
set_option maxHeartbeats 4000000 in
theorem k_M_compare_0 {l : Launch} {X : jw_X0} {G : jw_G} {A : Nat → Prop} {x1 : Int32} {x2 : Int32} {M : jw_Mem} (h : jw_M l (jw_g G) A f_M_isNode [.int x1] M (fun r1 M1 => ((r1 = 0 → jw_R l X (jw_g G) A f_M_compare (-1) M1) ∧ (¬ r1 = 0 → jw_M l (jw_g G) A f_M_isNode [.int x2] M1 (fun r2 M2 => ((r2 = 0 → jw_R l X (jw_g G) A f_M_compare (-1) M2) ∧ (¬ r2 = 0 → ((¬ x1 = x2 → jw_M l (jw_g G) A f_M_reaches [jw_a G 41, .int x1, .int x2] M2 (fun r3 M3 => ((¬ r3 = 0 → jw_X l X (jw_g G) A f_M_compare 39 [some (jw_a G 41), some (.int x1), some (.int x2), some (.int 1), some (.int 32), none, none, none] [] M3) ∧ (r3 = 0 → jw_R l X (jw_g G) A f_M_compare (-2) M3)))) ∧ (x1 = x2 → jw_R l X (jw_g G) A f_M_compare (-1) M2))))))))) : jw_X l X (jw_g G) A f_M_compare 0 [some (jw_a G 41), some (.int x1), some (.int x2), none, none, none, none, none] [] M := by
  refine jw_iload_n (i := 1) d_M_compare_0 rfl rfl ?_
  refine jw_callS (As := [.int x1]) (S := []) d_M_compare_1 jw_ml_M_69 jw_st_f_M_isNode ⟨Nat.le_of_ble_eq_true rfl, Nat.le_of_ble_eq_true rfl⟩ rfl rfl (Nat.le_of_ble_eq_true rfl) (jw_M_mono h (fun r1 M1 h => ?_))
  refine jw_st (S' := [.int r1]) rfl ?_
  refine jw_if_eq (tgt := 19) d_M_compare_4 (by decide) (fun hc => ?_) (fun hc => ?_)
  · have h := h.1 hc
    refine jw_iconst (v := (-1)) d_M_compare_19 jc_i_m1 ?_
    exact jw_ireturn d_M_compare_20 rfl h
  · have h := h.2 hc
    refine jw_iload_n (i := 2) d_M_compare_7 rfl rfl ?_
    refine jw_callS (As := [.int x2]) (S := []) d_M_compare_8 jw_ml_M_69 jw_st_f_M_isNode ⟨Nat.le_of_ble_eq_true rfl, Nat.le_of_ble_eq_true rfl⟩ rfl rfl (Nat.le_of_ble_eq_true rfl) (jw_M_mono h (fun r2 M2 h => ?_))
    refine jw_st (S' := [.int r2]) rfl ?_
    refine jw_if_eq (tgt := 19) d_M_compare_11 (by decide) (fun hc => ?_) (fun hc => ?_)
    · have h := h.1 hc
      refine jw_iconst (v := (-1)) d_M_compare_19 jc_i_m1 ?_
      exact jw_ireturn d_M_compare_20 rfl h
    · have h := h.2 hc
      refine jw_iload_n (i := 1) d_M_compare_14 rfl rfl ?_
      refine jw_iload_n (i := 2) d_M_compare_15 rfl rfl ?_
      refine jw_icmp_ne (tgt := 21) d_M_compare_16 (by decide) (fun hc => ?_) (fun hc => ?_)
      · have h := h.1 hc
        refine jw_aload_n (i := 0) d_M_compare_21 rfl rfl ?_
        refine jw_iload_n (i := 1) d_M_compare_22 rfl rfl ?_
        refine jw_iload_n (i := 2) d_M_compare_23 rfl rfl ?_
        refine jw_callV (As := [.int x1, .int x2]) (S := []) d_M_compare_24 jw_k41 jw_c_M jw_ml_M_94 jw_in_f_M_reaches jw_se_f_M_reaches ⟨Nat.le_of_ble_eq_true rfl, Nat.le_of_ble_eq_true rfl⟩ rfl rfl (Nat.le_of_ble_eq_true rfl) (jw_M_mono h (fun r3 M3 h => ?_))
        refine jw_st (S' := [.int r3]) rfl ?_
        refine jw_if_ne (tgt := 33) d_M_compare_27 (by decide) (fun hc => ?_) (fun hc => ?_)
        · have h := h.1 hc
          refine jw_iconst (v := 1) d_M_compare_33 jc_i_1 ?_
          refine jw_istore_n (i := 3) d_M_compare_34 rfl (Nat.le_of_ble_eq_true rfl) ?_
          refine jw_bipush (v := 32) d_M_compare_35 jc_b_32 ?_
          refine jw_istore d_M_compare_37 (Nat.le_of_ble_eq_true rfl) ?_
          exact h
        · have h := h.2 hc
          refine jw_bipush (v := (-2)) d_M_compare_30 jc_b_m2 ?_
          exact jw_ireturn d_M_compare_32 rfl h
      · have h := h.2 hc
        refine jw_iconst (v := (-1)) d_M_compare_19 jc_i_m1 ?_
        exact jw_ireturn d_M_compare_20 rfl h
set_option maxRecDepth 100000 in
set_option maxHeartbeats 4000000 in
theorem k_M_compare_39 {l : Launch} {X : jw_X0} {G : jw_G} {A : Nat → Prop} {x1 x2 x3 x4 : Int32} {M : jw_Mem} (h : ((x4 ≤ 1 → jw_X l X (jw_g G) A f_M_compare 136 [some (jw_a G 41), some (.int x1), some (.int x2), some (.int x3), some (.int 0), none, none, none] [] M) ∧ (¬ x4 ≤ 1 → jw_X l X (jw_g G) A f_M_compare 48 [some (jw_a G 41), some (.int x1), some (.int x2), some (.int x3), some (.int x4), some (.int 0), none, none] [] M))) : jw_X l X (jw_g G) A f_M_compare 39 [some (jw_a G 41), some (.int x1), some (.int x2), some (.int x3), some (.int x4), none, none, none] [] M := by
  refine jw_iload d_M_compare_39 rfl ?_
  refine jw_iconst (v := 1) d_M_compare_41 jc_i_1 ?_
  refine jw_icmp_le (tgt := 133) d_M_compare_42 (by decide) (fun hc => ?_) (fun hc => ?_)
  · have h := h.1 hc
    refine jw_iconst (v := 0) d_M_compare_133 jc_i_0 ?_
    refine jw_istore d_M_compare_134 (Nat.le_of_ble_eq_true rfl) ?_
    exact h
  · have h := h.2 hc
    refine jw_iconst (v := 0) d_M_compare_45 jc_i_0 ?_
    refine jw_istore d_M_compare_46 (Nat.le_of_ble_eq_true rfl) ?_
    exact h
set_option maxRecDepth 100000 in
set_option maxHeartbeats 4000000 in
theorem k_M_compare_136 {l : Launch} {X : jw_X0} {G : jw_G} {A : Nat → Prop} {x1 x2 x3 x4 : Int32} {M : jw_Mem} (h : ((32 ≤ x4 → jw_R l X (jw_g G) A f_M_compare x3 M) ∧ (¬ 32 ≤ x4 → jw_M l (jw_g G) A f_M_differ [jw_a G 41, .int x1, .int x2, .int x4] M (fun r1 M1 => ((r1 = 0 → jw_X l X (jw_g G) A f_M_compare 136 [some (jw_a G 41), some (.int x1), some (.int x2), some (.int x3), some (.int (x4 + 1)), none, none, none] [] M1) ∧ (¬ r1 = 0 → jw_M l (jw_g G) A f_M_exchange [jw_a G 41, .int x1, .int x2, .int x4] M1 (fun _ M2 => jw_X l X (jw_g G) A f_M_compare 136 [some (jw_a G 41), some (.int x1), some (.int x2), some (.int x3), some (.int (x4 + 1)), none, none, none] [] M2))))))) : jw_X l X (jw_g G) A f_M_compare 136 [some (jw_a G 41), some (.int x1), some (.int x2), some (.int x3), some (.int x4), none, none, none] [] M := by
  refine jw_iload d_M_compare_136 rfl ?_
  refine jw_bipush (v := 32) d_M_compare_138 jc_b_32 ?_
  refine jw_icmp_ge (tgt := 168) d_M_compare_140 (by decide) (fun hc => ?_) (fun hc => ?_)
  · have h := h.1 hc
    refine jw_iload_n (i := 3) d_M_compare_168 rfl rfl ?_
    exact jw_ireturn d_M_compare_169 rfl h
  · have h := h.2 hc
    refine jw_aload_n (i := 0) d_M_compare_143 rfl rfl ?_
    refine jw_iload_n (i := 1) d_M_compare_144 rfl rfl ?_
    refine jw_iload_n (i := 2) d_M_compare_145 rfl rfl ?_
    refine jw_iload d_M_compare_146 rfl ?_
    refine jw_callV (As := [.int x1, .int x2, .int x4]) (S := []) d_M_compare_148 jw_k41 jw_c_M jw_ml_M_139 jw_in_f_M_differ jw_se_f_M_differ ⟨Nat.le_of_ble_eq_true rfl, Nat.le_of_ble_eq_true rfl⟩ rfl rfl (Nat.le_of_ble_eq_true rfl) (jw_M_mono h (fun r1 M1 h => ?_))
    refine jw_st (S' := [.int r1]) rfl ?_
    refine jw_if_eq (tgt := 162) d_M_compare_151 (by decide) (fun hc => ?_) (fun hc => ?_)
    · have h := h.1 hc
      refine jw_iinc (d := 1) d_M_compare_162 rfl jc_i_1 (Nat.le_of_ble_eq_true rfl) ?_
      refine jw_goto (tgt := 136) d_M_compare_165 (by decide) ?_
      exact h
    · have h := h.2 hc
      refine jw_aload_n (i := 0) d_M_compare_154 rfl rfl ?_
      refine jw_iload_n (i := 1) d_M_compare_155 rfl rfl ?_
      refine jw_iload_n (i := 2) d_M_compare_156 rfl rfl ?_
      refine jw_iload d_M_compare_157 rfl ?_
      refine jw_callV (As := [.int x1, .int x2, .int x4]) (S := []) d_M_compare_159 jw_k41 jw_c_M jw_ml_M_143 jw_in_f_M_exchange jw_se_f_M_exchange ⟨Nat.le_of_ble_eq_true rfl, Nat.le_of_ble_eq_true rfl⟩ rfl rfl (Nat.le_of_ble_eq_true rfl) (jw_M_mono h (fun r2 M2 h => ?_))
      refine jw_st (S' := []) rfl ?_
      refine jw_iinc (d := 1) d_M_compare_162 rfl jc_i_1 (Nat.le_of_ble_eq_true rfl) ?_
      refine jw_goto (tgt := 136) d_M_compare_165 (by decide) ?_
      exact h
set_option maxRecDepth 100000 in
set_option maxHeartbeats 4000000 in
theorem k_M_compare_48 {l : Launch} {X : jw_X0} {G : jw_G} {A : Nat → Prop} {x1 x2 x3 x4 x5 : Int32} {M : jw_Mem} (h : ((32 ≤ x5 → jw_X l X (jw_g G) A f_M_compare 39 [some (jw_a G 41), some (.int x1), some (.int x2), some (.int x3), some (.int (x4 / 2)), none, none, none] [] M) ∧ (¬ 32 ≤ x5 → jw_X l X (jw_g G) A f_M_compare 62 [some (jw_a G 41), some (.int x1), some (.int x2), some (.int x3), some (.int x4), some (.int x5), some (.int 0), some (.int x5)] [] M))) : jw_X l X (jw_g G) A f_M_compare 48 [some (jw_a G 41), some (.int x1), some (.int x2), some (.int x3), some (.int x4), some (.int x5), none, none] [] M := by
  refine jw_iload d_M_compare_48 rfl ?_
  refine jw_bipush (v := 32) d_M_compare_50 jc_b_32 ?_
  refine jw_icmp_ge (tgt := 124) d_M_compare_52 (by decide) (fun hc => ?_) (fun hc => ?_)
  · have h := h.1 hc
    refine jw_iload d_M_compare_124 rfl ?_
    refine jw_iconst (v := 2) d_M_compare_126 jc_i_2 ?_
    refine jw_idiv d_M_compare_127 (by decide) ?_
    refine jw_istore d_M_compare_128 (Nat.le_of_ble_eq_true rfl) ?_
    refine jw_goto (tgt := 39) d_M_compare_130 (by decide) ?_
    refine jw_forget 5 ?_
    exact h
  · have h := h.2 hc
    refine jw_iconst (v := 0) d_M_compare_55 jc_i_0 ?_
    refine jw_istore d_M_compare_56 (Nat.le_of_ble_eq_true rfl) ?_
    refine jw_iload d_M_compare_58 rfl ?_
    refine jw_istore d_M_compare_60 (Nat.le_of_ble_eq_true rfl) ?_
    exact h
set_option maxRecDepth 100000 in
set_option maxHeartbeats 4000000 in
theorem k_M_compare_62 {l : Launch} {X : jw_X0} {G : jw_G} {A : Nat → Prop} {x1 x2 x3 x4 x5 x6 x7 : Int32} {M : jw_Mem} (h : (((x5 + x4) ≤ x7 → ((x6 = 0 → jw_X l X (jw_g G) A f_M_compare 48 [some (jw_a G 41), some (.int x1), some (.int x2), some (.int x3), some (.int x4), some (.int (x5 + x4)), none, none] [] M) ∧ (¬ x6 = 0 → jw_X l X (jw_g G) A f_M_compare 48 [some (jw_a G 41), some (.int x1), some (.int x2), some (.int (x3 + 2)), some (.int x4), some (.int (x5 + x4)), none, none] [] M))) ∧ (¬ (x5 + x4) ≤ x7 → ((¬ x6 = 0 → jw_X l X (jw_g G) A f_M_compare 62 [some (jw_a G 41), some (.int x1), some (.int x2), some (.int x3), some (.int x4), some (.int x5), some (.int 1), some (.int (x7 + 1))] [] M) ∧ (x6 = 0 → jw_M l (jw_g G) A f_M_differ [jw_a G 41, .int x1, .int x2, .int x7] M (fun r1 M1 => ((r1 = 0 → jw_X l X (jw_g G) A f_M_compare 62 [some (jw_a G 41), some (.int x1), some (.int x2), some (.int x3), some (.int x4), some (.int x5), some (.int 0), some (.int (x7 + 1))] [] M1) ∧ (¬ r1 = 0 → jw_X l X (jw_g G) A f_M_compare 62 [some (jw_a G 41), some (.int x1), some (.int x2), some (.int x3), some (.int x4), some (.int x5), some (.int 1), some (.int (x7 + 1))] [] M1)))))))) : jw_X l X (jw_g G) A f_M_compare 62 [some (jw_a G 41), some (.int x1), some (.int x2), some (.int x3), some (.int x4), some (.int x5), some (.int x6), some (.int x7)] [] M := by
  refine jw_iload d_M_compare_62 rfl ?_
  refine jw_iload d_M_compare_64 rfl ?_
  refine jw_iload d_M_compare_66 rfl ?_
  refine jw_iadd d_M_compare_68 ?_
  refine jw_icmp_ge (tgt := 101) d_M_compare_69 (by decide) (fun hc => ?_) (fun hc => ?_)
  · have h := h.1 hc
    refine jw_iload d_M_compare_101 rfl ?_
    refine jw_if_eq (tgt := 112) d_M_compare_103 (by decide) (fun hc => ?_) (fun hc => ?_)
    · have h := h.1 hc
      refine jw_iload_n (i := 3) d_M_compare_112 rfl rfl ?_
      refine jw_istore_n (i := 3) d_M_compare_113 rfl (Nat.le_of_ble_eq_true rfl) ?_
      refine jw_iload d_M_compare_114 rfl ?_
      refine jw_iload d_M_compare_116 rfl ?_
      refine jw_iadd d_M_compare_118 ?_
      refine jw_istore d_M_compare_119 (Nat.le_of_ble_eq_true rfl) ?_
      refine jw_goto (tgt := 48) d_M_compare_121 (by decide) ?_
      refine jw_forget 6 ?_
      refine jw_forget 7 ?_
      exact h
    · have h := h.2 hc
      refine jw_iload_n (i := 3) d_M_compare_106 rfl rfl ?_
      refine jw_iconst (v := 2) d_M_compare_107 jc_i_2 ?_
      refine jw_iadd d_M_compare_108 ?_
      refine jw_goto (tgt := 113) d_M_compare_109 (by decide) ?_
      refine jw_istore_n (i := 3) d_M_compare_113 rfl (Nat.le_of_ble_eq_true rfl) ?_
      refine jw_iload d_M_compare_114 rfl ?_
      refine jw_iload d_M_compare_116 rfl ?_
      refine jw_iadd d_M_compare_118 ?_
      refine jw_istore d_M_compare_119 (Nat.le_of_ble_eq_true rfl) ?_
      refine jw_goto (tgt := 48) d_M_compare_121 (by decide) ?_
      refine jw_forget 6 ?_
      refine jw_forget 7 ?_
      exact h
  · have h := h.2 hc
    refine jw_iload d_M_compare_72 rfl ?_
    refine jw_if_ne (tgt := 88) d_M_compare_74 (by decide) (fun hc => ?_) (fun hc => ?_)
    · have h := h.1 hc
      refine jw_iconst (v := 1) d_M_compare_88 jc_i_1 ?_
      refine jw_goto (tgt := 93) d_M_compare_89 (by decide) ?_
      refine jw_istore d_M_compare_93 (Nat.le_of_ble_eq_true rfl) ?_
      refine jw_iinc (d := 1) d_M_compare_95 rfl jc_i_1 (Nat.le_of_ble_eq_true rfl) ?_
      refine jw_goto (tgt := 62) d_M_compare_98 (by decide) ?_
      exact h
    · have h := h.2 hc
      refine jw_aload_n (i := 0) d_M_compare_77 rfl rfl ?_
      refine jw_iload_n (i := 1) d_M_compare_78 rfl rfl ?_
      refine jw_iload_n (i := 2) d_M_compare_79 rfl rfl ?_
      refine jw_iload d_M_compare_80 rfl ?_
      refine jw_callV (As := [.int x1, .int x2, .int x7]) (S := []) d_M_compare_82 jw_k41 jw_c_M jw_ml_M_139 jw_in_f_M_differ jw_se_f_M_differ ⟨Nat.le_of_ble_eq_true rfl, Nat.le_of_ble_eq_true rfl⟩ rfl rfl (Nat.le_of_ble_eq_true rfl) (jw_M_mono h (fun r1 M1 h => ?_))
      refine jw_st (S' := [.int r1]) rfl ?_
      refine jw_if_eq (tgt := 92) d_M_compare_85 (by decide) (fun hc => ?_) (fun hc => ?_)
      · have h := h.1 hc
        refine jw_iconst (v := 0) d_M_compare_92 jc_i_0 ?_
        refine jw_istore d_M_compare_93 (Nat.le_of_ble_eq_true rfl) ?_
        refine jw_iinc (d := 1) d_M_compare_95 rfl jc_i_1 (Nat.le_of_ble_eq_true rfl) ?_
        refine jw_goto (tgt := 62) d_M_compare_98 (by decide) ?_
        exact h
      · have h := h.2 hc
        refine jw_iconst (v := 1) d_M_compare_88 jc_i_1 ?_
        refine jw_goto (tgt := 93) d_M_compare_89 (by decide) ?_
        refine jw_istore d_M_compare_93 (Nat.le_of_ble_eq_true rfl) ?_
        refine jw_iinc (d := 1) d_M_compare_95 rfl jc_i_1 (Nat.le_of_ble_eq_true rfl) ?_
        refine jw_goto (tgt := 62) d_M_compare_98 (by decide) ?_
        exact h
set_option maxRecDepth 100000 in
theorem e_M_compare {l : Launch} {G : jw_G} {A : Nat → Prop} {x1 : Int32} {x2 : Int32} {M : jw_Mem} {Q : Int32 → jw_Mem → Prop} (h : ∀ X : jw_X0, (∀ r M', Q r M' → jw_R l X (jw_g G) A f_M_compare r M') → jw_M l (jw_g G) A f_M_isNode [.int x1] M (fun r1 M1 => ((r1 = 0 → jw_R l X (jw_g G) A f_M_compare (-1) M1) ∧ (¬ r1 = 0 → jw_M l (jw_g G) A f_M_isNode [.int x2] M1 (fun r2 M2 => ((r2 = 0 → jw_R l X (jw_g G) A f_M_compare (-1) M2) ∧ (¬ r2 = 0 → ((¬ x1 = x2 → jw_M l (jw_g G) A f_M_reaches [jw_a G 41, .int x1, .int x2] M2 (fun r3 M3 => ((¬ r3 = 0 → jw_X l X (jw_g G) A f_M_compare 39 [some (jw_a G 41), some (.int x1), some (.int x2), some (.int 1), some (.int 32), none, none, none] [] M3) ∧ (r3 = 0 → jw_R l X (jw_g G) A f_M_compare (-2) M3)))) ∧ (x1 = x2 → jw_R l X (jw_g G) A f_M_compare (-1) M2))))))))) : jw_M l (jw_g G) A f_M_compare [jw_a G 41, .int x1, .int x2] M Q := by
  refine jw_M_of (by decide) (Nat.le_of_ble_eq_true rfl) (by intro v hv; simp at hv; rcases hv with rfl | rfl | rfl <;> rfl) (fun X hR => ?_)
  exact k_M_compare_0  (h X (fun r M' q => hR r M' q (fun ty h0 => by cases h0; rfl)))

set_option maxRecDepth 100000 in
set_option maxHeartbeats 4000000 in
theorem k_M_holds_0 {l : Launch} {X : jw_X0} {G : jw_G} {A : Nat → Prop} {x1 : Int32} {x2 : Int32} {M : jw_Mem} (h : jw_M l (jw_g G) A f_M_isNode [.int x1] M (fun r1 M1 => ((r1 = 0 → jw_R l X (jw_g G) A f_M_holds (-1) M1) ∧ (¬ r1 = 0 → ((x2 < 0 → jw_R l X (jw_g G) A f_M_holds (-1) M1) ∧ (¬ x2 < 0 → ((x2 < (M1 41 6) → (∃ j1 : Nat, (j1 < 200 ∧ ((40 * x1) + x2) = nI j1) ∧ (((M1 49 j1) = 0 → (∃ j2 : Nat, (j2 < 200 ∧ ((40 * x1) + x2) = nI j2) ∧ (((M1 50 j2) ≤ 0 → jw_R l X (jw_g G) A f_M_holds (0 + 0) M1) ∧ (¬ (M1 50 j2) ≤ 0 → jw_R l X (jw_g G) A f_M_holds (0 + 2) M1)))) ∧ (¬ (M1 49 j1) = 0 → (∃ j3 : Nat, (j3 < 200 ∧ ((40 * x1) + x2) = nI j3) ∧ (((M1 50 j3) ≤ 0 → jw_R l X (jw_g G) A f_M_holds (1 + 0) M1) ∧ (¬ (M1 50 j3) ≤ 0 → jw_R l X (jw_g G) A f_M_holds (1 + 2) M1))))))) ∧ (¬ x2 < (M1 41 6) → jw_R l X (jw_g G) A f_M_holds (-1) M1)))))))) : jw_X l X (jw_g G) A f_M_holds 0 [some (jw_a G 41), some (.int x1), some (.int x2)] [] M := by
  refine jw_iload_n (i := 1) d_M_holds_0 rfl rfl ?_
  refine jw_callS (As := [.int x1]) (S := []) d_M_holds_1 jw_ml_M_69 jw_st_f_M_isNode ⟨Nat.le_of_ble_eq_true rfl, Nat.le_of_ble_eq_true rfl⟩ rfl rfl (Nat.le_of_ble_eq_true rfl) (jw_M_mono h (fun r1 M1 h => ?_))
  refine jw_st (S' := [.int r1]) rfl ?_
  refine jw_if_eq (tgt := 19) d_M_holds_4 (by decide) (fun hc => ?_) (fun hc => ?_)
  · have h := h.1 hc
    refine jw_iconst (v := (-1)) d_M_holds_19 jc_i_m1 ?_
    exact jw_ireturn d_M_holds_20 rfl h
  · have h := h.2 hc
    refine jw_iload_n (i := 2) d_M_holds_7 rfl rfl ?_
    refine jw_if_lt (tgt := 19) d_M_holds_8 (by decide) (fun hc => ?_) (fun hc => ?_)
    · have h := h.1 hc
      refine jw_iconst (v := (-1)) d_M_holds_19 jc_i_m1 ?_
      exact jw_ireturn d_M_holds_20 rfl h
    · have h := h.2 hc
      refine jw_iload_n (i := 2) d_M_holds_11 rfl rfl ?_
      refine jw_aload_n (i := 0) d_M_holds_12 rfl rfl ?_
      refine jw_get (j := 6) (v := .int (M1 41 6)) d_M_holds_13 jw_k41 jw_c_M jw_oc_M (Nat.le_of_ble_eq_true rfl) jw_fl_M_102 rfl rfl ?_
      refine jw_icmp_lt (tgt := 21) d_M_holds_16 (by decide) (fun hc => ?_) (fun hc => ?_)
      · have h := h.1 hc
        refine jw_aload_n (i := 0) d_M_holds_21 rfl rfl ?_
        refine jw_get (j := 11) (v := jw_a G 49) d_M_holds_22 jw_k41 jw_c_M jw_oc_M (Nat.le_of_ble_eq_true rfl) jw_fl_M_32 rfl rfl ?_
        refine jw_bipush (v := 40) d_M_holds_25 jc_b_40 ?_
        refine jw_iload_n (i := 1) d_M_holds_27 rfl rfl ?_
        refine jw_imul d_M_holds_28 ?_
        refine jw_iload_n (i := 2) d_M_holds_29 rfl rfl ?_
        refine jw_iadd d_M_holds_30 ?_
        obtain ⟨j1, hj1, h⟩ := h
        refine jw_zald2 d_M_holds_31 jw_k49 (Nat.le_of_ble_eq_true rfl) hj1 ?_
        refine jw_if_eq (tgt := 39) d_M_holds_32 (by decide) (fun hc => ?_) (fun hc => ?_)
        · have h := h.1 hc
          refine jw_iconst (v := 0) d_M_holds_39 jc_i_0 ?_
          refine jw_aload_n (i := 0) d_M_holds_40 rfl rfl ?_
          refine jw_get (j := 12) (v := jw_a G 50) d_M_holds_41 jw_k41 jw_c_M jw_oc_M (Nat.le_of_ble_eq_true rfl) jw_fl_M_35 rfl rfl ?_
          refine jw_bipush (v := 40) d_M_holds_44 jc_b_40 ?_
          refine jw_iload_n (i := 1) d_M_holds_46 rfl rfl ?_
          refine jw_imul d_M_holds_47 ?_
          refine jw_iload_n (i := 2) d_M_holds_48 rfl rfl ?_
          refine jw_iadd d_M_holds_49 ?_
          obtain ⟨j2, hj2, h⟩ := h
          refine jw_iald2 d_M_holds_50 jw_k50 (Nat.le_of_ble_eq_true rfl) hj2 ?_
          refine jw_if_le (tgt := 58) d_M_holds_51 (by decide) (fun hc => ?_) (fun hc => ?_)
          · have h := h.1 hc
            refine jw_iconst (v := 0) d_M_holds_58 jc_i_0 ?_
            refine jw_iadd d_M_holds_59 ?_
            exact jw_ireturn d_M_holds_60 rfl h
          · have h := h.2 hc
            refine jw_iconst (v := 2) d_M_holds_54 jc_i_2 ?_
            refine jw_goto (tgt := 59) d_M_holds_55 (by decide) ?_
            refine jw_iadd d_M_holds_59 ?_
            exact jw_ireturn d_M_holds_60 rfl h
        · have h := h.2 hc
          refine jw_iconst (v := 1) d_M_holds_35 jc_i_1 ?_
          refine jw_goto (tgt := 40) d_M_holds_36 (by decide) ?_
          refine jw_aload_n (i := 0) d_M_holds_40 rfl rfl ?_
          refine jw_get (j := 12) (v := jw_a G 50) d_M_holds_41 jw_k41 jw_c_M jw_oc_M (Nat.le_of_ble_eq_true rfl) jw_fl_M_35 rfl rfl ?_
          refine jw_bipush (v := 40) d_M_holds_44 jc_b_40 ?_
          refine jw_iload_n (i := 1) d_M_holds_46 rfl rfl ?_
          refine jw_imul d_M_holds_47 ?_
          refine jw_iload_n (i := 2) d_M_holds_48 rfl rfl ?_
          refine jw_iadd d_M_holds_49 ?_
          obtain ⟨j3, hj3, h⟩ := h
          refine jw_iald2 d_M_holds_50 jw_k50 (Nat.le_of_ble_eq_true rfl) hj3 ?_
          refine jw_if_le (tgt := 58) d_M_holds_51 (by decide) (fun hc => ?_) (fun hc => ?_)
          · have h := h.1 hc
            refine jw_iconst (v := 0) d_M_holds_58 jc_i_0 ?_
            refine jw_iadd d_M_holds_59 ?_
            exact jw_ireturn d_M_holds_60 rfl h
          · have h := h.2 hc
            refine jw_iconst (v := 2) d_M_holds_54 jc_i_2 ?_
            refine jw_goto (tgt := 59) d_M_holds_55 (by decide) ?_
            refine jw_iadd d_M_holds_59 ?_
            exact jw_ireturn d_M_holds_60 rfl h
      · have h := h.2 hc
        refine jw_iconst (v := (-1)) d_M_holds_19 jc_i_m1 ?_
        exact jw_ireturn d_M_holds_20 rfl h
set_option maxRecDepth 100000 in
theorem e_M_holds {l : Launch} {G : jw_G} {A : Nat → Prop} {x1 : Int32} {x2 : Int32} {M : jw_Mem} {Q : Int32 → jw_Mem → Prop} (h : ∀ X : jw_X0, (∀ r M', Q r M' → jw_R l X (jw_g G) A f_M_holds r M') → jw_M l (jw_g G) A f_M_isNode [.int x1] M (fun r1 M1 => ((r1 = 0 → jw_R l X (jw_g G) A f_M_holds (-1) M1) ∧ (¬ r1 = 0 → ((x2 < 0 → jw_R l X (jw_g G) A f_M_holds (-1) M1) ∧ (¬ x2 < 0 → ((x2 < (M1 41 6) → (∃ j1 : Nat, (j1 < 200 ∧ ((40 * x1) + x2) = nI j1) ∧ (((M1 49 j1) = 0 → (∃ j2 : Nat, (j2 < 200 ∧ ((40 * x1) + x2) = nI j2) ∧ (((M1 50 j2) ≤ 0 → jw_R l X (jw_g G) A f_M_holds (0 + 0) M1) ∧ (¬ (M1 50 j2) ≤ 0 → jw_R l X (jw_g G) A f_M_holds (0 + 2) M1)))) ∧ (¬ (M1 49 j1) = 0 → (∃ j3 : Nat, (j3 < 200 ∧ ((40 * x1) + x2) = nI j3) ∧ (((M1 50 j3) ≤ 0 → jw_R l X (jw_g G) A f_M_holds (1 + 0) M1) ∧ (¬ (M1 50 j3) ≤ 0 → jw_R l X (jw_g G) A f_M_holds (1 + 2) M1))))))) ∧ (¬ x2 < (M1 41 6) → jw_R l X (jw_g G) A f_M_holds (-1) M1)))))))) : jw_M l (jw_g G) A f_M_holds [jw_a G 41, .int x1, .int x2] M Q := by
  refine jw_M_of (by decide) (Nat.le_of_ble_eq_true rfl) (by intro v hv; simp at hv; rcases hv with rfl | rfl | rfl <;> rfl) (fun X hR => ?_)
  exact k_M_holds_0  (h X (fun r M' q => hR r M' q (fun ty h0 => by cases h0; rfl)))

set_option maxRecDepth 100000 in
set_option maxHeartbeats 4000000 in
theorem k_M_count_0 {l : Launch} {X : jw_X0} {G : jw_G} {A : Nat → Prop} {x1 : Int32} {x2 : Int32} {M : jw_Mem} (h : jw_M l (jw_g G) A f_M_isNode [.int x1] M (fun r1 M1 => ((r1 = 0 → jw_R l X (jw_g G) A f_M_count (-1) M1) ∧ (¬ r1 = 0 → jw_M l (jw_g G) A f_M_isKey [.int x2] M1 (fun r2 M2 => ((¬ r2 = 0 → jw_X l X (jw_g G) A f_M_count 21 [some (jw_a G 41), some (.int x1), some (.int x2), some (.int 0), some (.int 0)] [] M2) ∧ (r2 = 0 → jw_R l X (jw_g G) A f_M_count (-1) M2))))))) : jw_X l X (jw_g G) A f_M_count 0 [some (jw_a G 41), some (.int x1), some (.int x2), none, none] [] M := by
  refine jw_iload_n (i := 1) d_M_count_0 rfl rfl ?_
  refine jw_callS (As := [.int x1]) (S := []) d_M_count_1 jw_ml_M_69 jw_st_f_M_isNode ⟨Nat.le_of_ble_eq_true rfl, Nat.le_of_ble_eq_true rfl⟩ rfl rfl (Nat.le_of_ble_eq_true rfl) (jw_M_mono h (fun r1 M1 h => ?_))
  refine jw_st (S' := [.int r1]) rfl ?_
  refine jw_if_eq (tgt := 14) d_M_count_4 (by decide) (fun hc => ?_) (fun hc => ?_)
  · have h := h.1 hc
    refine jw_iconst (v := (-1)) d_M_count_14 jc_i_m1 ?_
    exact jw_ireturn d_M_count_15 rfl h
  · have h := h.2 hc
    refine jw_iload_n (i := 2) d_M_count_7 rfl rfl ?_
    refine jw_callS (As := [.int x2]) (S := []) d_M_count_8 jw_ml_M_84 jw_st_f_M_isKey ⟨Nat.le_of_ble_eq_true rfl, Nat.le_of_ble_eq_true rfl⟩ rfl rfl (Nat.le_of_ble_eq_true rfl) (jw_M_mono h (fun r2 M2 h => ?_))
    refine jw_st (S' := [.int r2]) rfl ?_
    refine jw_if_ne (tgt := 16) d_M_count_11 (by decide) (fun hc => ?_) (fun hc => ?_)
    · have h := h.1 hc
      refine jw_iconst (v := 0) d_M_count_16 jc_i_0 ?_
      refine jw_istore_n (i := 3) d_M_count_17 rfl (Nat.le_of_ble_eq_true rfl) ?_
      refine jw_iconst (v := 0) d_M_count_18 jc_i_0 ?_
      refine jw_istore d_M_count_19 (Nat.le_of_ble_eq_true rfl) ?_
      exact h
    · have h := h.2 hc
      refine jw_iconst (v := (-1)) d_M_count_14 jc_i_m1 ?_
      exact jw_ireturn d_M_count_15 rfl h
set_option maxRecDepth 100000 in
set_option maxHeartbeats 4000000 in
theorem k_M_count_21 {l : Launch} {X : jw_X0} {G : jw_G} {A : Nat → Prop} {x1 x2 x3 x4 : Int32} {M : jw_Mem} (h : (((M 41 6) ≤ x4 → jw_R l X (jw_g G) A f_M_count x3 M) ∧ (¬ (M 41 6) ≤ x4 → (∃ j1 : Nat, (j1 < 200 ∧ ((40 * x1) + x4) = nI j1) ∧ (((M 49 j1) = 0 → jw_X l X (jw_g G) A f_M_count 21 [some (jw_a G 41), some (.int x1), some (.int x2), some (.int x3), some (.int (x4 + 1))] [] M) ∧ (¬ (M 49 j1) = 0 → (∃ j2 : Nat, (j2 < 40 ∧ x4 = nI j2) ∧ ((¬ (M 45 j2) = x2 → jw_X l X (jw_g G) A f_M_count 21 [some (jw_a G 41), some (.int x1), some (.int x2), some (.int x3), some (.int (x4 + 1))] [] M) ∧ ((M 45 j2) = x2 → jw_X l X (jw_g G) A f_M_count 21 [some (jw_a G 41), some (.int x1), some (.int x2), some (.int (x3 + 1)), some (.int (x4 + 1))] [] M))))))))) : jw_X l X (jw_g G) A f_M_count 21 [some (jw_a G 41), some (.int x1), some (.int x2), some (.int x3), some (.int x4)] [] M := by
  refine jw_iload d_M_count_21 rfl ?_
  refine jw_aload_n (i := 0) d_M_count_23 rfl rfl ?_
  refine jw_get (j := 6) (v := .int (M 41 6)) d_M_count_24 jw_k41 jw_c_M jw_oc_M (Nat.le_of_ble_eq_true rfl) jw_fl_M_102 rfl rfl ?_
  refine jw_icmp_ge (tgt := 70) d_M_count_27 (by decide) (fun hc => ?_) (fun hc => ?_)
  · have h := h.1 hc
    refine jw_iload_n (i := 3) d_M_count_70 rfl rfl ?_
    exact jw_ireturn d_M_count_71 rfl h
  · have h := h.2 hc
    refine jw_aload_n (i := 0) d_M_count_30 rfl rfl ?_
    refine jw_get (j := 11) (v := jw_a G 49) d_M_count_31 jw_k41 jw_c_M jw_oc_M (Nat.le_of_ble_eq_true rfl) jw_fl_M_32 rfl rfl ?_
    refine jw_bipush (v := 40) d_M_count_34 jc_b_40 ?_
    refine jw_iload_n (i := 1) d_M_count_36 rfl rfl ?_
    refine jw_imul d_M_count_37 ?_
    refine jw_iload d_M_count_38 rfl ?_
    refine jw_iadd d_M_count_40 ?_
    obtain ⟨j1, hj1, h⟩ := h
    refine jw_zald2 d_M_count_41 jw_k49 (Nat.le_of_ble_eq_true rfl) hj1 ?_
    refine jw_if_eq (tgt := 62) d_M_count_42 (by decide) (fun hc => ?_) (fun hc => ?_)
    · have h := h.1 hc
      refine jw_iload_n (i := 3) d_M_count_62 rfl rfl ?_
      refine jw_istore_n (i := 3) d_M_count_63 rfl (Nat.le_of_ble_eq_true rfl) ?_
      refine jw_iinc (d := 1) d_M_count_64 rfl jc_i_1 (Nat.le_of_ble_eq_true rfl) ?_
      refine jw_goto (tgt := 21) d_M_count_67 (by decide) ?_
      exact h
    · have h := h.2 hc
      refine jw_aload_n (i := 0) d_M_count_45 rfl rfl ?_
      refine jw_get (j := 7) (v := jw_a G 45) d_M_count_46 jw_k41 jw_c_M jw_oc_M (Nat.le_of_ble_eq_true rfl) jw_fl_M_20 rfl rfl ?_
      refine jw_iload d_M_count_49 rfl ?_
      obtain ⟨j2, hj2, h⟩ := h
      refine jw_iald2 d_M_count_51 jw_k45 (Nat.le_of_ble_eq_true rfl) hj2 ?_
      refine jw_iload_n (i := 2) d_M_count_52 rfl rfl ?_
      refine jw_icmp_ne (tgt := 62) d_M_count_53 (by decide) (fun hc => ?_) (fun hc => ?_)
      · have h := h.1 hc
        refine jw_iload_n (i := 3) d_M_count_62 rfl rfl ?_
        refine jw_istore_n (i := 3) d_M_count_63 rfl (Nat.le_of_ble_eq_true rfl) ?_
        refine jw_iinc (d := 1) d_M_count_64 rfl jc_i_1 (Nat.le_of_ble_eq_true rfl) ?_
        refine jw_goto (tgt := 21) d_M_count_67 (by decide) ?_
        exact h
      · have h := h.2 hc
        refine jw_iload_n (i := 3) d_M_count_56 rfl rfl ?_
        refine jw_iconst (v := 1) d_M_count_57 jc_i_1 ?_
        refine jw_iadd d_M_count_58 ?_
        refine jw_goto (tgt := 63) d_M_count_59 (by decide) ?_
        refine jw_istore_n (i := 3) d_M_count_63 rfl (Nat.le_of_ble_eq_true rfl) ?_
        refine jw_iinc (d := 1) d_M_count_64 rfl jc_i_1 (Nat.le_of_ble_eq_true rfl) ?_
        refine jw_goto (tgt := 21) d_M_count_67 (by decide) ?_
        exact h
set_option maxRecDepth 100000 in
theorem e_M_count {l : Launch} {G : jw_G} {A : Nat → Prop} {x1 : Int32} {x2 : Int32} {M : jw_Mem} {Q : Int32 → jw_Mem → Prop} (h : ∀ X : jw_X0, (∀ r M', Q r M' → jw_R l X (jw_g G) A f_M_count r M') → jw_M l (jw_g G) A f_M_isNode [.int x1] M (fun r1 M1 => ((r1 = 0 → jw_R l X (jw_g G) A f_M_count (-1) M1) ∧ (¬ r1 = 0 → jw_M l (jw_g G) A f_M_isKey [.int x2] M1 (fun r2 M2 => ((¬ r2 = 0 → jw_X l X (jw_g G) A f_M_count 21 [some (jw_a G 41), some (.int x1), some (.int x2), some (.int 0), some (.int 0)] [] M2) ∧ (r2 = 0 → jw_R l X (jw_g G) A f_M_count (-1) M2))))))) : jw_M l (jw_g G) A f_M_count [jw_a G 41, .int x1, .int x2] M Q := by
  refine jw_M_of (by decide) (Nat.le_of_ble_eq_true rfl) (by intro v hv; simp at hv; rcases hv with rfl | rfl | rfl <;> rfl) (fun X hR => ?_)
  exact k_M_count_0  (h X (fun r M' q => hR r M' q (fun ty h0 => by cases h0; rfl)))

set_option maxRecDepth 100000 in
set_option maxHeartbeats 4000000 in
theorem k_M_hints_0 {l : Launch} {X : jw_X0} {G : jw_G} {A : Nat → Prop} {x1 : Int32} {M : jw_Mem} (h : jw_M l (jw_g G) A f_M_isNode [.int x1] M (fun r1 M1 => ((¬ r1 = 0 → jw_X l X (jw_g G) A f_M_hints 13 [some (jw_a G 41), some (.int x1), some (.int 0), some (.int 0)] [] M1) ∧ (r1 = 0 → jw_R l X (jw_g G) A f_M_hints (-1) M1)))) : jw_X l X (jw_g G) A f_M_hints 0 [some (jw_a G 41), some (.int x1), none, none] [] M := by
  refine jw_iload_n (i := 1) d_M_hints_0 rfl rfl ?_
  refine jw_callS (As := [.int x1]) (S := []) d_M_hints_1 jw_ml_M_69 jw_st_f_M_isNode ⟨Nat.le_of_ble_eq_true rfl, Nat.le_of_ble_eq_true rfl⟩ rfl rfl (Nat.le_of_ble_eq_true rfl) (jw_M_mono h (fun r1 M1 h => ?_))
  refine jw_st (S' := [.int r1]) rfl ?_
  refine jw_if_ne (tgt := 9) d_M_hints_4 (by decide) (fun hc => ?_) (fun hc => ?_)
  · have h := h.1 hc
    refine jw_iconst (v := 0) d_M_hints_9 jc_i_0 ?_
    refine jw_istore_n (i := 2) d_M_hints_10 rfl (Nat.le_of_ble_eq_true rfl) ?_
    refine jw_iconst (v := 0) d_M_hints_11 jc_i_0 ?_
    refine jw_istore_n (i := 3) d_M_hints_12 rfl (Nat.le_of_ble_eq_true rfl) ?_
    exact h
  · have h := h.2 hc
    refine jw_iconst (v := (-1)) d_M_hints_7 jc_i_m1 ?_
    exact jw_ireturn d_M_hints_8 rfl h
set_option maxRecDepth 100000 in
set_option maxHeartbeats 4000000 in
theorem k_M_hints_13 {l : Launch} {X : jw_X0} {G : jw_G} {A : Nat → Prop} {x1 x2 x3 : Int32} {M : jw_Mem} (h : (((M 41 6) ≤ x3 → jw_R l X (jw_g G) A f_M_hints x2 M) ∧ (¬ (M 41 6) ≤ x3 → (∃ j1 : Nat, (j1 < 200 ∧ ((40 * x1) + x3) = nI j1) ∧ (((M 50 j1) ≤ 0 → jw_X l X (jw_g G) A f_M_hints 13 [some (jw_a G 41), some (.int x1), some (.int x2), some (.int (x3 + 1))] [] M) ∧ (¬ (M 50 j1) ≤ 0 → jw_X l X (jw_g G) A f_M_hints 13 [some (jw_a G 41), some (.int x1), some (.int (x2 + 1)), some (.int (x3 + 1))] [] M)))))) : jw_X l X (jw_g G) A f_M_hints 13 [some (jw_a G 41), some (.int x1), some (.int x2), some (.int x3)] [] M := by
  refine jw_iload_n (i := 3) d_M_hints_13 rfl rfl ?_
  refine jw_aload_n (i := 0) d_M_hints_14 rfl rfl ?_
  refine jw_get (j := 6) (v := .int (M 41 6)) d_M_hints_15 jw_k41 jw_c_M jw_oc_M (Nat.le_of_ble_eq_true rfl) jw_fl_M_102 rfl rfl ?_
  refine jw_icmp_ge (tgt := 49) d_M_hints_18 (by decide) (fun hc => ?_) (fun hc => ?_)
  · have h := h.1 hc
    refine jw_iload_n (i := 2) d_M_hints_49 rfl rfl ?_
    exact jw_ireturn d_M_hints_50 rfl h
  · have h := h.2 hc
    refine jw_aload_n (i := 0) d_M_hints_21 rfl rfl ?_
    refine jw_get (j := 12) (v := jw_a G 50) d_M_hints_22 jw_k41 jw_c_M jw_oc_M (Nat.le_of_ble_eq_true rfl) jw_fl_M_35 rfl rfl ?_
    refine jw_bipush (v := 40) d_M_hints_25 jc_b_40 ?_
    refine jw_iload_n (i := 1) d_M_hints_27 rfl rfl ?_
    refine jw_imul d_M_hints_28 ?_
    refine jw_iload_n (i := 3) d_M_hints_29 rfl rfl ?_
    refine jw_iadd d_M_hints_30 ?_
    obtain ⟨j1, hj1, h⟩ := h
    refine jw_iald2 d_M_hints_31 jw_k50 (Nat.le_of_ble_eq_true rfl) hj1 ?_
    refine jw_if_le (tgt := 41) d_M_hints_32 (by decide) (fun hc => ?_) (fun hc => ?_)
    · have h := h.1 hc
      refine jw_iload_n (i := 2) d_M_hints_41 rfl rfl ?_
      refine jw_istore_n (i := 2) d_M_hints_42 rfl (Nat.le_of_ble_eq_true rfl) ?_
      refine jw_iinc (d := 1) d_M_hints_43 rfl jc_i_1 (Nat.le_of_ble_eq_true rfl) ?_
      refine jw_goto (tgt := 13) d_M_hints_46 (by decide) ?_
      exact h
    · have h := h.2 hc
      refine jw_iload_n (i := 2) d_M_hints_35 rfl rfl ?_
      refine jw_iconst (v := 1) d_M_hints_36 jc_i_1 ?_
      refine jw_iadd d_M_hints_37 ?_
      refine jw_goto (tgt := 42) d_M_hints_38 (by decide) ?_
      refine jw_istore_n (i := 2) d_M_hints_42 rfl (Nat.le_of_ble_eq_true rfl) ?_
      refine jw_iinc (d := 1) d_M_hints_43 rfl jc_i_1 (Nat.le_of_ble_eq_true rfl) ?_
      refine jw_goto (tgt := 13) d_M_hints_46 (by decide) ?_
      exact h
set_option maxRecDepth 100000 in
theorem e_M_hints {l : Launch} {G : jw_G} {A : Nat → Prop} {x1 : Int32} {M : jw_Mem} {Q : Int32 → jw_Mem → Prop} (h : ∀ X : jw_X0, (∀ r M', Q r M' → jw_R l X (jw_g G) A f_M_hints r M') → jw_M l (jw_g G) A f_M_isNode [.int x1] M (fun r1 M1 => ((¬ r1 = 0 → jw_X l X (jw_g G) A f_M_hints 13 [some (jw_a G 41), some (.int x1), some (.int 0), some (.int 0)] [] M1) ∧ (r1 = 0 → jw_R l X (jw_g G) A f_M_hints (-1) M1)))) : jw_M l (jw_g G) A f_M_hints [jw_a G 41, .int x1] M Q := by
  refine jw_M_of (by decide) (Nat.le_of_ble_eq_true rfl) (by intro v hv; simp at hv; rcases hv with rfl | rfl <;> rfl) (fun X hR => ?_)
  exact k_M_hints_0  (h X (fun r M' q => hR r M' q (fun ty h0 => by cases h0; rfl)))

set_option maxRecDepth 100000 in
set_option maxHeartbeats 4000000 in
theorem k_M_versions_0 {l : Launch} {X : jw_X0} {G : jw_G} {A : Nat → Prop}  {M : jw_Mem} (h : jw_R l X (jw_g G) A f_M_versions (M 41 6) M) : jw_X l X (jw_g G) A f_M_versions 0 [some (jw_a G 41)] [] M := by
  refine jw_aload_n (i := 0) d_M_versions_0 rfl rfl ?_
  refine jw_get (j := 6) (v := .int (M 41 6)) d_M_versions_1 jw_k41 jw_c_M jw_oc_M (Nat.le_of_ble_eq_true rfl) jw_fl_M_102 rfl rfl ?_
  exact jw_ireturn d_M_versions_4 rfl h
set_option maxRecDepth 100000 in
theorem e_M_versions {l : Launch} {G : jw_G} {A : Nat → Prop}  {M : jw_Mem} {Q : Int32 → jw_Mem → Prop} (h : ∀ X : jw_X0, (∀ r M', Q r M' → jw_R l X (jw_g G) A f_M_versions r M') → jw_R l X (jw_g G) A f_M_versions (M 41 6) M) : jw_M l (jw_g G) A f_M_versions [jw_a G 41] M Q := by
  refine jw_M_of (by decide) (Nat.le_of_ble_eq_true rfl) (by intro v hv; simp at hv; rcases hv with rfl <;> rfl) (fun X hR => ?_)
  exact k_M_versions_0  (h X (fun r M' q => hR r M' q (fun ty h0 => by cases h0; rfl)))

set_option maxRecDepth 100000 in
set_option maxHeartbeats 4000000 in
theorem k_M_version_0 {l : Launch} {X : jw_X0} {G : jw_G} {A : Nat → Prop} {x1 : Int32} {x2 : Int32} {M : jw_Mem} (h : ((x1 < 0 → jw_R l X (jw_g G) A f_M_version 0 M) ∧ (¬ x1 < 0 → (((M 41 6) ≤ x1 → jw_R l X (jw_g G) A f_M_version 0 M) ∧ (¬ (M 41 6) ≤ x1 → ((x2 < 0 → jw_R l X (jw_g G) A f_M_version 0 M) ∧ (¬ x2 < 0 → ((x2 ≤ 6 → ((¬ x2 = 5 → ((¬ x2 = 6 → (∃ j1 : Nat, (j1 < 200 ∧ ((5 * x1) + x2) = nI j1) ∧ jw_R l X (jw_g G) A f_M_version (M 48 j1) M)) ∧ (x2 = 6 → (∃ j2 : Nat, (j2 < 40 ∧ x1 = nI j2) ∧ jw_R l X (jw_g G) A f_M_version (M 46 j2) M)))) ∧ (x2 = 5 → (∃ j3 : Nat, (j3 < 40 ∧ x1 = nI j3) ∧ jw_R l X (jw_g G) A f_M_version (M 45 j3) M)))) ∧ (¬ x2 ≤ 6 → jw_R l X (jw_g G) A f_M_version 0 M))))))))) : jw_X l X (jw_g G) A f_M_version 0 [some (jw_a G 41), some (.int x1), some (.int x2)] [] M := by
  refine jw_iload_n (i := 1) d_M_version_0 rfl rfl ?_
  refine jw_if_lt (tgt := 22) d_M_version_1 (by decide) (fun hc => ?_) (fun hc => ?_)
  · have h := h.1 hc
    refine jw_iconst (v := 0) d_M_version_22 jc_i_0 ?_
    exact jw_ireturn d_M_version_23 rfl h
  · have h := h.2 hc
    refine jw_iload_n (i := 1) d_M_version_4 rfl rfl ?_
    refine jw_aload_n (i := 0) d_M_version_5 rfl rfl ?_
    refine jw_get (j := 6) (v := .int (M 41 6)) d_M_version_6 jw_k41 jw_c_M jw_oc_M (Nat.le_of_ble_eq_true rfl) jw_fl_M_102 rfl rfl ?_
    refine jw_icmp_ge (tgt := 22) d_M_version_9 (by decide) (fun hc => ?_) (fun hc => ?_)
    · have h := h.1 hc
      refine jw_iconst (v := 0) d_M_version_22 jc_i_0 ?_
      exact jw_ireturn d_M_version_23 rfl h
    · have h := h.2 hc
      refine jw_iload_n (i := 2) d_M_version_12 rfl rfl ?_
      refine jw_if_lt (tgt := 22) d_M_version_13 (by decide) (fun hc => ?_) (fun hc => ?_)
      · have h := h.1 hc
        refine jw_iconst (v := 0) d_M_version_22 jc_i_0 ?_
        exact jw_ireturn d_M_version_23 rfl h
      · have h := h.2 hc
        refine jw_iload_n (i := 2) d_M_version_16 rfl rfl ?_
        refine jw_bipush (v := 6) d_M_version_17 jc_b_6 ?_
        refine jw_icmp_le (tgt := 24) d_M_version_19 (by decide) (fun hc => ?_) (fun hc => ?_)
        · have h := h.1 hc
          refine jw_iload_n (i := 2) d_M_version_24 rfl rfl ?_
          refine jw_iconst (v := 5) d_M_version_25 jc_i_5 ?_
          refine jw_icmp_ne (tgt := 38) d_M_version_26 (by decide) (fun hc => ?_) (fun hc => ?_)
          · have h := h.1 hc
            refine jw_iload_n (i := 2) d_M_version_38 rfl rfl ?_
            refine jw_bipush (v := 6) d_M_version_39 jc_b_6 ?_
            refine jw_icmp_ne (tgt := 53) d_M_version_41 (by decide) (fun hc => ?_) (fun hc => ?_)
            · have h := h.1 hc
              refine jw_aload_n (i := 0) d_M_version_53 rfl rfl ?_
              refine jw_get (j := 10) (v := jw_a G 48) d_M_version_54 jw_k41 jw_c_M jw_oc_M (Nat.le_of_ble_eq_true rfl) jw_fl_M_29 rfl rfl ?_
              refine jw_iconst (v := 5) d_M_version_57 jc_i_5 ?_
              refine jw_iload_n (i := 1) d_M_version_58 rfl rfl ?_
              refine jw_imul d_M_version_59 ?_
              refine jw_iload_n (i := 2) d_M_version_60 rfl rfl ?_
              refine jw_iadd d_M_version_61 ?_
              obtain ⟨j1, hj1, h⟩ := h
              refine jw_iald2 d_M_version_62 jw_k48 (Nat.le_of_ble_eq_true rfl) hj1 ?_
              exact jw_ireturn d_M_version_63 rfl h
            · have h := h.2 hc
              refine jw_aload_n (i := 0) d_M_version_44 rfl rfl ?_
              refine jw_get (j := 8) (v := jw_a G 46) d_M_version_45 jw_k41 jw_c_M jw_oc_M (Nat.le_of_ble_eq_true rfl) jw_fl_M_23 rfl rfl ?_
              refine jw_iload_n (i := 1) d_M_version_48 rfl rfl ?_
              obtain ⟨j2, hj2, h⟩ := h
              refine jw_iald2 d_M_version_49 jw_k46 (Nat.le_of_ble_eq_true rfl) hj2 ?_
              refine jw_goto (tgt := 63) d_M_version_50 (by decide) ?_
              exact jw_ireturn d_M_version_63 rfl h
          · have h := h.2 hc
            refine jw_aload_n (i := 0) d_M_version_29 rfl rfl ?_
            refine jw_get (j := 7) (v := jw_a G 45) d_M_version_30 jw_k41 jw_c_M jw_oc_M (Nat.le_of_ble_eq_true rfl) jw_fl_M_20 rfl rfl ?_
            refine jw_iload_n (i := 1) d_M_version_33 rfl rfl ?_
            obtain ⟨j3, hj3, h⟩ := h
            refine jw_iald2 d_M_version_34 jw_k45 (Nat.le_of_ble_eq_true rfl) hj3 ?_
            refine jw_goto (tgt := 63) d_M_version_35 (by decide) ?_
            exact jw_ireturn d_M_version_63 rfl h
        · have h := h.2 hc
          refine jw_iconst (v := 0) d_M_version_22 jc_i_0 ?_
          exact jw_ireturn d_M_version_23 rfl h
set_option maxRecDepth 100000 in
theorem e_M_version {l : Launch} {G : jw_G} {A : Nat → Prop} {x1 : Int32} {x2 : Int32} {M : jw_Mem} {Q : Int32 → jw_Mem → Prop} (h : ∀ X : jw_X0, (∀ r M', Q r M' → jw_R l X (jw_g G) A f_M_version r M') → ((x1 < 0 → jw_R l X (jw_g G) A f_M_version 0 M) ∧ (¬ x1 < 0 → (((M 41 6) ≤ x1 → jw_R l X (jw_g G) A f_M_version 0 M) ∧ (¬ (M 41 6) ≤ x1 → ((x2 < 0 → jw_R l X (jw_g G) A f_M_version 0 M) ∧ (¬ x2 < 0 → ((x2 ≤ 6 → ((¬ x2 = 5 → ((¬ x2 = 6 → (∃ j1 : Nat, (j1 < 200 ∧ ((5 * x1) + x2) = nI j1) ∧ jw_R l X (jw_g G) A f_M_version (M 48 j1) M)) ∧ (x2 = 6 → (∃ j2 : Nat, (j2 < 40 ∧ x1 = nI j2) ∧ jw_R l X (jw_g G) A f_M_version (M 46 j2) M)))) ∧ (x2 = 5 → (∃ j3 : Nat, (j3 < 40 ∧ x1 = nI j3) ∧ jw_R l X (jw_g G) A f_M_version (M 45 j3) M)))) ∧ (¬ x2 ≤ 6 → jw_R l X (jw_g G) A f_M_version 0 M))))))))) : jw_M l (jw_g G) A f_M_version [jw_a G 41, .int x1, .int x2] M Q := by
  refine jw_M_of (by decide) (Nat.le_of_ble_eq_true rfl) (by intro v hv; simp at hv; rcases hv with rfl | rfl | rfl <;> rfl) (fun X hR => ?_)
  exact k_M_version_0  (h X (fun r M' q => hR r M' q (fun ty h0 => by cases h0; rfl)))

set_option maxRecDepth 100000 in
set_option maxHeartbeats 4000000 in
theorem k_M_context_0 {l : Launch} {X : jw_X0} {G : jw_G} {A : Nat → Prop} {x1 : Int32} {x2 : Int32} {M : jw_Mem} (h : ((x1 < 0 → jw_R l X (jw_g G) A f_M_context (-1) M) ∧ (¬ x1 < 0 → ((3 < x1 → jw_R l X (jw_g G) A f_M_context (-1) M) ∧ (¬ 3 < x1 → (∃ j1 : Nat, (j1 < 4 ∧ x1 = nI j1) ∧ (((M 53 j1) = 0 → jw_R l X (jw_g G) A f_M_context (-1) M) ∧ (¬ (M 53 j1) = 0 → jw_M l (jw_g G) A f_M_isNode [.int x2] M (fun r1 M1 => ((¬ r1 = 0 → (∃ j2 : Nat, (j2 < 20 ∧ ((5 * x1) + x2) = nI j2) ∧ jw_R l X (jw_g G) A f_M_context (M1 54 j2) M1)) ∧ (r1 = 0 → jw_R l X (jw_g G) A f_M_context (-1) M1))))))))))) : jw_X l X (jw_g G) A f_M_context 0 [some (jw_a G 41), some (.int x1), some (.int x2)] [] M := by
  refine jw_iload_n (i := 1) d_M_context_0 rfl rfl ?_
  refine jw_if_lt (tgt := 25) d_M_context_1 (by decide) (fun hc => ?_) (fun hc => ?_)
  · have h := h.1 hc
    refine jw_iconst (v := (-1)) d_M_context_25 jc_i_m1 ?_
    refine jw_goto (tgt := 39) d_M_context_26 (by decide) ?_
    exact jw_ireturn d_M_context_39 rfl h
  · have h := h.2 hc
    refine jw_iload_n (i := 1) d_M_context_4 rfl rfl ?_
    refine jw_iconst (v := 3) d_M_context_5 jc_i_3 ?_
    refine jw_icmp_gt (tgt := 25) d_M_context_6 (by decide) (fun hc => ?_) (fun hc => ?_)
    · have h := h.1 hc
      refine jw_iconst (v := (-1)) d_M_context_25 jc_i_m1 ?_
      refine jw_goto (tgt := 39) d_M_context_26 (by decide) ?_
      exact jw_ireturn d_M_context_39 rfl h
    · have h := h.2 hc
      refine jw_aload_n (i := 0) d_M_context_9 rfl rfl ?_
      refine jw_get (j := 15) (v := jw_a G 53) d_M_context_10 jw_k41 jw_c_M jw_oc_M (Nat.le_of_ble_eq_true rfl) jw_fl_M_44 rfl rfl ?_
      refine jw_iload_n (i := 1) d_M_context_13 rfl rfl ?_
      obtain ⟨j1, hj1, h⟩ := h
      refine jw_zald2 d_M_context_14 jw_k53 (Nat.le_of_ble_eq_true rfl) hj1 ?_
      refine jw_if_eq (tgt := 25) d_M_context_15 (by decide) (fun hc => ?_) (fun hc => ?_)
      · have h := h.1 hc
        refine jw_iconst (v := (-1)) d_M_context_25 jc_i_m1 ?_
        refine jw_goto (tgt := 39) d_M_context_26 (by decide) ?_
        exact jw_ireturn d_M_context_39 rfl h
      · have h := h.2 hc
        refine jw_iload_n (i := 2) d_M_context_18 rfl rfl ?_
        refine jw_callS (As := [.int x2]) (S := []) d_M_context_19 jw_ml_M_69 jw_st_f_M_isNode ⟨Nat.le_of_ble_eq_true rfl, Nat.le_of_ble_eq_true rfl⟩ rfl rfl (Nat.le_of_ble_eq_true rfl) (jw_M_mono h (fun r1 M1 h => ?_))
        refine jw_st (S' := [.int r1]) rfl ?_
        refine jw_if_ne (tgt := 29) d_M_context_22 (by decide) (fun hc => ?_) (fun hc => ?_)
        · have h := h.1 hc
          refine jw_aload_n (i := 0) d_M_context_29 rfl rfl ?_
          refine jw_get (j := 16) (v := jw_a G 54) d_M_context_30 jw_k41 jw_c_M jw_oc_M (Nat.le_of_ble_eq_true rfl) jw_fl_M_47 rfl rfl ?_
          refine jw_iconst (v := 5) d_M_context_33 jc_i_5 ?_
          refine jw_iload_n (i := 1) d_M_context_34 rfl rfl ?_
          refine jw_imul d_M_context_35 ?_
          refine jw_iload_n (i := 2) d_M_context_36 rfl rfl ?_
          refine jw_iadd d_M_context_37 ?_
          obtain ⟨j2, hj2, h⟩ := h
          refine jw_iald2 d_M_context_38 jw_k54 (Nat.le_of_ble_eq_true rfl) hj2 ?_
          exact jw_ireturn d_M_context_39 rfl h
        · have h := h.2 hc
          refine jw_iconst (v := (-1)) d_M_context_25 jc_i_m1 ?_
          refine jw_goto (tgt := 39) d_M_context_26 (by decide) ?_
          exact jw_ireturn d_M_context_39 rfl h
set_option maxRecDepth 100000 in
theorem e_M_context {l : Launch} {G : jw_G} {A : Nat → Prop} {x1 : Int32} {x2 : Int32} {M : jw_Mem} {Q : Int32 → jw_Mem → Prop} (h : ∀ X : jw_X0, (∀ r M', Q r M' → jw_R l X (jw_g G) A f_M_context r M') → ((x1 < 0 → jw_R l X (jw_g G) A f_M_context (-1) M) ∧ (¬ x1 < 0 → ((3 < x1 → jw_R l X (jw_g G) A f_M_context (-1) M) ∧ (¬ 3 < x1 → (∃ j1 : Nat, (j1 < 4 ∧ x1 = nI j1) ∧ (((M 53 j1) = 0 → jw_R l X (jw_g G) A f_M_context (-1) M) ∧ (¬ (M 53 j1) = 0 → jw_M l (jw_g G) A f_M_isNode [.int x2] M (fun r1 M1 => ((¬ r1 = 0 → (∃ j2 : Nat, (j2 < 20 ∧ ((5 * x1) + x2) = nI j2) ∧ jw_R l X (jw_g G) A f_M_context (M1 54 j2) M1)) ∧ (r1 = 0 → jw_R l X (jw_g G) A f_M_context (-1) M1))))))))))) : jw_M l (jw_g G) A f_M_context [jw_a G 41, .int x1, .int x2] M Q := by
  refine jw_M_of (by decide) (Nat.le_of_ble_eq_true rfl) (by intro v hv; simp at hv; rcases hv with rfl | rfl | rfl <;> rfl) (fun X hR => ?_)
  exact k_M_context_0  (h X (fun r M' q => hR r M' q (fun ty h0 => by cases h0; rfl)))
