set_option maxRecDepth 100000 in
set_option maxHeartbeats 4000000 in
theorem k_V_token_0 {l : Launch} {X : jw_X0} {G : jw_G} {A : Nat → Prop} {x1 : Int32} {x2 : Int32} {M : jw_Mem} (h : jw_M l (jw_g G) A f_V_isNode [.int x1] M (fun r1 M1 => ((r1 = 0 → jw_R l X (jw_g G) A f_V_token 0 M1) ∧ (¬ r1 = 0 → jw_M l (jw_g G) A f_V_isPosition [.int x2] M1 (fun r2 M2 => ((r2 = 0 → jw_R l X (jw_g G) A f_V_token 0 M2) ∧ (¬ r2 = 0 → (∃ j1 : Nat, (j1 < 16 ∧ x2 = nI j1) ∧ (((M2 2 j1) = (-1) → (∃ j2 : Nat, (j2 < 16 ∧ x2 = nI j2) ∧ jw_R l X (jw_g G) A f_V_token 1 (jw_U M2 2 j2 x1))) ∧ (¬ (M2 2 j1) = (-1) → jw_R l X (jw_g G) A f_V_token 0 M2)))))))))) : jw_X l X (jw_g G) A f_V_token 0 [some (jw_a G 0), some (.int x1), some (.int x2)] [] M := by
  refine jw_iload_n (i := 1) d_V_token_0 rfl rfl ?_
  refine jw_callS (As := [.int x1]) (S := []) d_V_token_1 jw_ml_V_77 jw_st_f_V_isNode ⟨Nat.le_of_ble_eq_true rfl, Nat.le_of_ble_eq_true rfl⟩ rfl rfl (Nat.le_of_ble_eq_true rfl) (jw_M_mono h (fun r1 M1 h => ?_))
  refine jw_st (S' := [.int r1]) rfl ?_
  refine jw_if_eq (tgt := 27) d_V_token_4 (by decide) (fun hc => ?_) (fun hc => ?_)
  · have h := h.1 hc
    refine jw_iconst (v := 0) d_V_token_27 jc_i_0 ?_
    exact jw_ireturn d_V_token_28 rfl h
  · have h := h.2 hc
    refine jw_iload_n (i := 2) d_V_token_7 rfl rfl ?_
    refine jw_callS (As := [.int x2]) (S := []) d_V_token_8 jw_ml_V_81 jw_st_f_V_isPosition ⟨Nat.le_of_ble_eq_true rfl, Nat.le_of_ble_eq_true rfl⟩ rfl rfl (Nat.le_of_ble_eq_true rfl) (jw_M_mono h (fun r2 M2 h => ?_))
    refine jw_st (S' := [.int r2]) rfl ?_
    refine jw_if_eq (tgt := 27) d_V_token_11 (by decide) (fun hc => ?_) (fun hc => ?_)
    · have h := h.1 hc
      refine jw_iconst (v := 0) d_V_token_27 jc_i_0 ?_
      exact jw_ireturn d_V_token_28 rfl h
    · have h := h.2 hc
      refine jw_aload_n (i := 0) d_V_token_14 rfl rfl ?_
      refine jw_get (j := 0) (v := jw_a G 1) d_V_token_15 jw_k0 jw_c_V jw_oc_V (Nat.le_of_ble_eq_true rfl) jw_fl_V_18 rfl rfl ?_
      refine jw_get (j := 1) (v := jw_a G 2) d_V_token_18 jw_k1 jw_c_R jw_oc_R (Nat.le_of_ble_eq_true rfl) jw_fl_V_84 rfl rfl ?_
      refine jw_iload_n (i := 2) d_V_token_21 rfl rfl ?_
      obtain ⟨j1, hj1, h⟩ := h
      refine jw_iald2 d_V_token_22 jw_k2 (Nat.le_of_ble_eq_true rfl) hj1 ?_
      refine jw_iconst (v := (-1)) d_V_token_23 jc_i_m1 ?_
      refine jw_icmp_eq (tgt := 29) d_V_token_24 (by decide) (fun hc => ?_) (fun hc => ?_)
      · have h := h.1 hc
        refine jw_aload_n (i := 0) d_V_token_29 rfl rfl ?_
        refine jw_get (j := 0) (v := jw_a G 1) d_V_token_30 jw_k0 jw_c_V jw_oc_V (Nat.le_of_ble_eq_true rfl) jw_fl_V_18 rfl rfl ?_
        refine jw_get (j := 1) (v := jw_a G 2) d_V_token_33 jw_k1 jw_c_R jw_oc_R (Nat.le_of_ble_eq_true rfl) jw_fl_V_84 rfl rfl ?_
        refine jw_iload_n (i := 2) d_V_token_36 rfl rfl ?_
        refine jw_iload_n (i := 1) d_V_token_37 rfl rfl ?_
        obtain ⟨j2, hj2, h⟩ := h
        refine jw_iast2 d_V_token_38 jw_k2 (Nat.le_of_ble_eq_true rfl) hj2 ?_
        refine jw_iconst (v := 1) d_V_token_39 jc_i_1 ?_
        exact jw_ireturn d_V_token_40 rfl h
      · have h := h.2 hc
        refine jw_iconst (v := 0) d_V_token_27 jc_i_0 ?_
        exact jw_ireturn d_V_token_28 rfl h
set_option maxRecDepth 100000 in
theorem e_V_token {l : Launch} {G : jw_G} {A : Nat → Prop} {x1 : Int32} {x2 : Int32} {M : jw_Mem} {Q : Int32 → jw_Mem → Prop} (h : ∀ X : jw_X0, (∀ r M', Q r M' → (r = 0 ∨ r = 1) → jw_R l X (jw_g G) A f_V_token r M') → jw_M l (jw_g G) A f_V_isNode [.int x1] M (fun r1 M1 => ((r1 = 0 → jw_R l X (jw_g G) A f_V_token 0 M1) ∧ (¬ r1 = 0 → jw_M l (jw_g G) A f_V_isPosition [.int x2] M1 (fun r2 M2 => ((r2 = 0 → jw_R l X (jw_g G) A f_V_token 0 M2) ∧ (¬ r2 = 0 → (∃ j1 : Nat, (j1 < 16 ∧ x2 = nI j1) ∧ (((M2 2 j1) = (-1) → (∃ j2 : Nat, (j2 < 16 ∧ x2 = nI j2) ∧ jw_R l X (jw_g G) A f_V_token 1 (jw_U M2 2 j2 x1))) ∧ (¬ (M2 2 j1) = (-1) → jw_R l X (jw_g G) A f_V_token 0 M2)))))))))) : jw_M l (jw_g G) A f_V_token [jw_a G 0, .int x1, .int x2] M Q := by
  refine jw_M_of (by decide) (Nat.le_of_ble_eq_true rfl) (by intro v hv; simp at hv; rcases hv with rfl | rfl | rfl <;> rfl) (fun X hR => ?_)
  exact k_V_token_0  (h X (fun r M' q hb => hR r M' q (fun ty h0 => by cases h0; exact jw_nb hb)))

set_option maxRecDepth 100000 in
set_option maxHeartbeats 4000000 in
theorem k_V_remove_0 {l : Launch} {X : jw_X0} {G : jw_G} {A : Nat → Prop} {x1 : Int32} {M : jw_Mem} (h : jw_M l (jw_g G) A f_V_isPosition [.int x1] M (fun r1 M1 => ((r1 = 0 → jw_R l X (jw_g G) A f_V_remove 0 M1) ∧ (¬ r1 = 0 → (∃ j1 : Nat, (j1 < 16 ∧ x1 = nI j1) ∧ ((¬ (M1 2 j1) = (-1) → (∃ j2 : Nat, (j2 < 16 ∧ x1 = nI j2) ∧ jw_R l X (jw_g G) A f_V_remove 1 (jw_U M1 2 j2 (-1)))) ∧ ((M1 2 j1) = (-1) → jw_R l X (jw_g G) A f_V_remove 0 M1))))))) : jw_X l X (jw_g G) A f_V_remove 0 [some (jw_a G 0), some (.int x1)] [] M := by
  refine jw_iload_n (i := 1) d_V_remove_0 rfl rfl ?_
  refine jw_callS (As := [.int x1]) (S := []) d_V_remove_1 jw_ml_V_81 jw_st_f_V_isPosition ⟨Nat.le_of_ble_eq_true rfl, Nat.le_of_ble_eq_true rfl⟩ rfl rfl (Nat.le_of_ble_eq_true rfl) (jw_M_mono h (fun r1 M1 h => ?_))
  refine jw_st (S' := [.int r1]) rfl ?_
  refine jw_if_eq (tgt := 20) d_V_remove_4 (by decide) (fun hc => ?_) (fun hc => ?_)
  · have h := h.1 hc
    refine jw_iconst (v := 0) d_V_remove_20 jc_i_0 ?_
    exact jw_ireturn d_V_remove_21 rfl h
  · have h := h.2 hc
    refine jw_aload_n (i := 0) d_V_remove_7 rfl rfl ?_
    refine jw_get (j := 0) (v := jw_a G 1) d_V_remove_8 jw_k0 jw_c_V jw_oc_V (Nat.le_of_ble_eq_true rfl) jw_fl_V_18 rfl rfl ?_
    refine jw_get (j := 1) (v := jw_a G 2) d_V_remove_11 jw_k1 jw_c_R jw_oc_R (Nat.le_of_ble_eq_true rfl) jw_fl_V_84 rfl rfl ?_
    refine jw_iload_n (i := 1) d_V_remove_14 rfl rfl ?_
    obtain ⟨j1, hj1, h⟩ := h
    refine jw_iald2 d_V_remove_15 jw_k2 (Nat.le_of_ble_eq_true rfl) hj1 ?_
    refine jw_iconst (v := (-1)) d_V_remove_16 jc_i_m1 ?_
    refine jw_icmp_ne (tgt := 22) d_V_remove_17 (by decide) (fun hc => ?_) (fun hc => ?_)
    · have h := h.1 hc
      refine jw_aload_n (i := 0) d_V_remove_22 rfl rfl ?_
      refine jw_get (j := 0) (v := jw_a G 1) d_V_remove_23 jw_k0 jw_c_V jw_oc_V (Nat.le_of_ble_eq_true rfl) jw_fl_V_18 rfl rfl ?_
      refine jw_get (j := 1) (v := jw_a G 2) d_V_remove_26 jw_k1 jw_c_R jw_oc_R (Nat.le_of_ble_eq_true rfl) jw_fl_V_84 rfl rfl ?_
      refine jw_iload_n (i := 1) d_V_remove_29 rfl rfl ?_
      refine jw_iconst (v := (-1)) d_V_remove_30 jc_i_m1 ?_
      obtain ⟨j2, hj2, h⟩ := h
      refine jw_iast2 d_V_remove_31 jw_k2 (Nat.le_of_ble_eq_true rfl) hj2 ?_
      refine jw_iconst (v := 1) d_V_remove_32 jc_i_1 ?_
      exact jw_ireturn d_V_remove_33 rfl h
    · have h := h.2 hc
      refine jw_iconst (v := 0) d_V_remove_20 jc_i_0 ?_
      exact jw_ireturn d_V_remove_21 rfl h
set_option maxRecDepth 100000 in
theorem e_V_remove {l : Launch} {G : jw_G} {A : Nat → Prop} {x1 : Int32} {M : jw_Mem} {Q : Int32 → jw_Mem → Prop} (h : ∀ X : jw_X0, (∀ r M', Q r M' → (r = 0 ∨ r = 1) → jw_R l X (jw_g G) A f_V_remove r M') → jw_M l (jw_g G) A f_V_isPosition [.int x1] M (fun r1 M1 => ((r1 = 0 → jw_R l X (jw_g G) A f_V_remove 0 M1) ∧ (¬ r1 = 0 → (∃ j1 : Nat, (j1 < 16 ∧ x1 = nI j1) ∧ ((¬ (M1 2 j1) = (-1) → (∃ j2 : Nat, (j2 < 16 ∧ x1 = nI j2) ∧ jw_R l X (jw_g G) A f_V_remove 1 (jw_U M1 2 j2 (-1)))) ∧ ((M1 2 j1) = (-1) → jw_R l X (jw_g G) A f_V_remove 0 M1))))))) : jw_M l (jw_g G) A f_V_remove [jw_a G 0, .int x1] M Q := by
  refine jw_M_of (by decide) (Nat.le_of_ble_eq_true rfl) (by intro v hv; simp at hv; rcases hv with rfl | rfl <;> rfl) (fun X hR => ?_)
  exact k_V_remove_0  (h X (fun r M' q hb => hR r M' q (fun ty h0 => by cases h0; exact jw_nb hb)))

set_option maxRecDepth 100000 in
set_option maxHeartbeats 4000000 in
theorem k_V_power_0 {l : Launch} {X : jw_X0} {G : jw_G} {A : Nat → Prop} {x1 : Int32} {x2 : Int32} {M : jw_Mem} (h : jw_M l (jw_g G) A f_V_isNode [.int x1] M (fun r1 M1 => ((r1 = 0 → jw_R l X (jw_g G) A f_V_power 0 M1) ∧ (¬ r1 = 0 → (∃ a1 : Nat, (a1 < 5 ∧ x1 = nI a1) ∧ ((¬ (M1 (10 + 3 * a1) 3) = x2 → (∃ a2 : Nat, (a2 < 5 ∧ x1 = nI a2) ∧ ((x2 = 0 ∨ x2 = 1) ∧ jw_R l X (jw_g G) A f_V_power 1 (jw_U M1 (10 + 3 * a2) 3 x2)))) ∧ ((M1 (10 + 3 * a1) 3) = x2 → jw_R l X (jw_g G) A f_V_power 0 M1))))))) : jw_X l X (jw_g G) A f_V_power 0 [some (jw_a G 0), some (.int x1), some (.int x2)] [] M := by
  refine jw_iload_n (i := 1) d_V_power_0 rfl rfl ?_
  refine jw_callS (As := [.int x1]) (S := []) d_V_power_1 jw_ml_V_77 jw_st_f_V_isNode ⟨Nat.le_of_ble_eq_true rfl, Nat.le_of_ble_eq_true rfl⟩ rfl rfl (Nat.le_of_ble_eq_true rfl) (jw_M_mono h (fun r1 M1 h => ?_))
  refine jw_st (S' := [.int r1]) rfl ?_
  refine jw_if_eq (tgt := 20) d_V_power_4 (by decide) (fun hc => ?_) (fun hc => ?_)
  · have h := h.1 hc
    refine jw_iconst (v := 0) d_V_power_20 jc_i_0 ?_
    exact jw_ireturn d_V_power_21 rfl h
  · have h := h.2 hc
    refine jw_aload_n (i := 0) d_V_power_7 rfl rfl ?_
    refine jw_get (j := 2) (v := jw_a G 9) d_V_power_8 jw_k0 jw_c_V jw_oc_V (Nat.le_of_ble_eq_true rfl) jw_fl_V_40 rfl rfl ?_
    refine jw_iload_n (i := 1) d_V_power_11 rfl rfl ?_
    obtain ⟨a1, ha1, h⟩ := h
    refine jw_aaldN d_V_power_12 ha1 ?_
    refine jw_get (j := 3) (v := .int (M1 (10 + 3 * a1) 3)) d_V_power_13 (jw_kN ha1.1) jw_c_N jw_oc_N (Nat.le_of_ble_eq_true rfl) jw_fl_V_87 rfl rfl ?_
    refine jw_iload_n (i := 2) d_V_power_16 rfl rfl ?_
    refine jw_icmp_ne (tgt := 22) d_V_power_17 (by decide) (fun hc => ?_) (fun hc => ?_)
    · have h := h.1 hc
      refine jw_aload_n (i := 0) d_V_power_22 rfl rfl ?_
      refine jw_get (j := 2) (v := jw_a G 9) d_V_power_23 jw_k0 jw_c_V jw_oc_V (Nat.le_of_ble_eq_true rfl) jw_fl_V_40 rfl rfl ?_
      refine jw_iload_n (i := 1) d_V_power_26 rfl rfl ?_
      obtain ⟨a2, ha2, h⟩ := h
      refine jw_aaldN d_V_power_27 ha2 ?_
      refine jw_iload_n (i := 2) d_V_power_28 rfl rfl ?_
      refine jw_put (j := 3) d_V_power_29 (jw_kN ha2.1) jw_c_N jw_oc_N (Nat.le_of_ble_eq_true rfl) jw_fl_V_87 rfl rfl (jw_nb h.1) (jw_fb h.1) ?_
      have h := h.2
      refine jw_iconst (v := 1) d_V_power_32 jc_i_1 ?_
      exact jw_ireturn d_V_power_33 rfl h
    · have h := h.2 hc
      refine jw_iconst (v := 0) d_V_power_20 jc_i_0 ?_
      exact jw_ireturn d_V_power_21 rfl h
set_option maxRecDepth 100000 in
theorem e_V_power {l : Launch} {G : jw_G} {A : Nat → Prop} {x1 : Int32} {x2 : Int32} {M : jw_Mem} {Q : Int32 → jw_Mem → Prop} (h : ∀ X : jw_X0, (∀ r M', Q r M' → (r = 0 ∨ r = 1) → jw_R l X (jw_g G) A f_V_power r M') → jw_M l (jw_g G) A f_V_isNode [.int x1] M (fun r1 M1 => ((r1 = 0 → jw_R l X (jw_g G) A f_V_power 0 M1) ∧ (¬ r1 = 0 → (∃ a1 : Nat, (a1 < 5 ∧ x1 = nI a1) ∧ ((¬ (M1 (10 + 3 * a1) 3) = x2 → (∃ a2 : Nat, (a2 < 5 ∧ x1 = nI a2) ∧ ((x2 = 0 ∨ x2 = 1) ∧ jw_R l X (jw_g G) A f_V_power 1 (jw_U M1 (10 + 3 * a2) 3 x2)))) ∧ ((M1 (10 + 3 * a1) 3) = x2 → jw_R l X (jw_g G) A f_V_power 0 M1))))))) : jw_M l (jw_g G) A f_V_power [jw_a G 0, .int x1, .int x2] M Q := by
  refine jw_M_of (by decide) (Nat.le_of_ble_eq_true rfl) (by intro v hv; simp at hv; rcases hv with rfl | rfl | rfl <;> rfl) (fun X hR => ?_)
  exact k_V_power_0  (h X (fun r M' q hb => hR r M' q (fun ty h0 => by cases h0; exact jw_nb hb)))

set_option maxRecDepth 100000 in
set_option maxHeartbeats 4000000 in
theorem k_V_cut_0 {l : Launch} {X : jw_X0} {G : jw_G} {A : Nat → Prop} {x1 : Int32} {x2 : Int32} {x3 : Int32} {M : jw_Mem} (h : jw_M l (jw_g G) A f_V_areTwoNodes [.int x1, .int x2] M (fun r1 M1 => ((r1 = 0 → jw_R l X (jw_g G) A f_V_cut 0 M1) ∧ (¬ r1 = 0 → jw_M l (jw_g G) A f_V_line [.int x1, .int x2] M1 (fun r2 M2 => (∃ j1 : Nat, (j1 < 25 ∧ r2 = nI j1) ∧ ((¬ (M2 34 j1) = x3 → jw_M l (jw_g G) A f_V_line [.int x1, .int x2] M2 (fun r3 M3 => (∃ j2 : Nat, (j2 < 25 ∧ r3 = nI j2) ∧ (x3 = 0 ∨ x3 = 1) ∧ jw_R l X (jw_g G) A f_V_cut 1 (jw_U M3 34 j2 x3)))) ∧ ((M2 34 j1) = x3 → jw_R l X (jw_g G) A f_V_cut 0 M2)))))))) : jw_X l X (jw_g G) A f_V_cut 0 [some (jw_a G 0), some (.int x1), some (.int x2), some (.int x3)] [] M := by
  refine jw_iload_n (i := 1) d_V_cut_0 rfl rfl ?_
  refine jw_iload_n (i := 2) d_V_cut_1 rfl rfl ?_
  refine jw_callS (As := [.int x1, .int x2]) (S := []) d_V_cut_2 jw_ml_V_91 jw_st_f_V_areTwoNodes ⟨Nat.le_of_ble_eq_true rfl, Nat.le_of_ble_eq_true rfl⟩ rfl rfl (Nat.le_of_ble_eq_true rfl) (jw_M_mono h (fun r1 M1 h => ?_))
  refine jw_st (S' := [.int r1]) rfl ?_
  refine jw_if_eq (tgt := 22) d_V_cut_5 (by decide) (fun hc => ?_) (fun hc => ?_)
  · have h := h.1 hc
    refine jw_iconst (v := 0) d_V_cut_22 jc_i_0 ?_
    exact jw_ireturn d_V_cut_23 rfl h
  · have h := h.2 hc
    refine jw_aload_n (i := 0) d_V_cut_8 rfl rfl ?_
    refine jw_get (j := 3) (v := jw_a G 34) d_V_cut_9 jw_k0 jw_c_V jw_oc_V (Nat.le_of_ble_eq_true rfl) jw_fl_V_54 rfl rfl ?_
    refine jw_iload_n (i := 1) d_V_cut_12 rfl rfl ?_
    refine jw_iload_n (i := 2) d_V_cut_13 rfl rfl ?_
    refine jw_callS (As := [.int x1, .int x2]) (S := [jw_a G 34]) d_V_cut_14 jw_ml_V_95 jw_st_f_V_line ⟨Nat.le_of_ble_eq_true rfl, Nat.le_of_ble_eq_true rfl⟩ rfl rfl (Nat.le_of_ble_eq_true rfl) (jw_M_mono h (fun r2 M2 h => ?_))
    refine jw_st (S' := [.int r2, jw_a G 34]) rfl ?_
    obtain ⟨j1, hj1, h⟩ := h
    refine jw_zald2 d_V_cut_17 jw_k34 (Nat.le_of_ble_eq_true rfl) hj1 ?_
    refine jw_iload_n (i := 3) d_V_cut_18 rfl rfl ?_
    refine jw_icmp_ne (tgt := 24) d_V_cut_19 (by decide) (fun hc => ?_) (fun hc => ?_)
    · have h := h.1 hc
      refine jw_aload_n (i := 0) d_V_cut_24 rfl rfl ?_
      refine jw_get (j := 3) (v := jw_a G 34) d_V_cut_25 jw_k0 jw_c_V jw_oc_V (Nat.le_of_ble_eq_true rfl) jw_fl_V_54 rfl rfl ?_
      refine jw_iload_n (i := 1) d_V_cut_28 rfl rfl ?_
      refine jw_iload_n (i := 2) d_V_cut_29 rfl rfl ?_
      refine jw_callS (As := [.int x1, .int x2]) (S := [jw_a G 34]) d_V_cut_30 jw_ml_V_95 jw_st_f_V_line ⟨Nat.le_of_ble_eq_true rfl, Nat.le_of_ble_eq_true rfl⟩ rfl rfl (Nat.le_of_ble_eq_true rfl) (jw_M_mono h (fun r3 M3 h => ?_))
      refine jw_st (S' := [.int r3, jw_a G 34]) rfl ?_
      refine jw_iload_n (i := 3) d_V_cut_33 rfl rfl ?_
      obtain ⟨j2, hj2, hbj2, h⟩ := h
      refine jw_zast2 d_V_cut_34 jw_k34 (Nat.le_of_ble_eq_true rfl) hj2 hbj2 ?_
      refine jw_iconst (v := 1) d_V_cut_35 jc_i_1 ?_
      exact jw_ireturn d_V_cut_36 rfl h
    · have h := h.2 hc
      refine jw_iconst (v := 0) d_V_cut_22 jc_i_0 ?_
      exact jw_ireturn d_V_cut_23 rfl h
set_option maxRecDepth 100000 in
theorem e_V_cut {l : Launch} {G : jw_G} {A : Nat → Prop} {x1 : Int32} {x2 : Int32} {x3 : Int32} {M : jw_Mem} {Q : Int32 → jw_Mem → Prop} (h : ∀ X : jw_X0, (∀ r M', Q r M' → (r = 0 ∨ r = 1) → jw_R l X (jw_g G) A f_V_cut r M') → jw_M l (jw_g G) A f_V_areTwoNodes [.int x1, .int x2] M (fun r1 M1 => ((r1 = 0 → jw_R l X (jw_g G) A f_V_cut 0 M1) ∧ (¬ r1 = 0 → jw_M l (jw_g G) A f_V_line [.int x1, .int x2] M1 (fun r2 M2 => (∃ j1 : Nat, (j1 < 25 ∧ r2 = nI j1) ∧ ((¬ (M2 34 j1) = x3 → jw_M l (jw_g G) A f_V_line [.int x1, .int x2] M2 (fun r3 M3 => (∃ j2 : Nat, (j2 < 25 ∧ r3 = nI j2) ∧ (x3 = 0 ∨ x3 = 1) ∧ jw_R l X (jw_g G) A f_V_cut 1 (jw_U M3 34 j2 x3)))) ∧ ((M2 34 j1) = x3 → jw_R l X (jw_g G) A f_V_cut 0 M2)))))))) : jw_M l (jw_g G) A f_V_cut [jw_a G 0, .int x1, .int x2, .int x3] M Q := by
  refine jw_M_of (by decide) (Nat.le_of_ble_eq_true rfl) (by intro v hv; simp at hv; rcases hv with rfl | rfl | rfl | rfl <;> rfl) (fun X hR => ?_)
  exact k_V_cut_0  (h X (fun r M' q hb => hR r M' q (fun ty h0 => by cases h0; exact jw_nb hb)))

set_option maxRecDepth 100000 in
set_option maxHeartbeats 4000000 in
theorem k_V_put_0 {l : Launch} {X : jw_X0} {G : jw_G} {A : Nat → Prop} {x1 : Int32} {x2 : Int32} {x3 : Int32} {x4 : Int32} {M : jw_Mem} (h : jw_M l (jw_g G) A f_V_isNode [.int x1] M (fun r1 M1 => ((r1 = 0 → jw_R l X (jw_g G) A f_V_put (-1) M1) ∧ (¬ r1 = 0 → jw_M l (jw_g G) A f_V_isKey [.int x2] M1 (fun r2 M2 => ((r2 = 0 → jw_R l X (jw_g G) A f_V_put (-1) M2) ∧ (¬ r2 = 0 → jw_M l (jw_g G) A f_V_mayKnow [jw_a G 0, .int x4, .int x2] M2 (fun r3 M3 => ((¬ r3 = 0 → (∃ a1 : Nat, (a1 < 5 ∧ x1 = nI a1) ∧ ((¬ (M3 (10 + 3 * a1) 3) = 0 → (((M3 4 4) < 40 → jw_M l (jw_g G) A f_V_aim [jw_a G 0, .int x1, .int x2] M3 (fun _ M4 => (((M4 0 6) ≤ (M4 0 10) → ((¬ x4 = (-1) → (∃ a2 : Nat, (a2 < 4 ∧ x4 = nI a2) ∧ jw_M l (jw_g G) A f_G_add [jw_a G 4, .int x2, .int x3, .int x1, jw_a G (27 + 2 * a2)] M4 (fun r5 M5 => jw_M l (jw_g G) A f_V_sendToHomes [jw_a G 0, .int r5] M5 (fun _ M6 => jw_M l (jw_g G) A f_V_leaveHints [jw_a G 0, .int x1, .int r5] M6 (fun _ M7 => jw_R l X (jw_g G) A f_V_put r5 M7))))) ∧ (x4 = (-1) → jw_M l (jw_g G) A f_G_add [jw_a G 4, .int x2, .int x3, .int x1, .ref G.2.2.2] M4 (fun r8 M8 => jw_M l (jw_g G) A f_V_sendToHomes [jw_a G 0, .int r8] M8 (fun _ M9 => jw_M l (jw_g G) A f_V_leaveHints [jw_a G 0, .int x1, .int r8] M9 (fun _ M10 => jw_R l X (jw_g G) A f_V_put r8 M10)))))) ∧ (¬ (M4 0 6) ≤ (M4 0 10) → jw_R l X (jw_g G) A f_V_put (-4) M4)))) ∧ (¬ (M3 4 4) < 40 → jw_R l X (jw_g G) A f_V_put (-3) M3))) ∧ ((M3 (10 + 3 * a1) 3) = 0 → jw_R l X (jw_g G) A f_V_put (-2) M3)))) ∧ (r3 = 0 → jw_R l X (jw_g G) A f_V_put (-1) M3)))))))))) : jw_X l X (jw_g G) A f_V_put 0 [some (jw_a G 0), some (.int x1), some (.int x2), some (.int x3), some (.int x4), none, none] [] M := by
  refine jw_iload_n (i := 1) d_V_put_0 rfl rfl ?_
  refine jw_callS (As := [.int x1]) (S := []) d_V_put_1 jw_ml_V_77 jw_st_f_V_isNode ⟨Nat.le_of_ble_eq_true rfl, Nat.le_of_ble_eq_true rfl⟩ rfl rfl (Nat.le_of_ble_eq_true rfl) (jw_M_mono h (fun r1 M1 h => ?_))
  refine jw_st (S' := [.int r1]) rfl ?_
  refine jw_if_eq (tgt := 24) d_V_put_4 (by decide) (fun hc => ?_) (fun hc => ?_)
  · have h := h.1 hc
    refine jw_iconst (v := (-1)) d_V_put_24 jc_i_m1 ?_
    exact jw_ireturn d_V_put_25 rfl h
  · have h := h.2 hc
    refine jw_iload_n (i := 2) d_V_put_7 rfl rfl ?_
    refine jw_callS (As := [.int x2]) (S := []) d_V_put_8 jw_ml_V_98 jw_st_f_V_isKey ⟨Nat.le_of_ble_eq_true rfl, Nat.le_of_ble_eq_true rfl⟩ rfl rfl (Nat.le_of_ble_eq_true rfl) (jw_M_mono h (fun r2 M2 h => ?_))
    refine jw_st (S' := [.int r2]) rfl ?_
    refine jw_if_eq (tgt := 24) d_V_put_11 (by decide) (fun hc => ?_) (fun hc => ?_)
    · have h := h.1 hc
      refine jw_iconst (v := (-1)) d_V_put_24 jc_i_m1 ?_
      exact jw_ireturn d_V_put_25 rfl h
    · have h := h.2 hc
      refine jw_aload_n (i := 0) d_V_put_14 rfl rfl ?_
      refine jw_iload d_V_put_15 rfl ?_
      refine jw_iload_n (i := 2) d_V_put_17 rfl rfl ?_
      refine jw_callV (As := [.int x4, .int x2]) (S := []) d_V_put_18 jw_k0 jw_c_V jw_ml_V_101 jw_in_f_V_mayKnow jw_se_f_V_mayKnow ⟨Nat.le_of_ble_eq_true rfl, Nat.le_of_ble_eq_true rfl⟩ rfl rfl (Nat.le_of_ble_eq_true rfl) (jw_M_mono h (fun r3 M3 h => ?_))
      refine jw_st (S' := [.int r3]) rfl ?_
      refine jw_if_ne (tgt := 26) d_V_put_21 (by decide) (fun hc => ?_) (fun hc => ?_)
      · have h := h.1 hc
        refine jw_aload_n (i := 0) d_V_put_26 rfl rfl ?_
        refine jw_get (j := 2) (v := jw_a G 9) d_V_put_27 jw_k0 jw_c_V jw_oc_V (Nat.le_of_ble_eq_true rfl) jw_fl_V_40 rfl rfl ?_
        refine jw_iload_n (i := 1) d_V_put_30 rfl rfl ?_
        obtain ⟨a1, ha1, h⟩ := h
        refine jw_aaldN d_V_put_31 ha1 ?_
        refine jw_get (j := 3) (v := .int (M3 (10 + 3 * a1) 3)) d_V_put_32 (jw_kN ha1.1) jw_c_N jw_oc_N (Nat.le_of_ble_eq_true rfl) jw_fl_V_87 rfl rfl ?_
        refine jw_if_ne (tgt := 41) d_V_put_35 (by decide) (fun hc => ?_) (fun hc => ?_)
        · have h := h.1 hc
          refine jw_aload_n (i := 0) d_V_put_41 rfl rfl ?_
          refine jw_get (j := 1) (v := jw_a G 4) d_V_put_42 jw_k0 jw_c_V jw_oc_V (Nat.le_of_ble_eq_true rfl) jw_fl_V_34 rfl rfl ?_
          refine jw_get (j := 4) (v := .int (M3 4 4)) d_V_put_45 jw_k4 jw_c_G jw_oc_G (Nat.le_of_ble_eq_true rfl) jw_fl_V_104 rfl rfl ?_
          refine jw_bipush (v := 40) d_V_put_48 jc_b_40 ?_
          refine jw_icmp_lt (tgt := 56) d_V_put_50 (by decide) (fun hc => ?_) (fun hc => ?_)
          · have h := h.1 hc
            refine jw_aload_n (i := 0) d_V_put_56 rfl rfl ?_
            refine jw_iload_n (i := 1) d_V_put_57 rfl rfl ?_
            refine jw_iload_n (i := 2) d_V_put_58 rfl rfl ?_
            refine jw_callV (As := [.int x1, .int x2]) (S := []) d_V_put_59 jw_k0 jw_c_V jw_ml_V_107 jw_in_f_V_aim jw_se_f_V_aim ⟨Nat.le_of_ble_eq_true rfl, Nat.le_of_ble_eq_true rfl⟩ rfl rfl (Nat.le_of_ble_eq_true rfl) (jw_M_mono h (fun r4 M4 h => ?_))
            refine jw_st (S' := []) rfl ?_
            refine jw_aload_n (i := 0) d_V_put_62 rfl rfl ?_
            refine jw_get (j := 10) (v := .int (M4 0 10)) d_V_put_63 jw_k0 jw_c_V jw_oc_V (Nat.le_of_ble_eq_true rfl) jw_fl_V_111 rfl rfl ?_
            refine jw_aload_n (i := 0) d_V_put_66 rfl rfl ?_
            refine jw_get (j := 6) (v := .int (M4 0 6)) d_V_put_67 jw_k0 jw_c_V jw_oc_V (Nat.le_of_ble_eq_true rfl) jw_fl_V_28 rfl rfl ?_
            refine jw_icmp_ge (tgt := 76) d_V_put_70 (by decide) (fun hc => ?_) (fun hc => ?_)
            · have h := h.1 hc
              refine jw_iload d_V_put_76 rfl ?_
              refine jw_iconst (v := (-1)) d_V_put_78 jc_i_m1 ?_
              refine jw_icmp_ne (tgt := 88) d_V_put_79 (by decide) (fun hc => ?_) (fun hc => ?_)
              · have h := h.1 hc
                refine jw_aload_n (i := 0) d_V_put_88 rfl rfl ?_
                refine jw_get (j := 4) (v := jw_a G 25) d_V_put_89 jw_k0 jw_c_V jw_oc_V (Nat.le_of_ble_eq_true rfl) jw_fl_V_49 rfl rfl ?_
                refine jw_iload d_V_put_92 rfl ?_
                obtain ⟨a2, ha2, h⟩ := h
                refine jw_aaldC d_V_put_94 ha2 ?_
                refine jw_get (j := 0) (v := jw_a G (27 + 2 * a2)) d_V_put_95 (jw_kC ha2.1) jw_c_C jw_oc_C (Nat.le_of_ble_eq_true rfl) jw_fl_V_117 rfl rfl ?_
                refine jw_astore d_V_put_98 (Nat.le_of_ble_eq_true rfl) ?_
                refine jw_aload_n (i := 0) d_V_put_100 rfl rfl ?_
                refine jw_get (j := 1) (v := jw_a G 4) d_V_put_101 jw_k0 jw_c_V jw_oc_V (Nat.le_of_ble_eq_true rfl) jw_fl_V_34 rfl rfl ?_
                refine jw_iload_n (i := 2) d_V_put_104 rfl rfl ?_
                refine jw_iload_n (i := 3) d_V_put_105 rfl rfl ?_
                refine jw_iload_n (i := 1) d_V_put_106 rfl rfl ?_
                refine jw_aload d_V_put_107 rfl ?_
                refine jw_callV (As := [.int x2, .int x3, .int x1, jw_a G (27 + 2 * a2)]) (S := []) d_V_put_109 jw_k4 jw_c_G jw_ml_V_120 jw_in_f_G_add jw_se_f_G_add ⟨Nat.le_of_ble_eq_true rfl, Nat.le_of_ble_eq_true rfl⟩ rfl rfl (Nat.le_of_ble_eq_true rfl) (jw_M_mono h (fun r5 M5 h => ?_))
                refine jw_st (S' := [.int r5]) rfl ?_
                refine jw_istore d_V_put_112 (Nat.le_of_ble_eq_true rfl) ?_
                refine jw_aload_n (i := 0) d_V_put_114 rfl rfl ?_
                refine jw_iload d_V_put_115 rfl ?_
                refine jw_callV (As := [.int r5]) (S := []) d_V_put_117 jw_k0 jw_c_V jw_ml_V_124 jw_in_f_V_sendToHomes jw_se_f_V_sendToHomes ⟨Nat.le_of_ble_eq_true rfl, Nat.le_of_ble_eq_true rfl⟩ rfl rfl (Nat.le_of_ble_eq_true rfl) (jw_M_mono h (fun r6 M6 h => ?_))
                refine jw_st (S' := []) rfl ?_
                refine jw_aload_n (i := 0) d_V_put_120 rfl rfl ?_
                refine jw_iload_n (i := 1) d_V_put_121 rfl rfl ?_
                refine jw_iload d_V_put_122 rfl ?_
                refine jw_callV (As := [.int x1, .int r5]) (S := []) d_V_put_124 jw_k0 jw_c_V jw_ml_V_127 jw_in_f_V_leaveHints jw_se_f_V_leaveHints ⟨Nat.le_of_ble_eq_true rfl, Nat.le_of_ble_eq_true rfl⟩ rfl rfl (Nat.le_of_ble_eq_true rfl) (jw_M_mono h (fun r7 M7 h => ?_))
                refine jw_st (S' := []) rfl ?_
                refine jw_iload d_V_put_127 rfl ?_
                exact jw_ireturn d_V_put_129 rfl h
              · have h := h.2 hc
                refine jw_getstatic (t := G.2.2.2) d_V_put_82 rfl jw_ks ?_
                refine jw_goto (tgt := 98) d_V_put_85 (by decide) ?_
                refine jw_astore d_V_put_98 (Nat.le_of_ble_eq_true rfl) ?_
                refine jw_aload_n (i := 0) d_V_put_100 rfl rfl ?_
                refine jw_get (j := 1) (v := jw_a G 4) d_V_put_101 jw_k0 jw_c_V jw_oc_V (Nat.le_of_ble_eq_true rfl) jw_fl_V_34 rfl rfl ?_
                refine jw_iload_n (i := 2) d_V_put_104 rfl rfl ?_
                refine jw_iload_n (i := 3) d_V_put_105 rfl rfl ?_
                refine jw_iload_n (i := 1) d_V_put_106 rfl rfl ?_
                refine jw_aload d_V_put_107 rfl ?_
                refine jw_callV (As := [.int x2, .int x3, .int x1, .ref G.2.2.2]) (S := []) d_V_put_109 jw_k4 jw_c_G jw_ml_V_120 jw_in_f_G_add jw_se_f_G_add ⟨Nat.le_of_ble_eq_true rfl, Nat.le_of_ble_eq_true rfl⟩ rfl rfl (Nat.le_of_ble_eq_true rfl) (jw_M_mono h (fun r8 M8 h => ?_))
                refine jw_st (S' := [.int r8]) rfl ?_
                refine jw_istore d_V_put_112 (Nat.le_of_ble_eq_true rfl) ?_
                refine jw_aload_n (i := 0) d_V_put_114 rfl rfl ?_
                refine jw_iload d_V_put_115 rfl ?_
                refine jw_callV (As := [.int r8]) (S := []) d_V_put_117 jw_k0 jw_c_V jw_ml_V_124 jw_in_f_V_sendToHomes jw_se_f_V_sendToHomes ⟨Nat.le_of_ble_eq_true rfl, Nat.le_of_ble_eq_true rfl⟩ rfl rfl (Nat.le_of_ble_eq_true rfl) (jw_M_mono h (fun r9 M9 h => ?_))
                refine jw_st (S' := []) rfl ?_
                refine jw_aload_n (i := 0) d_V_put_120 rfl rfl ?_
                refine jw_iload_n (i := 1) d_V_put_121 rfl rfl ?_
                refine jw_iload d_V_put_122 rfl ?_
                refine jw_callV (As := [.int x1, .int r8]) (S := []) d_V_put_124 jw_k0 jw_c_V jw_ml_V_127 jw_in_f_V_leaveHints jw_se_f_V_leaveHints ⟨Nat.le_of_ble_eq_true rfl, Nat.le_of_ble_eq_true rfl⟩ rfl rfl (Nat.le_of_ble_eq_true rfl) (jw_M_mono h (fun r10 M10 h => ?_))
                refine jw_st (S' := []) rfl ?_
                refine jw_iload d_V_put_127 rfl ?_
                exact jw_ireturn d_V_put_129 rfl h
            · have h := h.2 hc
              refine jw_bipush (v := (-4)) d_V_put_73 jc_b_m4 ?_
              exact jw_ireturn d_V_put_75 rfl h
          · have h := h.2 hc
            refine jw_bipush (v := (-3)) d_V_put_53 jc_b_m3 ?_
            exact jw_ireturn d_V_put_55 rfl h
        · have h := h.2 hc
          refine jw_bipush (v := (-2)) d_V_put_38 jc_b_m2 ?_
          exact jw_ireturn d_V_put_40 rfl h
      · have h := h.2 hc
        refine jw_iconst (v := (-1)) d_V_put_24 jc_i_m1 ?_
        exact jw_ireturn d_V_put_25 rfl h
set_option maxRecDepth 100000 in
theorem e_V_put {l : Launch} {G : jw_G} {A : Nat → Prop} {x1 : Int32} {x2 : Int32} {x3 : Int32} {x4 : Int32} {M : jw_Mem} {Q : Int32 → jw_Mem → Prop} (h : ∀ X : jw_X0, (∀ r M', Q r M' → jw_R l X (jw_g G) A f_V_put r M') → jw_M l (jw_g G) A f_V_isNode [.int x1] M (fun r1 M1 => ((r1 = 0 → jw_R l X (jw_g G) A f_V_put (-1) M1) ∧ (¬ r1 = 0 → jw_M l (jw_g G) A f_V_isKey [.int x2] M1 (fun r2 M2 => ((r2 = 0 → jw_R l X (jw_g G) A f_V_put (-1) M2) ∧ (¬ r2 = 0 → jw_M l (jw_g G) A f_V_mayKnow [jw_a G 0, .int x4, .int x2] M2 (fun r3 M3 => ((¬ r3 = 0 → (∃ a1 : Nat, (a1 < 5 ∧ x1 = nI a1) ∧ ((¬ (M3 (10 + 3 * a1) 3) = 0 → (((M3 4 4) < 40 → jw_M l (jw_g G) A f_V_aim [jw_a G 0, .int x1, .int x2] M3 (fun _ M4 => (((M4 0 6) ≤ (M4 0 10) → ((¬ x4 = (-1) → (∃ a2 : Nat, (a2 < 4 ∧ x4 = nI a2) ∧ jw_M l (jw_g G) A f_G_add [jw_a G 4, .int x2, .int x3, .int x1, jw_a G (27 + 2 * a2)] M4 (fun r5 M5 => jw_M l (jw_g G) A f_V_sendToHomes [jw_a G 0, .int r5] M5 (fun _ M6 => jw_M l (jw_g G) A f_V_leaveHints [jw_a G 0, .int x1, .int r5] M6 (fun _ M7 => jw_R l X (jw_g G) A f_V_put r5 M7))))) ∧ (x4 = (-1) → jw_M l (jw_g G) A f_G_add [jw_a G 4, .int x2, .int x3, .int x1, .ref G.2.2.2] M4 (fun r8 M8 => jw_M l (jw_g G) A f_V_sendToHomes [jw_a G 0, .int r8] M8 (fun _ M9 => jw_M l (jw_g G) A f_V_leaveHints [jw_a G 0, .int x1, .int r8] M9 (fun _ M10 => jw_R l X (jw_g G) A f_V_put r8 M10)))))) ∧ (¬ (M4 0 6) ≤ (M4 0 10) → jw_R l X (jw_g G) A f_V_put (-4) M4)))) ∧ (¬ (M3 4 4) < 40 → jw_R l X (jw_g G) A f_V_put (-3) M3))) ∧ ((M3 (10 + 3 * a1) 3) = 0 → jw_R l X (jw_g G) A f_V_put (-2) M3)))) ∧ (r3 = 0 → jw_R l X (jw_g G) A f_V_put (-1) M3)))))))))) : jw_M l (jw_g G) A f_V_put [jw_a G 0, .int x1, .int x2, .int x3, .int x4] M Q := by
  refine jw_M_of (by decide) (Nat.le_of_ble_eq_true rfl) (by intro v hv; simp at hv; rcases hv with rfl | rfl | rfl | rfl | rfl <;> rfl) (fun X hR => ?_)
  exact k_V_put_0  (h X (fun r M' q => hR r M' q (fun ty h0 => by cases h0; rfl)))

set_option maxRecDepth 100000 in
set_option maxHeartbeats 4000000 in
theorem k_V_get_0 {l : Launch} {X : jw_X0} {G : jw_G} {A : Nat → Prop} {x1 : Int32} {x2 : Int32} {x3 : Int32} {M : jw_Mem} (h : jw_M l (jw_g G) A f_V_isNode [.int x1] M (fun r1 M1 => ((r1 = 0 → jw_R l X (jw_g G) A f_V_get (-1) M1) ∧ (¬ r1 = 0 → jw_M l (jw_g G) A f_V_isKey [.int x2] M1 (fun r2 M2 => ((r2 = 0 → jw_R l X (jw_g G) A f_V_get (-1) M2) ∧ (¬ r2 = 0 → jw_M l (jw_g G) A f_V_isContext [.int x3] M2 (fun r3 M3 => ((¬ r3 = 0 → (∃ a1 : Nat, (a1 < 5 ∧ x1 = nI a1) ∧ ((¬ (M3 (10 + 3 * a1) 3) = 0 → jw_M l (jw_g G) A f_V_aim [jw_a G 0, .int x1, .int x2] M3 (fun _ M4 => (((M4 0 5) ≤ (M4 0 10) → jw_M l (jw_g G) A f_V_lookAtTargets [jw_a G 0, .int x2] M4 (fun _ M5 => jw_M l (jw_g G) A f_V_keepLatest [jw_a G 0] M5 (fun r6 M6 => (∃ a2 : Nat, (a2 < 4 ∧ x3 = nI a2) ∧ jw_M l (jw_g G) A f_C_learn [jw_a G (26 + 2 * a2), .int x2, jw_a G 35, jw_a G 4] M6 (fun _ M7 => jw_X l X (jw_g G) A f_V_get 95 [some (jw_a G 0), some (.int x1), some (.int x2), some (.int x3), some (.int r6), some (.int 0)] [] (jw_U M7 0 8 0)))))) ∧ (¬ (M4 0 5) ≤ (M4 0 10) → jw_R l X (jw_g G) A f_V_get (-3) M4)))) ∧ ((M3 (10 + 3 * a1) 3) = 0 → jw_R l X (jw_g G) A f_V_get (-2) M3)))) ∧ (r3 = 0 → jw_R l X (jw_g G) A f_V_get (-1) M3)))))))))) : jw_X l X (jw_g G) A f_V_get 0 [some (jw_a G 0), some (.int x1), some (.int x2), some (.int x3), none, none] [] M := by
  refine jw_iload_n (i := 1) d_V_get_0 rfl rfl ?_
  refine jw_callS (As := [.int x1]) (S := []) d_V_get_1 jw_ml_V_77 jw_st_f_V_isNode ⟨Nat.le_of_ble_eq_true rfl, Nat.le_of_ble_eq_true rfl⟩ rfl rfl (Nat.le_of_ble_eq_true rfl) (jw_M_mono h (fun r1 M1 h => ?_))
  refine jw_st (S' := [.int r1]) rfl ?_
  refine jw_if_eq (tgt := 21) d_V_get_4 (by decide) (fun hc => ?_) (fun hc => ?_)
  · have h := h.1 hc
    refine jw_iconst (v := (-1)) d_V_get_21 jc_i_m1 ?_
    exact jw_ireturn d_V_get_22 rfl h
  · have h := h.2 hc
    refine jw_iload_n (i := 2) d_V_get_7 rfl rfl ?_
    refine jw_callS (As := [.int x2]) (S := []) d_V_get_8 jw_ml_V_98 jw_st_f_V_isKey ⟨Nat.le_of_ble_eq_true rfl, Nat.le_of_ble_eq_true rfl⟩ rfl rfl (Nat.le_of_ble_eq_true rfl) (jw_M_mono h (fun r2 M2 h => ?_))
    refine jw_st (S' := [.int r2]) rfl ?_
    refine jw_if_eq (tgt := 21) d_V_get_11 (by decide) (fun hc => ?_) (fun hc => ?_)
    · have h := h.1 hc
      refine jw_iconst (v := (-1)) d_V_get_21 jc_i_m1 ?_
      exact jw_ireturn d_V_get_22 rfl h
    · have h := h.2 hc
      refine jw_iload_n (i := 3) d_V_get_14 rfl rfl ?_
      refine jw_callS (As := [.int x3]) (S := []) d_V_get_15 jw_ml_V_130 jw_st_f_V_isContext ⟨Nat.le_of_ble_eq_true rfl, Nat.le_of_ble_eq_true rfl⟩ rfl rfl (Nat.le_of_ble_eq_true rfl) (jw_M_mono h (fun r3 M3 h => ?_))
      refine jw_st (S' := [.int r3]) rfl ?_
      refine jw_if_ne (tgt := 23) d_V_get_18 (by decide) (fun hc => ?_) (fun hc => ?_)
      · have h := h.1 hc
        refine jw_aload_n (i := 0) d_V_get_23 rfl rfl ?_
        refine jw_get (j := 2) (v := jw_a G 9) d_V_get_24 jw_k0 jw_c_V jw_oc_V (Nat.le_of_ble_eq_true rfl) jw_fl_V_40 rfl rfl ?_
        refine jw_iload_n (i := 1) d_V_get_27 rfl rfl ?_
        obtain ⟨a1, ha1, h⟩ := h
        refine jw_aaldN d_V_get_28 ha1 ?_
        refine jw_get (j := 3) (v := .int (M3 (10 + 3 * a1) 3)) d_V_get_29 (jw_kN ha1.1) jw_c_N jw_oc_N (Nat.le_of_ble_eq_true rfl) jw_fl_V_87 rfl rfl ?_
        refine jw_if_ne (tgt := 38) d_V_get_32 (by decide) (fun hc => ?_) (fun hc => ?_)
        · have h := h.1 hc
          refine jw_aload_n (i := 0) d_V_get_38 rfl rfl ?_
          refine jw_iload_n (i := 1) d_V_get_39 rfl rfl ?_
          refine jw_iload_n (i := 2) d_V_get_40 rfl rfl ?_
          refine jw_callV (As := [.int x1, .int x2]) (S := []) d_V_get_41 jw_k0 jw_c_V jw_ml_V_107 jw_in_f_V_aim jw_se_f_V_aim ⟨Nat.le_of_ble_eq_true rfl, Nat.le_of_ble_eq_true rfl⟩ rfl rfl (Nat.le_of_ble_eq_true rfl) (jw_M_mono h (fun r4 M4 h => ?_))
          refine jw_st (S' := []) rfl ?_
          refine jw_aload_n (i := 0) d_V_get_44 rfl rfl ?_
          refine jw_get (j := 10) (v := .int (M4 0 10)) d_V_get_45 jw_k0 jw_c_V jw_oc_V (Nat.le_of_ble_eq_true rfl) jw_fl_V_111 rfl rfl ?_
          refine jw_aload_n (i := 0) d_V_get_48 rfl rfl ?_
          refine jw_get (j := 5) (v := .int (M4 0 5)) d_V_get_49 jw_k0 jw_c_V jw_oc_V (Nat.le_of_ble_eq_true rfl) jw_fl_V_24 rfl rfl ?_
          refine jw_icmp_ge (tgt := 58) d_V_get_52 (by decide) (fun hc => ?_) (fun hc => ?_)
          · have h := h.1 hc
            refine jw_aload_n (i := 0) d_V_get_58 rfl rfl ?_
            refine jw_iload_n (i := 2) d_V_get_59 rfl rfl ?_
            refine jw_callV (As := [.int x2]) (S := []) d_V_get_60 jw_k0 jw_c_V jw_ml_V_133 jw_in_f_V_lookAtTargets jw_se_f_V_lookAtTargets ⟨Nat.le_of_ble_eq_true rfl, Nat.le_of_ble_eq_true rfl⟩ rfl rfl (Nat.le_of_ble_eq_true rfl) (jw_M_mono h (fun r5 M5 h => ?_))
            refine jw_st (S' := []) rfl ?_
            refine jw_aload_n (i := 0) d_V_get_63 rfl rfl ?_
            refine jw_callV (As := []) (S := []) d_V_get_64 jw_k0 jw_c_V jw_ml_V_136 jw_in_f_V_keepLatest jw_se_f_V_keepLatest ⟨Nat.le_of_ble_eq_true rfl, Nat.le_of_ble_eq_true rfl⟩ rfl rfl (Nat.le_of_ble_eq_true rfl) (jw_M_mono h (fun r6 M6 h => ?_))
            refine jw_st (S' := [.int r6]) rfl ?_
            refine jw_istore d_V_get_67 (Nat.le_of_ble_eq_true rfl) ?_
            refine jw_aload_n (i := 0) d_V_get_69 rfl rfl ?_
            refine jw_get (j := 4) (v := jw_a G 25) d_V_get_70 jw_k0 jw_c_V jw_oc_V (Nat.le_of_ble_eq_true rfl) jw_fl_V_49 rfl rfl ?_
            refine jw_iload_n (i := 3) d_V_get_73 rfl rfl ?_
            obtain ⟨a2, ha2, h⟩ := h
            refine jw_aaldC d_V_get_74 ha2 ?_
            refine jw_iload_n (i := 2) d_V_get_75 rfl rfl ?_
            refine jw_aload_n (i := 0) d_V_get_76 rfl rfl ?_
            refine jw_get (j := 7) (v := jw_a G 35) d_V_get_77 jw_k0 jw_c_V jw_oc_V (Nat.le_of_ble_eq_true rfl) jw_fl_V_58 rfl rfl ?_
            refine jw_aload_n (i := 0) d_V_get_80 rfl rfl ?_
            refine jw_get (j := 1) (v := jw_a G 4) d_V_get_81 jw_k0 jw_c_V jw_oc_V (Nat.le_of_ble_eq_true rfl) jw_fl_V_34 rfl rfl ?_
            refine jw_callV (As := [.int x2, jw_a G 35, jw_a G 4]) (S := []) d_V_get_84 (jw_kC ha2.1) jw_c_C jw_ml_V_140 jw_in_f_C_learn jw_se_f_C_learn ⟨Nat.le_of_ble_eq_true rfl, Nat.le_of_ble_eq_true rfl⟩ rfl rfl (Nat.le_of_ble_eq_true rfl) (jw_M_mono h (fun r7 M7 h => ?_))
            refine jw_st (S' := []) rfl ?_
            refine jw_aload_n (i := 0) d_V_get_87 rfl rfl ?_
            refine jw_iconst (v := 0) d_V_get_88 jc_i_0 ?_
            refine jw_put (j := 8) d_V_get_89 jw_k0 jw_c_V jw_oc_V (Nat.le_of_ble_eq_true rfl) jw_fl_V_144 rfl rfl rfl rfl ?_
            refine jw_iconst (v := 0) d_V_get_92 jc_i_0 ?_
            refine jw_istore d_V_get_93 (Nat.le_of_ble_eq_true rfl) ?_
            exact h
          · have h := h.2 hc
            refine jw_bipush (v := (-3)) d_V_get_55 jc_b_m3 ?_
            exact jw_ireturn d_V_get_57 rfl h
        · have h := h.2 hc
          refine jw_bipush (v := (-2)) d_V_get_35 jc_b_m2 ?_
          exact jw_ireturn d_V_get_37 rfl h
      · have h := h.2 hc
        refine jw_iconst (v := (-1)) d_V_get_21 jc_i_m1 ?_
        exact jw_ireturn d_V_get_22 rfl h
set_option maxRecDepth 100000 in
set_option maxHeartbeats 4000000 in
theorem k_V_get_95 {l : Launch} {X : jw_X0} {G : jw_G} {A : Nat → Prop} {x1 x2 x3 x4 x5 : Int32} {M : jw_Mem} (h : (((M 0 11) ≤ x5 → jw_R l X (jw_g G) A f_V_get x4 M) ∧ (¬ (M 0 11) ≤ x5 → (∃ j1 : Nat, (j1 < 5 ∧ x5 = nI j1) ∧ (∃ a1 : Nat, (a1 < 5 ∧ (M 36 j1) = nI a1) ∧ jw_M l (jw_g G) A f_N_takeAll [jw_a G (10 + 3 * a1), jw_a G 35] M (fun r1 M1 => jw_X l X (jw_g G) A f_V_get 95 [some (jw_a G 0), some (.int x1), some (.int x2), some (.int x3), some (.int x4), some (.int (x5 + 1))] [] (jw_U M1 0 8 ((M 0 8) + r1)))))))) : jw_X l X (jw_g G) A f_V_get 95 [some (jw_a G 0), some (.int x1), some (.int x2), some (.int x3), some (.int x4), some (.int x5)] [] M := by
  refine jw_iload d_V_get_95 rfl ?_
  refine jw_aload_n (i := 0) d_V_get_97 rfl rfl ?_
  refine jw_get (j := 11) (v := .int (M 0 11)) d_V_get_98 jw_k0 jw_c_V jw_oc_V (Nat.le_of_ble_eq_true rfl) jw_fl_V_147 rfl rfl ?_
  refine jw_icmp_ge (tgt := 138) d_V_get_101 (by decide) (fun hc => ?_) (fun hc => ?_)
  · have h := h.1 hc
    refine jw_iload d_V_get_138 rfl ?_
    exact jw_ireturn d_V_get_140 rfl h
  · have h := h.2 hc
    refine jw_aload_n (i := 0) d_V_get_104 rfl rfl ?_
    refine jw_dup d_V_get_105 rfl ?_
    refine jw_get (j := 8) (v := .int (M 0 8)) d_V_get_106 jw_k0 jw_c_V jw_oc_V (Nat.le_of_ble_eq_true rfl) jw_fl_V_144 rfl rfl ?_
    refine jw_aload_n (i := 0) d_V_get_109 rfl rfl ?_
    refine jw_get (j := 2) (v := jw_a G 9) d_V_get_110 jw_k0 jw_c_V jw_oc_V (Nat.le_of_ble_eq_true rfl) jw_fl_V_40 rfl rfl ?_
    refine jw_aload_n (i := 0) d_V_get_113 rfl rfl ?_
    refine jw_get (j := 9) (v := jw_a G 36) d_V_get_114 jw_k0 jw_c_V jw_oc_V (Nat.le_of_ble_eq_true rfl) jw_fl_V_61 rfl rfl ?_
    refine jw_iload d_V_get_117 rfl ?_
    obtain ⟨j1, hj1, h⟩ := h
    refine jw_iald2 d_V_get_119 jw_k36 (Nat.le_of_ble_eq_true rfl) hj1 ?_
    obtain ⟨a1, ha1, h⟩ := h
    refine jw_aaldN d_V_get_120 ha1 ?_
    refine jw_aload_n (i := 0) d_V_get_121 rfl rfl ?_
    refine jw_get (j := 7) (v := jw_a G 35) d_V_get_122 jw_k0 jw_c_V jw_oc_V (Nat.le_of_ble_eq_true rfl) jw_fl_V_58 rfl rfl ?_
    refine jw_callV (As := [jw_a G 35]) (S := [.int (M 0 8), jw_a G 0]) d_V_get_125 (jw_kN ha1.1) jw_c_N jw_ml_V_150 jw_in_f_N_takeAll jw_se_f_N_takeAll ⟨Nat.le_of_ble_eq_true rfl, Nat.le_of_ble_eq_true rfl⟩ rfl rfl (Nat.le_of_ble_eq_true rfl) (jw_M_mono h (fun r1 M1 h => ?_))
    refine jw_st (S' := [.int r1, .int (M 0 8), jw_a G 0]) rfl ?_
    refine jw_iadd d_V_get_128 ?_
    refine jw_put (j := 8) d_V_get_129 jw_k0 jw_c_V jw_oc_V (Nat.le_of_ble_eq_true rfl) jw_fl_V_144 rfl rfl rfl rfl ?_
    refine jw_iinc (d := 1) d_V_get_132 rfl jc_i_1 (Nat.le_of_ble_eq_true rfl) ?_
    refine jw_goto (tgt := 95) d_V_get_135 (by decide) ?_
    exact h
set_option maxRecDepth 100000 in
theorem e_V_get {l : Launch} {G : jw_G} {A : Nat → Prop} {x1 : Int32} {x2 : Int32} {x3 : Int32} {M : jw_Mem} {Q : Int32 → jw_Mem → Prop} (h : ∀ X : jw_X0, (∀ r M', Q r M' → jw_R l X (jw_g G) A f_V_get r M') → jw_M l (jw_g G) A f_V_isNode [.int x1] M (fun r1 M1 => ((r1 = 0 → jw_R l X (jw_g G) A f_V_get (-1) M1) ∧ (¬ r1 = 0 → jw_M l (jw_g G) A f_V_isKey [.int x2] M1 (fun r2 M2 => ((r2 = 0 → jw_R l X (jw_g G) A f_V_get (-1) M2) ∧ (¬ r2 = 0 → jw_M l (jw_g G) A f_V_isContext [.int x3] M2 (fun r3 M3 => ((¬ r3 = 0 → (∃ a1 : Nat, (a1 < 5 ∧ x1 = nI a1) ∧ ((¬ (M3 (10 + 3 * a1) 3) = 0 → jw_M l (jw_g G) A f_V_aim [jw_a G 0, .int x1, .int x2] M3 (fun _ M4 => (((M4 0 5) ≤ (M4 0 10) → jw_M l (jw_g G) A f_V_lookAtTargets [jw_a G 0, .int x2] M4 (fun _ M5 => jw_M l (jw_g G) A f_V_keepLatest [jw_a G 0] M5 (fun r6 M6 => (∃ a2 : Nat, (a2 < 4 ∧ x3 = nI a2) ∧ jw_M l (jw_g G) A f_C_learn [jw_a G (26 + 2 * a2), .int x2, jw_a G 35, jw_a G 4] M6 (fun _ M7 => jw_X l X (jw_g G) A f_V_get 95 [some (jw_a G 0), some (.int x1), some (.int x2), some (.int x3), some (.int r6), some (.int 0)] [] (jw_U M7 0 8 0)))))) ∧ (¬ (M4 0 5) ≤ (M4 0 10) → jw_R l X (jw_g G) A f_V_get (-3) M4)))) ∧ ((M3 (10 + 3 * a1) 3) = 0 → jw_R l X (jw_g G) A f_V_get (-2) M3)))) ∧ (r3 = 0 → jw_R l X (jw_g G) A f_V_get (-1) M3)))))))))) : jw_M l (jw_g G) A f_V_get [jw_a G 0, .int x1, .int x2, .int x3] M Q := by
  refine jw_M_of (by decide) (Nat.le_of_ble_eq_true rfl) (by intro v hv; simp at hv; rcases hv with rfl | rfl | rfl | rfl <;> rfl) (fun X hR => ?_)
  exact k_V_get_0  (h X (fun r M' q => hR r M' q (fun ty h0 => by cases h0; rfl)))

set_option maxRecDepth 100000 in
set_option maxHeartbeats 4000000 in
theorem k_V_found_0 {l : Launch} {X : jw_X0} {G : jw_G} {A : Nat → Prop} {x1 : Int32} {M : jw_Mem} (h : jw_X l X (jw_g G) A f_V_found 4 [some (jw_a G 0), some (.int x1), some (.int 0), some (.int 0)] [] M) : jw_X l X (jw_g G) A f_V_found 0 [some (jw_a G 0), some (.int x1), none, none] [] M := by
  refine jw_iconst (v := 0) d_V_found_0 jc_i_0 ?_
  refine jw_istore_n (i := 2) d_V_found_1 rfl (Nat.le_of_ble_eq_true rfl) ?_
  refine jw_iconst (v := 0) d_V_found_2 jc_i_0 ?_
  refine jw_istore_n (i := 3) d_V_found_3 rfl (Nat.le_of_ble_eq_true rfl) ?_
  exact h
set_option maxRecDepth 100000 in
set_option maxHeartbeats 4000000 in
theorem k_V_found_4 {l : Launch} {X : jw_X0} {G : jw_G} {A : Nat → Prop} {x1 x2 x3 : Int32} {M : jw_Mem} (h : (((M 4 4) ≤ x3 → jw_R l X (jw_g G) A f_V_found (-1) M) ∧ (¬ (M 4 4) ≤ x3 → (∃ j1 : Nat, (j1 < 40 ∧ x3 = nI j1) ∧ (((M 35 j1) = 0 → jw_X l X (jw_g G) A f_V_found 4 [some (jw_a G 0), some (.int x1), some (.int x2), some (.int (x3 + 1))] [] M) ∧ (¬ (M 35 j1) = 0 → ((¬ x2 = x1 → jw_X l X (jw_g G) A f_V_found 4 [some (jw_a G 0), some (.int x1), some (.int (x2 + 1)), some (.int (x3 + 1))] [] M) ∧ (x2 = x1 → jw_R l X (jw_g G) A f_V_found x3 M)))))))) : jw_X l X (jw_g G) A f_V_found 4 [some (jw_a G 0), some (.int x1), some (.int x2), some (.int x3)] [] M := by
  refine jw_iload_n (i := 3) d_V_found_4 rfl rfl ?_
  refine jw_aload_n (i := 0) d_V_found_5 rfl rfl ?_
  refine jw_get (j := 1) (v := jw_a G 4) d_V_found_6 jw_k0 jw_c_V jw_oc_V (Nat.le_of_ble_eq_true rfl) jw_fl_V_34 rfl rfl ?_
  refine jw_get (j := 4) (v := .int (M 4 4)) d_V_found_9 jw_k4 jw_c_G jw_oc_G (Nat.le_of_ble_eq_true rfl) jw_fl_V_104 rfl rfl ?_
  refine jw_icmp_ge (tgt := 40) d_V_found_12 (by decide) (fun hc => ?_) (fun hc => ?_)
  · have h := h.1 hc
    refine jw_iconst (v := (-1)) d_V_found_40 jc_i_m1 ?_
    exact jw_ireturn d_V_found_41 rfl h
  · have h := h.2 hc
    refine jw_aload_n (i := 0) d_V_found_15 rfl rfl ?_
    refine jw_get (j := 7) (v := jw_a G 35) d_V_found_16 jw_k0 jw_c_V jw_oc_V (Nat.le_of_ble_eq_true rfl) jw_fl_V_58 rfl rfl ?_
    refine jw_iload_n (i := 3) d_V_found_19 rfl rfl ?_
    obtain ⟨j1, hj1, h⟩ := h
    refine jw_zald2 d_V_found_20 jw_k35 (Nat.le_of_ble_eq_true rfl) hj1 ?_
    refine jw_if_eq (tgt := 34) d_V_found_21 (by decide) (fun hc => ?_) (fun hc => ?_)
    · have h := h.1 hc
      refine jw_iinc (d := 1) d_V_found_34 rfl jc_i_1 (Nat.le_of_ble_eq_true rfl) ?_
      refine jw_goto (tgt := 4) d_V_found_37 (by decide) ?_
      exact h
    · have h := h.2 hc
      refine jw_iload_n (i := 2) d_V_found_24 rfl rfl ?_
      refine jw_iload_n (i := 1) d_V_found_25 rfl rfl ?_
      refine jw_icmp_ne (tgt := 31) d_V_found_26 (by decide) (fun hc => ?_) (fun hc => ?_)
      · have h := h.1 hc
        refine jw_iinc (d := 1) d_V_found_31 rfl jc_i_1 (Nat.le_of_ble_eq_true rfl) ?_
        refine jw_iinc (d := 1) d_V_found_34 rfl jc_i_1 (Nat.le_of_ble_eq_true rfl) ?_
        refine jw_goto (tgt := 4) d_V_found_37 (by decide) ?_
        exact h
      · have h := h.2 hc
        refine jw_iload_n (i := 3) d_V_found_29 rfl rfl ?_
        exact jw_ireturn d_V_found_30 rfl h
set_option maxRecDepth 100000 in
theorem e_V_found {l : Launch} {G : jw_G} {A : Nat → Prop} {x1 : Int32} {M : jw_Mem} {Q : Int32 → jw_Mem → Prop} (h : ∀ X : jw_X0, (∀ r M', Q r M' → jw_R l X (jw_g G) A f_V_found r M') → jw_X l X (jw_g G) A f_V_found 4 [some (jw_a G 0), some (.int x1), some (.int 0), some (.int 0)] [] M) : jw_M l (jw_g G) A f_V_found [jw_a G 0, .int x1] M Q := by
  refine jw_M_of (by decide) (Nat.le_of_ble_eq_true rfl) (by intro v hv; simp at hv; rcases hv with rfl | rfl <;> rfl) (fun X hR => ?_)
  exact k_V_found_0  (h X (fun r M' q => hR r M' q (fun ty h0 => by cases h0; rfl)))

set_option maxRecDepth 100000 in
set_option maxHeartbeats 4000000 in
theorem k_V_repaired_0 {l : Launch} {X : jw_X0} {G : jw_G} {A : Nat → Prop}  {M : jw_Mem} (h : jw_R l X (jw_g G) A f_V_repaired (M 0 8) M) : jw_X l X (jw_g G) A f_V_repaired 0 [some (jw_a G 0)] [] M := by
  refine jw_aload_n (i := 0) d_V_repaired_0 rfl rfl ?_
  refine jw_get (j := 8) (v := .int (M 0 8)) d_V_repaired_1 jw_k0 jw_c_V jw_oc_V (Nat.le_of_ble_eq_true rfl) jw_fl_V_144 rfl rfl ?_
  exact jw_ireturn d_V_repaired_4 rfl h
set_option maxRecDepth 100000 in
theorem e_V_repaired {l : Launch} {G : jw_G} {A : Nat → Prop}  {M : jw_Mem} {Q : Int32 → jw_Mem → Prop} (h : ∀ X : jw_X0, (∀ r M', Q r M' → jw_R l X (jw_g G) A f_V_repaired r M') → jw_R l X (jw_g G) A f_V_repaired (M 0 8) M) : jw_M l (jw_g G) A f_V_repaired [jw_a G 0] M Q := by
  refine jw_M_of (by decide) (Nat.le_of_ble_eq_true rfl) (by intro v hv; simp at hv; rcases hv with rfl <;> rfl) (fun X hR => ?_)
  exact k_V_repaired_0  (h X (fun r M' q => hR r M' q (fun ty h0 => by cases h0; rfl)))

set_option maxRecDepth 100000 in
set_option maxHeartbeats 4000000 in
theorem k_V_handOver_0 {l : Launch} {X : jw_X0} {G : jw_G} {A : Nat → Prop} {x1 : Int32} {M : jw_Mem} (h : jw_M l (jw_g G) A f_V_isNode [.int x1] M (fun r1 M1 => ((¬ r1 = 0 → (∃ a1 : Nat, (a1 < 5 ∧ x1 = nI a1) ∧ ((¬ (M1 (10 + 3 * a1) 3) = 0 → jw_M l (jw_g G) A f_V_handOverHints [jw_a G 0, .int x1] M1 (fun r2 M2 => jw_X l X (jw_g G) A f_V_handOver 32 [some (jw_a G 0), some (.int x1), some (.int r2), some (.int 0)] [] M2)) ∧ ((M1 (10 + 3 * a1) 3) = 0 → jw_R l X (jw_g G) A f_V_handOver (-2) M1)))) ∧ (r1 = 0 → jw_R l X (jw_g G) A f_V_handOver (-1) M1)))) : jw_X l X (jw_g G) A f_V_handOver 0 [some (jw_a G 0), some (.int x1), none, none] [] M := by
  refine jw_iload_n (i := 1) d_V_handOver_0 rfl rfl ?_
  refine jw_callS (As := [.int x1]) (S := []) d_V_handOver_1 jw_ml_V_77 jw_st_f_V_isNode ⟨Nat.le_of_ble_eq_true rfl, Nat.le_of_ble_eq_true rfl⟩ rfl rfl (Nat.le_of_ble_eq_true rfl) (jw_M_mono h (fun r1 M1 h => ?_))
  refine jw_st (S' := [.int r1]) rfl ?_
  refine jw_if_ne (tgt := 9) d_V_handOver_4 (by decide) (fun hc => ?_) (fun hc => ?_)
  · have h := h.1 hc
    refine jw_aload_n (i := 0) d_V_handOver_9 rfl rfl ?_
    refine jw_get (j := 2) (v := jw_a G 9) d_V_handOver_10 jw_k0 jw_c_V jw_oc_V (Nat.le_of_ble_eq_true rfl) jw_fl_V_40 rfl rfl ?_
    refine jw_iload_n (i := 1) d_V_handOver_13 rfl rfl ?_
    obtain ⟨a1, ha1, h⟩ := h
    refine jw_aaldN d_V_handOver_14 ha1 ?_
    refine jw_get (j := 3) (v := .int (M1 (10 + 3 * a1) 3)) d_V_handOver_15 (jw_kN ha1.1) jw_c_N jw_oc_N (Nat.le_of_ble_eq_true rfl) jw_fl_V_87 rfl rfl ?_
    refine jw_if_ne (tgt := 24) d_V_handOver_18 (by decide) (fun hc => ?_) (fun hc => ?_)
    · have h := h.1 hc
      refine jw_aload_n (i := 0) d_V_handOver_24 rfl rfl ?_
      refine jw_iload_n (i := 1) d_V_handOver_25 rfl rfl ?_
      refine jw_callV (As := [.int x1]) (S := []) d_V_handOver_26 jw_k0 jw_c_V jw_ml_V_154 jw_in_f_V_handOverHints jw_se_f_V_handOverHints ⟨Nat.le_of_ble_eq_true rfl, Nat.le_of_ble_eq_true rfl⟩ rfl rfl (Nat.le_of_ble_eq_true rfl) (jw_M_mono h (fun r2 M2 h => ?_))
      refine jw_st (S' := [.int r2]) rfl ?_
      refine jw_istore_n (i := 2) d_V_handOver_29 rfl (Nat.le_of_ble_eq_true rfl) ?_
      refine jw_iconst (v := 0) d_V_handOver_30 jc_i_0 ?_
      refine jw_istore_n (i := 3) d_V_handOver_31 rfl (Nat.le_of_ble_eq_true rfl) ?_
      exact h
    · have h := h.2 hc
      refine jw_bipush (v := (-2)) d_V_handOver_21 jc_b_m2 ?_
      exact jw_ireturn d_V_handOver_23 rfl h
  · have h := h.2 hc
    refine jw_iconst (v := (-1)) d_V_handOver_7 jc_i_m1 ?_
    exact jw_ireturn d_V_handOver_8 rfl h
set_option maxRecDepth 100000 in
set_option maxHeartbeats 4000000 in
theorem k_V_handOver_32 {l : Launch} {X : jw_X0} {G : jw_G} {A : Nat → Prop} {x1 x2 x3 : Int32} {M : jw_Mem} (h : ((32 ≤ x3 → jw_R l X (jw_g G) A f_V_handOver x2 M) ∧ (¬ 32 ≤ x3 → jw_M l (jw_g G) A f_V_handOverKey [jw_a G 0, .int x1, .int x3] M (fun r1 M1 => jw_X l X (jw_g G) A f_V_handOver 32 [some (jw_a G 0), some (.int x1), some (.int (x2 + r1)), some (.int (x3 + 1))] [] M1)))) : jw_X l X (jw_g G) A f_V_handOver 32 [some (jw_a G 0), some (.int x1), some (.int x2), some (.int x3)] [] M := by
  refine jw_iload_n (i := 3) d_V_handOver_32 rfl rfl ?_
  refine jw_bipush (v := 32) d_V_handOver_33 jc_b_32 ?_
  refine jw_icmp_ge (tgt := 53) d_V_handOver_35 (by decide) (fun hc => ?_) (fun hc => ?_)
  · have h := h.1 hc
    refine jw_iload_n (i := 2) d_V_handOver_53 rfl rfl ?_
    exact jw_ireturn d_V_handOver_54 rfl h
  · have h := h.2 hc
    refine jw_iload_n (i := 2) d_V_handOver_38 rfl rfl ?_
    refine jw_aload_n (i := 0) d_V_handOver_39 rfl rfl ?_
    refine jw_iload_n (i := 1) d_V_handOver_40 rfl rfl ?_
    refine jw_iload_n (i := 3) d_V_handOver_41 rfl rfl ?_
    refine jw_callV (As := [.int x1, .int x3]) (S := [.int x2]) d_V_handOver_42 jw_k0 jw_c_V jw_ml_V_158 jw_in_f_V_handOverKey jw_se_f_V_handOverKey ⟨Nat.le_of_ble_eq_true rfl, Nat.le_of_ble_eq_true rfl⟩ rfl rfl (Nat.le_of_ble_eq_true rfl) (jw_M_mono h (fun r1 M1 h => ?_))
    refine jw_st (S' := [.int r1, .int x2]) rfl ?_
    refine jw_iadd d_V_handOver_45 ?_
    refine jw_istore_n (i := 2) d_V_handOver_46 rfl (Nat.le_of_ble_eq_true rfl) ?_
    refine jw_iinc (d := 1) d_V_handOver_47 rfl jc_i_1 (Nat.le_of_ble_eq_true rfl) ?_
    refine jw_goto (tgt := 32) d_V_handOver_50 (by decide) ?_
    exact h
set_option maxRecDepth 100000 in
theorem e_V_handOver {l : Launch} {G : jw_G} {A : Nat → Prop} {x1 : Int32} {M : jw_Mem} {Q : Int32 → jw_Mem → Prop} (h : ∀ X : jw_X0, (∀ r M', Q r M' → jw_R l X (jw_g G) A f_V_handOver r M') → jw_M l (jw_g G) A f_V_isNode [.int x1] M (fun r1 M1 => ((¬ r1 = 0 → (∃ a1 : Nat, (a1 < 5 ∧ x1 = nI a1) ∧ ((¬ (M1 (10 + 3 * a1) 3) = 0 → jw_M l (jw_g G) A f_V_handOverHints [jw_a G 0, .int x1] M1 (fun r2 M2 => jw_X l X (jw_g G) A f_V_handOver 32 [some (jw_a G 0), some (.int x1), some (.int r2), some (.int 0)] [] M2)) ∧ ((M1 (10 + 3 * a1) 3) = 0 → jw_R l X (jw_g G) A f_V_handOver (-2) M1)))) ∧ (r1 = 0 → jw_R l X (jw_g G) A f_V_handOver (-1) M1)))) : jw_M l (jw_g G) A f_V_handOver [jw_a G 0, .int x1] M Q := by
  refine jw_M_of (by decide) (Nat.le_of_ble_eq_true rfl) (by intro v hv; simp at hv; rcases hv with rfl | rfl <;> rfl) (fun X hR => ?_)
  exact k_V_handOver_0  (h X (fun r M' q => hR r M' q (fun ty h0 => by cases h0; rfl)))

set_option maxRecDepth 100000 in
set_option maxHeartbeats 4000000 in
theorem k_V_compare_0 {l : Launch} {X : jw_X0} {G : jw_G} {A : Nat → Prop} {x1 : Int32} {x2 : Int32} {M : jw_Mem} (h : jw_M l (jw_g G) A f_V_areTwoNodes [.int x1, .int x2] M (fun r1 M1 => ((¬ r1 = 0 → jw_M l (jw_g G) A f_V_reaches [jw_a G 0, .int x1, .int x2] M1 (fun r2 M2 => ((¬ r2 = 0 → jw_X l X (jw_g G) A f_V_compare 24 [some (jw_a G 0), some (.int x1), some (.int x2), some (.int 0)] [] M2) ∧ (r2 = 0 → jw_R l X (jw_g G) A f_V_compare (-2) M2)))) ∧ (r1 = 0 → jw_R l X (jw_g G) A f_V_compare (-1) M1)))) : jw_X l X (jw_g G) A f_V_compare 0 [some (jw_a G 0), some (.int x1), some (.int x2), none] [] M := by
  refine jw_iload_n (i := 1) d_V_compare_0 rfl rfl ?_
  refine jw_iload_n (i := 2) d_V_compare_1 rfl rfl ?_
  refine jw_callS (As := [.int x1, .int x2]) (S := []) d_V_compare_2 jw_ml_V_91 jw_st_f_V_areTwoNodes ⟨Nat.le_of_ble_eq_true rfl, Nat.le_of_ble_eq_true rfl⟩ rfl rfl (Nat.le_of_ble_eq_true rfl) (jw_M_mono h (fun r1 M1 h => ?_))
  refine jw_st (S' := [.int r1]) rfl ?_
  refine jw_if_ne (tgt := 10) d_V_compare_5 (by decide) (fun hc => ?_) (fun hc => ?_)
  · have h := h.1 hc
    refine jw_aload_n (i := 0) d_V_compare_10 rfl rfl ?_
    refine jw_iload_n (i := 1) d_V_compare_11 rfl rfl ?_
    refine jw_iload_n (i := 2) d_V_compare_12 rfl rfl ?_
    refine jw_callV (As := [.int x1, .int x2]) (S := []) d_V_compare_13 jw_k0 jw_c_V jw_ml_V_161 jw_in_f_V_reaches jw_se_f_V_reaches ⟨Nat.le_of_ble_eq_true rfl, Nat.le_of_ble_eq_true rfl⟩ rfl rfl (Nat.le_of_ble_eq_true rfl) (jw_M_mono h (fun r2 M2 h => ?_))
    refine jw_st (S' := [.int r2]) rfl ?_
    refine jw_if_ne (tgt := 22) d_V_compare_16 (by decide) (fun hc => ?_) (fun hc => ?_)
    · have h := h.1 hc
      refine jw_iconst (v := 0) d_V_compare_22 jc_i_0 ?_
      refine jw_istore_n (i := 3) d_V_compare_23 rfl (Nat.le_of_ble_eq_true rfl) ?_
      exact h
    · have h := h.2 hc
      refine jw_bipush (v := (-2)) d_V_compare_19 jc_b_m2 ?_
      exact jw_ireturn d_V_compare_21 rfl h
  · have h := h.2 hc
    refine jw_iconst (v := (-1)) d_V_compare_8 jc_i_m1 ?_
    exact jw_ireturn d_V_compare_9 rfl h
set_option maxRecDepth 100000 in
set_option maxHeartbeats 4000000 in
theorem k_V_compare_24 {l : Launch} {X : jw_X0} {G : jw_G} {A : Nat → Prop} {x1 x2 x3 : Int32} {M : jw_Mem} (h : ((32 ≤ x3 → jw_M l (jw_g G) A f_V_countComparedParts [jw_a G 0] M (fun r1 M1 => jw_R l X (jw_g G) A f_V_compare r1 M1)) ∧ (¬ 32 ≤ x3 → jw_M l (jw_g G) A f_V_share [jw_a G 0, .int x1, .int x2, .int x3] M (fun r2 M2 => ((r2 = 0 → (∃ j1 : Nat, (j1 < 32 ∧ x3 = nI j1) ∧ (∃ j2 : Nat, (j2 < 32 ∧ x3 = nI j2) ∧ ((((jw_U M2 40 j1 0) 40 j2) = 0 → jw_X l X (jw_g G) A f_V_compare 24 [some (jw_a G 0), some (.int x1), some (.int x2), some (.int (x3 + 1))] [] (jw_U M2 40 j1 0)) ∧ (¬ ((jw_U M2 40 j1 0) 40 j2) = 0 → jw_M l (jw_g G) A f_V_exchange [jw_a G 0, .int x1, .int x2, .int x3] (jw_U M2 40 j1 0) (fun _ M3 => jw_X l X (jw_g G) A f_V_compare 24 [some (jw_a G 0), some (.int x1), some (.int x2), some (.int (x3 + 1))] [] M3)))))) ∧ (¬ r2 = 0 → jw_M l (jw_g G) A f_V_differ [jw_a G 0, .int x1, .int x2, .int x3] M2 (fun r4 M4 => ((r4 = 0 → (∃ j3 : Nat, (j3 < 32 ∧ x3 = nI j3) ∧ (∃ j4 : Nat, (j4 < 32 ∧ x3 = nI j4) ∧ ((((jw_U M4 40 j3 0) 40 j4) = 0 → jw_X l X (jw_g G) A f_V_compare 24 [some (jw_a G 0), some (.int x1), some (.int x2), some (.int (x3 + 1))] [] (jw_U M4 40 j3 0)) ∧ (¬ ((jw_U M4 40 j3 0) 40 j4) = 0 → jw_M l (jw_g G) A f_V_exchange [jw_a G 0, .int x1, .int x2, .int x3] (jw_U M4 40 j3 0) (fun _ M5 => jw_X l X (jw_g G) A f_V_compare 24 [some (jw_a G 0), some (.int x1), some (.int x2), some (.int (x3 + 1))] [] M5)))))) ∧ (¬ r4 = 0 → (∃ j5 : Nat, (j5 < 32 ∧ x3 = nI j5) ∧ (∃ j6 : Nat, (j6 < 32 ∧ x3 = nI j6) ∧ ((((jw_U M4 40 j5 1) 40 j6) = 0 → jw_X l X (jw_g G) A f_V_compare 24 [some (jw_a G 0), some (.int x1), some (.int x2), some (.int (x3 + 1))] [] (jw_U M4 40 j5 1)) ∧ (¬ ((jw_U M4 40 j5 1) 40 j6) = 0 → jw_M l (jw_g G) A f_V_exchange [jw_a G 0, .int x1, .int x2, .int x3] (jw_U M4 40 j5 1) (fun _ M6 => jw_X l X (jw_g G) A f_V_compare 24 [some (jw_a G 0), some (.int x1), some (.int x2), some (.int (x3 + 1))] [] M6)))))))))))))) : jw_X l X (jw_g G) A f_V_compare 24 [some (jw_a G 0), some (.int x1), some (.int x2), some (.int x3)] [] M := by
  refine jw_iload_n (i := 3) d_V_compare_24 rfl rfl ?_
  refine jw_bipush (v := 32) d_V_compare_25 jc_b_32 ?_
  refine jw_icmp_ge (tgt := 83) d_V_compare_27 (by decide) (fun hc => ?_) (fun hc => ?_)
  · have h := h.1 hc
    refine jw_aload_n (i := 0) d_V_compare_83 rfl rfl ?_
    refine jw_callV (As := []) (S := []) d_V_compare_84 jw_k0 jw_c_V jw_ml_V_175 jw_in_f_V_countComparedParts jw_se_f_V_countComparedParts ⟨Nat.le_of_ble_eq_true rfl, Nat.le_of_ble_eq_true rfl⟩ rfl rfl (Nat.le_of_ble_eq_true rfl) (jw_M_mono h (fun r1 M1 h => ?_))
    refine jw_st (S' := [.int r1]) rfl ?_
    exact jw_ireturn d_V_compare_87 rfl h
  · have h := h.2 hc
    refine jw_aload_n (i := 0) d_V_compare_30 rfl rfl ?_
    refine jw_get (j := 15) (v := jw_a G 40) d_V_compare_31 jw_k0 jw_c_V jw_oc_V (Nat.le_of_ble_eq_true rfl) jw_fl_V_74 rfl rfl ?_
    refine jw_iload_n (i := 3) d_V_compare_34 rfl rfl ?_
    refine jw_aload_n (i := 0) d_V_compare_35 rfl rfl ?_
    refine jw_iload_n (i := 1) d_V_compare_36 rfl rfl ?_
    refine jw_iload_n (i := 2) d_V_compare_37 rfl rfl ?_
    refine jw_iload_n (i := 3) d_V_compare_38 rfl rfl ?_
    refine jw_callV (As := [.int x1, .int x2, .int x3]) (S := [.int x3, jw_a G 40]) d_V_compare_39 jw_k0 jw_c_V jw_ml_V_164 jw_in_f_V_share jw_se_f_V_share ⟨Nat.le_of_ble_eq_true rfl, Nat.le_of_ble_eq_true rfl⟩ rfl rfl (Nat.le_of_ble_eq_true rfl) (jw_M_mono h (fun r2 M2 h => ?_))
    refine jw_st (S' := [.int r2, .int x3, jw_a G 40]) rfl ?_
    refine jw_if_eq (tgt := 59) d_V_compare_42 (by decide) (fun hc => ?_) (fun hc => ?_)
    · have h := h.1 hc
      refine jw_iconst (v := 0) d_V_compare_59 jc_i_0 ?_
      obtain ⟨j1, hj1, h⟩ := h
      refine jw_zast2 d_V_compare_60 jw_k40 (Nat.le_of_ble_eq_true rfl) hj1 jw_b0 ?_
      refine jw_aload_n (i := 0) d_V_compare_61 rfl rfl ?_
      refine jw_get (j := 15) (v := jw_a G 40) d_V_compare_62 jw_k0 jw_c_V jw_oc_V (Nat.le_of_ble_eq_true rfl) jw_fl_V_74 rfl rfl ?_
      refine jw_iload_n (i := 3) d_V_compare_65 rfl rfl ?_
      obtain ⟨j2, hj2, h⟩ := h
      refine jw_zald2 d_V_compare_66 jw_k40 (Nat.le_of_ble_eq_true rfl) hj2 ?_
      refine jw_if_eq (tgt := 77) d_V_compare_67 (by decide) (fun hc => ?_) (fun hc => ?_)
      · have h := h.1 hc
        refine jw_iinc (d := 1) d_V_compare_77 rfl jc_i_1 (Nat.le_of_ble_eq_true rfl) ?_
        refine jw_goto (tgt := 24) d_V_compare_80 (by decide) ?_
        exact h
      · have h := h.2 hc
        refine jw_aload_n (i := 0) d_V_compare_70 rfl rfl ?_
        refine jw_iload_n (i := 1) d_V_compare_71 rfl rfl ?_
        refine jw_iload_n (i := 2) d_V_compare_72 rfl rfl ?_
        refine jw_iload_n (i := 3) d_V_compare_73 rfl rfl ?_
        refine jw_callV (As := [.int x1, .int x2, .int x3]) (S := []) d_V_compare_74 jw_k0 jw_c_V jw_ml_V_171 jw_in_f_V_exchange jw_se_f_V_exchange ⟨Nat.le_of_ble_eq_true rfl, Nat.le_of_ble_eq_true rfl⟩ rfl rfl (Nat.le_of_ble_eq_true rfl) (jw_M_mono h (fun r3 M3 h => ?_))
        refine jw_st (S' := []) rfl ?_
        refine jw_iinc (d := 1) d_V_compare_77 rfl jc_i_1 (Nat.le_of_ble_eq_true rfl) ?_
        refine jw_goto (tgt := 24) d_V_compare_80 (by decide) ?_
        exact h
    · have h := h.2 hc
      refine jw_aload_n (i := 0) d_V_compare_45 rfl rfl ?_
      refine jw_iload_n (i := 1) d_V_compare_46 rfl rfl ?_
      refine jw_iload_n (i := 2) d_V_compare_47 rfl rfl ?_
      refine jw_iload_n (i := 3) d_V_compare_48 rfl rfl ?_
      refine jw_callV (As := [.int x1, .int x2, .int x3]) (S := [.int x3, jw_a G 40]) d_V_compare_49 jw_k0 jw_c_V jw_ml_V_168 jw_in_f_V_differ jw_se_f_V_differ ⟨Nat.le_of_ble_eq_true rfl, Nat.le_of_ble_eq_true rfl⟩ rfl rfl (Nat.le_of_ble_eq_true rfl) (jw_M_mono h (fun r4 M4 h => ?_))
      refine jw_st (S' := [.int r4, .int x3, jw_a G 40]) rfl ?_
      refine jw_if_eq (tgt := 59) d_V_compare_52 (by decide) (fun hc => ?_) (fun hc => ?_)
      · have h := h.1 hc
        refine jw_iconst (v := 0) d_V_compare_59 jc_i_0 ?_
        obtain ⟨j3, hj3, h⟩ := h
        refine jw_zast2 d_V_compare_60 jw_k40 (Nat.le_of_ble_eq_true rfl) hj3 jw_b0 ?_
        refine jw_aload_n (i := 0) d_V_compare_61 rfl rfl ?_
        refine jw_get (j := 15) (v := jw_a G 40) d_V_compare_62 jw_k0 jw_c_V jw_oc_V (Nat.le_of_ble_eq_true rfl) jw_fl_V_74 rfl rfl ?_
        refine jw_iload_n (i := 3) d_V_compare_65 rfl rfl ?_
        obtain ⟨j4, hj4, h⟩ := h
        refine jw_zald2 d_V_compare_66 jw_k40 (Nat.le_of_ble_eq_true rfl) hj4 ?_
        refine jw_if_eq (tgt := 77) d_V_compare_67 (by decide) (fun hc => ?_) (fun hc => ?_)
        · have h := h.1 hc
          refine jw_iinc (d := 1) d_V_compare_77 rfl jc_i_1 (Nat.le_of_ble_eq_true rfl) ?_
          refine jw_goto (tgt := 24) d_V_compare_80 (by decide) ?_
          exact h
        · have h := h.2 hc
          refine jw_aload_n (i := 0) d_V_compare_70 rfl rfl ?_
          refine jw_iload_n (i := 1) d_V_compare_71 rfl rfl ?_
          refine jw_iload_n (i := 2) d_V_compare_72 rfl rfl ?_
          refine jw_iload_n (i := 3) d_V_compare_73 rfl rfl ?_
          refine jw_callV (As := [.int x1, .int x2, .int x3]) (S := []) d_V_compare_74 jw_k0 jw_c_V jw_ml_V_171 jw_in_f_V_exchange jw_se_f_V_exchange ⟨Nat.le_of_ble_eq_true rfl, Nat.le_of_ble_eq_true rfl⟩ rfl rfl (Nat.le_of_ble_eq_true rfl) (jw_M_mono h (fun r5 M5 h => ?_))
          refine jw_st (S' := []) rfl ?_
          refine jw_iinc (d := 1) d_V_compare_77 rfl jc_i_1 (Nat.le_of_ble_eq_true rfl) ?_
          refine jw_goto (tgt := 24) d_V_compare_80 (by decide) ?_
          exact h
      · have h := h.2 hc
        refine jw_iconst (v := 1) d_V_compare_55 jc_i_1 ?_
        refine jw_goto (tgt := 60) d_V_compare_56 (by decide) ?_
        obtain ⟨j5, hj5, h⟩ := h
        refine jw_zast2 d_V_compare_60 jw_k40 (Nat.le_of_ble_eq_true rfl) hj5 jw_b1 ?_
        refine jw_aload_n (i := 0) d_V_compare_61 rfl rfl ?_
        refine jw_get (j := 15) (v := jw_a G 40) d_V_compare_62 jw_k0 jw_c_V jw_oc_V (Nat.le_of_ble_eq_true rfl) jw_fl_V_74 rfl rfl ?_
        refine jw_iload_n (i := 3) d_V_compare_65 rfl rfl ?_
        obtain ⟨j6, hj6, h⟩ := h
        refine jw_zald2 d_V_compare_66 jw_k40 (Nat.le_of_ble_eq_true rfl) hj6 ?_
        refine jw_if_eq (tgt := 77) d_V_compare_67 (by decide) (fun hc => ?_) (fun hc => ?_)
        · have h := h.1 hc
          refine jw_iinc (d := 1) d_V_compare_77 rfl jc_i_1 (Nat.le_of_ble_eq_true rfl) ?_
          refine jw_goto (tgt := 24) d_V_compare_80 (by decide) ?_
          exact h
        · have h := h.2 hc
          refine jw_aload_n (i := 0) d_V_compare_70 rfl rfl ?_
          refine jw_iload_n (i := 1) d_V_compare_71 rfl rfl ?_
          refine jw_iload_n (i := 2) d_V_compare_72 rfl rfl ?_
          refine jw_iload_n (i := 3) d_V_compare_73 rfl rfl ?_
          refine jw_callV (As := [.int x1, .int x2, .int x3]) (S := []) d_V_compare_74 jw_k0 jw_c_V jw_ml_V_171 jw_in_f_V_exchange jw_se_f_V_exchange ⟨Nat.le_of_ble_eq_true rfl, Nat.le_of_ble_eq_true rfl⟩ rfl rfl (Nat.le_of_ble_eq_true rfl) (jw_M_mono h (fun r6 M6 h => ?_))
          refine jw_st (S' := []) rfl ?_
          refine jw_iinc (d := 1) d_V_compare_77 rfl jc_i_1 (Nat.le_of_ble_eq_true rfl) ?_
          refine jw_goto (tgt := 24) d_V_compare_80 (by decide) ?_
          exact h
set_option maxRecDepth 100000 in
theorem e_V_compare {l : Launch} {G : jw_G} {A : Nat → Prop} {x1 : Int32} {x2 : Int32} {M : jw_Mem} {Q : Int32 → jw_Mem → Prop} (h : ∀ X : jw_X0, (∀ r M', Q r M' → jw_R l X (jw_g G) A f_V_compare r M') → jw_M l (jw_g G) A f_V_areTwoNodes [.int x1, .int x2] M (fun r1 M1 => ((¬ r1 = 0 → jw_M l (jw_g G) A f_V_reaches [jw_a G 0, .int x1, .int x2] M1 (fun r2 M2 => ((¬ r2 = 0 → jw_X l X (jw_g G) A f_V_compare 24 [some (jw_a G 0), some (.int x1), some (.int x2), some (.int 0)] [] M2) ∧ (r2 = 0 → jw_R l X (jw_g G) A f_V_compare (-2) M2)))) ∧ (r1 = 0 → jw_R l X (jw_g G) A f_V_compare (-1) M1)))) : jw_M l (jw_g G) A f_V_compare [jw_a G 0, .int x1, .int x2] M Q := by
  refine jw_M_of (by decide) (Nat.le_of_ble_eq_true rfl) (by intro v hv; simp at hv; rcases hv with rfl | rfl | rfl <;> rfl) (fun X hR => ?_)
  exact k_V_compare_0  (h X (fun r M' q => hR r M' q (fun ty h0 => by cases h0; rfl)))

set_option maxRecDepth 100000 in
set_option maxHeartbeats 4000000 in
theorem k_V_home_0 {l : Launch} {X : jw_X0} {G : jw_G} {A : Nat → Prop} {x1 : Int32} {x2 : Int32} {M : jw_Mem} (h : jw_M l (jw_g G) A f_V_isKey [.int x1] M (fun r1 M1 => ((r1 = 0 → jw_R l X (jw_g G) A f_V_home (-1) M1) ∧ (¬ r1 = 0 → ((0 ≤ x2 → jw_M l (jw_g G) A f_R_lookUp [jw_a G 1, .int x1] M1 (fun _ M2 => (((M2 1 4) ≤ x2 → jw_R l X (jw_g G) A f_V_home (-1) M2) ∧ (¬ (M2 1 4) ≤ x2 → (∃ j1 : Nat, (j1 < 5 ∧ x2 = nI j1) ∧ jw_R l X (jw_g G) A f_V_home (M2 3 j1) M2))))) ∧ (¬ 0 ≤ x2 → jw_R l X (jw_g G) A f_V_home (-1) M1)))))) : jw_X l X (jw_g G) A f_V_home 0 [some (jw_a G 0), some (.int x1), some (.int x2)] [] M := by
  refine jw_iload_n (i := 1) d_V_home_0 rfl rfl ?_
  refine jw_callS (As := [.int x1]) (S := []) d_V_home_1 jw_ml_V_98 jw_st_f_V_isKey ⟨Nat.le_of_ble_eq_true rfl, Nat.le_of_ble_eq_true rfl⟩ rfl rfl (Nat.le_of_ble_eq_true rfl) (jw_M_mono h (fun r1 M1 h => ?_))
  refine jw_st (S' := [.int r1]) rfl ?_
  refine jw_if_eq (tgt := 11) d_V_home_4 (by decide) (fun hc => ?_) (fun hc => ?_)
  · have h := h.1 hc
    refine jw_iconst (v := (-1)) d_V_home_11 jc_i_m1 ?_
    exact jw_ireturn d_V_home_12 rfl h
  · have h := h.2 hc
    refine jw_iload_n (i := 2) d_V_home_7 rfl rfl ?_
    refine jw_if_ge (tgt := 13) d_V_home_8 (by decide) (fun hc => ?_) (fun hc => ?_)
    · have h := h.1 hc
      refine jw_aload_n (i := 0) d_V_home_13 rfl rfl ?_
      refine jw_get (j := 0) (v := jw_a G 1) d_V_home_14 jw_k0 jw_c_V jw_oc_V (Nat.le_of_ble_eq_true rfl) jw_fl_V_18 rfl rfl ?_
      refine jw_iload_n (i := 1) d_V_home_17 rfl rfl ?_
      refine jw_callV (As := [.int x1]) (S := []) d_V_home_18 jw_k1 jw_c_R jw_ml_V_178 jw_in_f_R_lookUp jw_se_f_R_lookUp ⟨Nat.le_of_ble_eq_true rfl, Nat.le_of_ble_eq_true rfl⟩ rfl rfl (Nat.le_of_ble_eq_true rfl) (jw_M_mono h (fun r2 M2 h => ?_))
      refine jw_st (S' := []) rfl ?_
      refine jw_iload_n (i := 2) d_V_home_21 rfl rfl ?_
      refine jw_aload_n (i := 0) d_V_home_22 rfl rfl ?_
      refine jw_get (j := 0) (v := jw_a G 1) d_V_home_23 jw_k0 jw_c_V jw_oc_V (Nat.le_of_ble_eq_true rfl) jw_fl_V_18 rfl rfl ?_
      refine jw_get (j := 4) (v := .int (M2 1 4)) d_V_home_26 jw_k1 jw_c_R jw_oc_R (Nat.le_of_ble_eq_true rfl) jw_fl_V_181 rfl rfl ?_
      refine jw_icmp_ge (tgt := 44) d_V_home_29 (by decide) (fun hc => ?_) (fun hc => ?_)
      · have h := h.1 hc
        refine jw_iconst (v := (-1)) d_V_home_44 jc_i_m1 ?_
        exact jw_ireturn d_V_home_45 rfl h
      · have h := h.2 hc
        refine jw_aload_n (i := 0) d_V_home_32 rfl rfl ?_
        refine jw_get (j := 0) (v := jw_a G 1) d_V_home_33 jw_k0 jw_c_V jw_oc_V (Nat.le_of_ble_eq_true rfl) jw_fl_V_18 rfl rfl ?_
        refine jw_get (j := 2) (v := jw_a G 3) d_V_home_36 jw_k1 jw_c_R jw_oc_R (Nat.le_of_ble_eq_true rfl) jw_fl_V_184 rfl rfl ?_
        refine jw_iload_n (i := 2) d_V_home_39 rfl rfl ?_
        obtain ⟨j1, hj1, h⟩ := h
        refine jw_iald2 d_V_home_40 jw_k3 (Nat.le_of_ble_eq_true rfl) hj1 ?_
        refine jw_goto (tgt := 45) d_V_home_41 (by decide) ?_
        exact jw_ireturn d_V_home_45 rfl h
    · have h := h.2 hc
      refine jw_iconst (v := (-1)) d_V_home_11 jc_i_m1 ?_
      exact jw_ireturn d_V_home_12 rfl h
set_option maxRecDepth 100000 in
theorem e_V_home {l : Launch} {G : jw_G} {A : Nat → Prop} {x1 : Int32} {x2 : Int32} {M : jw_Mem} {Q : Int32 → jw_Mem → Prop} (h : ∀ X : jw_X0, (∀ r M', Q r M' → jw_R l X (jw_g G) A f_V_home r M') → jw_M l (jw_g G) A f_V_isKey [.int x1] M (fun r1 M1 => ((r1 = 0 → jw_R l X (jw_g G) A f_V_home (-1) M1) ∧ (¬ r1 = 0 → ((0 ≤ x2 → jw_M l (jw_g G) A f_R_lookUp [jw_a G 1, .int x1] M1 (fun _ M2 => (((M2 1 4) ≤ x2 → jw_R l X (jw_g G) A f_V_home (-1) M2) ∧ (¬ (M2 1 4) ≤ x2 → (∃ j1 : Nat, (j1 < 5 ∧ x2 = nI j1) ∧ jw_R l X (jw_g G) A f_V_home (M2 3 j1) M2))))) ∧ (¬ 0 ≤ x2 → jw_R l X (jw_g G) A f_V_home (-1) M1)))))) : jw_M l (jw_g G) A f_V_home [jw_a G 0, .int x1, .int x2] M Q := by
  refine jw_M_of (by decide) (Nat.le_of_ble_eq_true rfl) (by intro v hv; simp at hv; rcases hv with rfl | rfl | rfl <;> rfl) (fun X hR => ?_)
  exact k_V_home_0  (h X (fun r M' q => hR r M' q (fun ty h0 => by cases h0; rfl)))

set_option maxRecDepth 100000 in
set_option maxHeartbeats 4000000 in
theorem k_V_targets_0 {l : Launch} {X : jw_X0} {G : jw_G} {A : Nat → Prop} {x1 : Int32} {x2 : Int32} {M : jw_Mem} (h : jw_M l (jw_g G) A f_V_isNode [.int x1] M (fun r1 M1 => ((r1 = 0 → jw_R l X (jw_g G) A f_V_targets 0 M1) ∧ (¬ r1 = 0 → jw_M l (jw_g G) A f_V_isKey [.int x2] M1 (fun r2 M2 => ((¬ r2 = 0 → jw_M l (jw_g G) A f_V_aim [jw_a G 0, .int x1, .int x2] M2 (fun _ M3 => jw_R l X (jw_g G) A f_V_targets (M3 0 10) M3)) ∧ (r2 = 0 → jw_R l X (jw_g G) A f_V_targets 0 M2))))))) : jw_X l X (jw_g G) A f_V_targets 0 [some (jw_a G 0), some (.int x1), some (.int x2)] [] M := by
  refine jw_iload_n (i := 1) d_V_targets_0 rfl rfl ?_
  refine jw_callS (As := [.int x1]) (S := []) d_V_targets_1 jw_ml_V_77 jw_st_f_V_isNode ⟨Nat.le_of_ble_eq_true rfl, Nat.le_of_ble_eq_true rfl⟩ rfl rfl (Nat.le_of_ble_eq_true rfl) (jw_M_mono h (fun r1 M1 h => ?_))
  refine jw_st (S' := [.int r1]) rfl ?_
  refine jw_if_eq (tgt := 14) d_V_targets_4 (by decide) (fun hc => ?_) (fun hc => ?_)
  · have h := h.1 hc
    refine jw_iconst (v := 0) d_V_targets_14 jc_i_0 ?_
    exact jw_ireturn d_V_targets_15 rfl h
  · have h := h.2 hc
    refine jw_iload_n (i := 2) d_V_targets_7 rfl rfl ?_
    refine jw_callS (As := [.int x2]) (S := []) d_V_targets_8 jw_ml_V_98 jw_st_f_V_isKey ⟨Nat.le_of_ble_eq_true rfl, Nat.le_of_ble_eq_true rfl⟩ rfl rfl (Nat.le_of_ble_eq_true rfl) (jw_M_mono h (fun r2 M2 h => ?_))
    refine jw_st (S' := [.int r2]) rfl ?_
    refine jw_if_ne (tgt := 16) d_V_targets_11 (by decide) (fun hc => ?_) (fun hc => ?_)
    · have h := h.1 hc
      refine jw_aload_n (i := 0) d_V_targets_16 rfl rfl ?_
      refine jw_iload_n (i := 1) d_V_targets_17 rfl rfl ?_
      refine jw_iload_n (i := 2) d_V_targets_18 rfl rfl ?_
      refine jw_callV (As := [.int x1, .int x2]) (S := []) d_V_targets_19 jw_k0 jw_c_V jw_ml_V_107 jw_in_f_V_aim jw_se_f_V_aim ⟨Nat.le_of_ble_eq_true rfl, Nat.le_of_ble_eq_true rfl⟩ rfl rfl (Nat.le_of_ble_eq_true rfl) (jw_M_mono h (fun r3 M3 h => ?_))
      refine jw_st (S' := []) rfl ?_
      refine jw_aload_n (i := 0) d_V_targets_22 rfl rfl ?_
      refine jw_get (j := 10) (v := .int (M3 0 10)) d_V_targets_23 jw_k0 jw_c_V jw_oc_V (Nat.le_of_ble_eq_true rfl) jw_fl_V_111 rfl rfl ?_
      exact jw_ireturn d_V_targets_26 rfl h
    · have h := h.2 hc
      refine jw_iconst (v := 0) d_V_targets_14 jc_i_0 ?_
      exact jw_ireturn d_V_targets_15 rfl h
set_option maxRecDepth 100000 in
theorem e_V_targets {l : Launch} {G : jw_G} {A : Nat → Prop} {x1 : Int32} {x2 : Int32} {M : jw_Mem} {Q : Int32 → jw_Mem → Prop} (h : ∀ X : jw_X0, (∀ r M', Q r M' → jw_R l X (jw_g G) A f_V_targets r M') → jw_M l (jw_g G) A f_V_isNode [.int x1] M (fun r1 M1 => ((r1 = 0 → jw_R l X (jw_g G) A f_V_targets 0 M1) ∧ (¬ r1 = 0 → jw_M l (jw_g G) A f_V_isKey [.int x2] M1 (fun r2 M2 => ((¬ r2 = 0 → jw_M l (jw_g G) A f_V_aim [jw_a G 0, .int x1, .int x2] M2 (fun _ M3 => jw_R l X (jw_g G) A f_V_targets (M3 0 10) M3)) ∧ (r2 = 0 → jw_R l X (jw_g G) A f_V_targets 0 M2))))))) : jw_M l (jw_g G) A f_V_targets [jw_a G 0, .int x1, .int x2] M Q := by
  refine jw_M_of (by decide) (Nat.le_of_ble_eq_true rfl) (by intro v hv; simp at hv; rcases hv with rfl | rfl | rfl <;> rfl) (fun X hR => ?_)
  exact k_V_targets_0  (h X (fun r M' q => hR r M' q (fun ty h0 => by cases h0; rfl)))

set_option maxRecDepth 100000 in
set_option maxHeartbeats 4000000 in
theorem k_V_holds_0 {l : Launch} {X : jw_X0} {G : jw_G} {A : Nat → Prop} {x1 : Int32} {x2 : Int32} {M : jw_Mem} (h : jw_M l (jw_g G) A f_V_isNode [.int x1] M (fun r1 M1 => ((r1 = 0 → jw_R l X (jw_g G) A f_V_holds (-1) M1) ∧ (¬ r1 = 0 → jw_M l (jw_g G) A f_G_isMade [jw_a G 4, .int x2] M1 (fun r2 M2 => ((¬ r2 = 0 → (∃ a1 : Nat, (a1 < 5 ∧ x1 = nI a1) ∧ (∃ j1 : Nat, (j1 < 40 ∧ x2 = nI j1) ∧ (((M2 (11 + 3 * a1) j1) = 0 → (∃ a2 : Nat, (a2 < 5 ∧ x1 = nI a2) ∧ jw_M l (jw_g G) A f_N_hasHintOf [jw_a G (10 + 3 * a2), .int x2] M2 (fun r3 M3 => ((r3 = 0 → jw_R l X (jw_g G) A f_V_holds (0 + 0) M3) ∧ (¬ r3 = 0 → jw_R l X (jw_g G) A f_V_holds (0 + 2) M3))))) ∧ (¬ (M2 (11 + 3 * a1) j1) = 0 → (∃ a3 : Nat, (a3 < 5 ∧ x1 = nI a3) ∧ jw_M l (jw_g G) A f_N_hasHintOf [jw_a G (10 + 3 * a3), .int x2] M2 (fun r4 M4 => ((r4 = 0 → jw_R l X (jw_g G) A f_V_holds (1 + 0) M4) ∧ (¬ r4 = 0 → jw_R l X (jw_g G) A f_V_holds (1 + 2) M4))))))))) ∧ (r2 = 0 → jw_R l X (jw_g G) A f_V_holds (-1) M2))))))) : jw_X l X (jw_g G) A f_V_holds 0 [some (jw_a G 0), some (.int x1), some (.int x2), none, none] [] M := by
  refine jw_iload_n (i := 1) d_V_holds_0 rfl rfl ?_
  refine jw_callS (As := [.int x1]) (S := []) d_V_holds_1 jw_ml_V_77 jw_st_f_V_isNode ⟨Nat.le_of_ble_eq_true rfl, Nat.le_of_ble_eq_true rfl⟩ rfl rfl (Nat.le_of_ble_eq_true rfl) (jw_M_mono h (fun r1 M1 h => ?_))
  refine jw_st (S' := [.int r1]) rfl ?_
  refine jw_if_eq (tgt := 18) d_V_holds_4 (by decide) (fun hc => ?_) (fun hc => ?_)
  · have h := h.1 hc
    refine jw_iconst (v := (-1)) d_V_holds_18 jc_i_m1 ?_
    exact jw_ireturn d_V_holds_19 rfl h
  · have h := h.2 hc
    refine jw_aload_n (i := 0) d_V_holds_7 rfl rfl ?_
    refine jw_get (j := 1) (v := jw_a G 4) d_V_holds_8 jw_k0 jw_c_V jw_oc_V (Nat.le_of_ble_eq_true rfl) jw_fl_V_34 rfl rfl ?_
    refine jw_iload_n (i := 2) d_V_holds_11 rfl rfl ?_
    refine jw_callV (As := [.int x2]) (S := []) d_V_holds_12 jw_k4 jw_c_G jw_ml_V_187 jw_in_f_G_isMade jw_se_f_G_isMade ⟨Nat.le_of_ble_eq_true rfl, Nat.le_of_ble_eq_true rfl⟩ rfl rfl (Nat.le_of_ble_eq_true rfl) (jw_M_mono h (fun r2 M2 h => ?_))
    refine jw_st (S' := [.int r2]) rfl ?_
    refine jw_if_ne (tgt := 20) d_V_holds_15 (by decide) (fun hc => ?_) (fun hc => ?_)
    · have h := h.1 hc
      refine jw_aload_n (i := 0) d_V_holds_20 rfl rfl ?_
      refine jw_get (j := 2) (v := jw_a G 9) d_V_holds_21 jw_k0 jw_c_V jw_oc_V (Nat.le_of_ble_eq_true rfl) jw_fl_V_40 rfl rfl ?_
      refine jw_iload_n (i := 1) d_V_holds_24 rfl rfl ?_
      obtain ⟨a1, ha1, h⟩ := h
      refine jw_aaldN d_V_holds_25 ha1 ?_
      refine jw_get (j := 1) (v := jw_a G (11 + 3 * a1)) d_V_holds_26 (jw_kN ha1.1) jw_c_N jw_oc_N (Nat.le_of_ble_eq_true rfl) jw_fl_V_190 rfl rfl ?_
      refine jw_iload_n (i := 2) d_V_holds_29 rfl rfl ?_
      obtain ⟨j1, hj1, h⟩ := h
      refine jw_zald2 d_V_holds_30 (jw_kH ha1.1) (Nat.le_of_ble_eq_true rfl) hj1 ?_
      refine jw_if_eq (tgt := 38) d_V_holds_31 (by decide) (fun hc => ?_) (fun hc => ?_)
      · have h := h.1 hc
        refine jw_iconst (v := 0) d_V_holds_38 jc_i_0 ?_
        refine jw_istore_n (i := 3) d_V_holds_39 rfl (Nat.le_of_ble_eq_true rfl) ?_
        refine jw_aload_n (i := 0) d_V_holds_40 rfl rfl ?_
        refine jw_get (j := 2) (v := jw_a G 9) d_V_holds_41 jw_k0 jw_c_V jw_oc_V (Nat.le_of_ble_eq_true rfl) jw_fl_V_40 rfl rfl ?_
        refine jw_iload_n (i := 1) d_V_holds_44 rfl rfl ?_
        obtain ⟨a2, ha2, h⟩ := h
        refine jw_aaldN d_V_holds_45 ha2 ?_
        refine jw_iload_n (i := 2) d_V_holds_46 rfl rfl ?_
        refine jw_callV (As := [.int x2]) (S := []) d_V_holds_47 (jw_kN ha2.1) jw_c_N jw_ml_V_193 jw_in_f_N_hasHintOf jw_se_f_N_hasHintOf ⟨Nat.le_of_ble_eq_true rfl, Nat.le_of_ble_eq_true rfl⟩ rfl rfl (Nat.le_of_ble_eq_true rfl) (jw_M_mono h (fun r3 M3 h => ?_))
        refine jw_st (S' := [.int r3]) rfl ?_
        refine jw_if_eq (tgt := 57) d_V_holds_50 (by decide) (fun hc => ?_) (fun hc => ?_)
        · have h := h.1 hc
          refine jw_iconst (v := 0) d_V_holds_57 jc_i_0 ?_
          refine jw_istore d_V_holds_58 (Nat.le_of_ble_eq_true rfl) ?_
          refine jw_iload_n (i := 3) d_V_holds_60 rfl rfl ?_
          refine jw_iload d_V_holds_61 rfl ?_
          refine jw_iadd d_V_holds_63 ?_
          exact jw_ireturn d_V_holds_64 rfl h
        · have h := h.2 hc
          refine jw_iconst (v := 2) d_V_holds_53 jc_i_2 ?_
          refine jw_goto (tgt := 58) d_V_holds_54 (by decide) ?_
          refine jw_istore d_V_holds_58 (Nat.le_of_ble_eq_true rfl) ?_
          refine jw_iload_n (i := 3) d_V_holds_60 rfl rfl ?_
          refine jw_iload d_V_holds_61 rfl ?_
          refine jw_iadd d_V_holds_63 ?_
          exact jw_ireturn d_V_holds_64 rfl h
      · have h := h.2 hc
        refine jw_iconst (v := 1) d_V_holds_34 jc_i_1 ?_
        refine jw_goto (tgt := 39) d_V_holds_35 (by decide) ?_
        refine jw_istore_n (i := 3) d_V_holds_39 rfl (Nat.le_of_ble_eq_true rfl) ?_
        refine jw_aload_n (i := 0) d_V_holds_40 rfl rfl ?_
        refine jw_get (j := 2) (v := jw_a G 9) d_V_holds_41 jw_k0 jw_c_V jw_oc_V (Nat.le_of_ble_eq_true rfl) jw_fl_V_40 rfl rfl ?_
        refine jw_iload_n (i := 1) d_V_holds_44 rfl rfl ?_
        obtain ⟨a3, ha3, h⟩ := h
        refine jw_aaldN d_V_holds_45 ha3 ?_
        refine jw_iload_n (i := 2) d_V_holds_46 rfl rfl ?_
        refine jw_callV (As := [.int x2]) (S := []) d_V_holds_47 (jw_kN ha3.1) jw_c_N jw_ml_V_193 jw_in_f_N_hasHintOf jw_se_f_N_hasHintOf ⟨Nat.le_of_ble_eq_true rfl, Nat.le_of_ble_eq_true rfl⟩ rfl rfl (Nat.le_of_ble_eq_true rfl) (jw_M_mono h (fun r4 M4 h => ?_))
        refine jw_st (S' := [.int r4]) rfl ?_
        refine jw_if_eq (tgt := 57) d_V_holds_50 (by decide) (fun hc => ?_) (fun hc => ?_)
        · have h := h.1 hc
          refine jw_iconst (v := 0) d_V_holds_57 jc_i_0 ?_
          refine jw_istore d_V_holds_58 (Nat.le_of_ble_eq_true rfl) ?_
          refine jw_iload_n (i := 3) d_V_holds_60 rfl rfl ?_
          refine jw_iload d_V_holds_61 rfl ?_
          refine jw_iadd d_V_holds_63 ?_
          exact jw_ireturn d_V_holds_64 rfl h
        · have h := h.2 hc
          refine jw_iconst (v := 2) d_V_holds_53 jc_i_2 ?_
          refine jw_goto (tgt := 58) d_V_holds_54 (by decide) ?_
          refine jw_istore d_V_holds_58 (Nat.le_of_ble_eq_true rfl) ?_
          refine jw_iload_n (i := 3) d_V_holds_60 rfl rfl ?_
          refine jw_iload d_V_holds_61 rfl ?_
          refine jw_iadd d_V_holds_63 ?_
          exact jw_ireturn d_V_holds_64 rfl h
    · have h := h.2 hc
      refine jw_iconst (v := (-1)) d_V_holds_18 jc_i_m1 ?_
      exact jw_ireturn d_V_holds_19 rfl h
set_option maxRecDepth 100000 in
theorem e_V_holds {l : Launch} {G : jw_G} {A : Nat → Prop} {x1 : Int32} {x2 : Int32} {M : jw_Mem} {Q : Int32 → jw_Mem → Prop} (h : ∀ X : jw_X0, (∀ r M', Q r M' → jw_R l X (jw_g G) A f_V_holds r M') → jw_M l (jw_g G) A f_V_isNode [.int x1] M (fun r1 M1 => ((r1 = 0 → jw_R l X (jw_g G) A f_V_holds (-1) M1) ∧ (¬ r1 = 0 → jw_M l (jw_g G) A f_G_isMade [jw_a G 4, .int x2] M1 (fun r2 M2 => ((¬ r2 = 0 → (∃ a1 : Nat, (a1 < 5 ∧ x1 = nI a1) ∧ (∃ j1 : Nat, (j1 < 40 ∧ x2 = nI j1) ∧ (((M2 (11 + 3 * a1) j1) = 0 → (∃ a2 : Nat, (a2 < 5 ∧ x1 = nI a2) ∧ jw_M l (jw_g G) A f_N_hasHintOf [jw_a G (10 + 3 * a2), .int x2] M2 (fun r3 M3 => ((r3 = 0 → jw_R l X (jw_g G) A f_V_holds (0 + 0) M3) ∧ (¬ r3 = 0 → jw_R l X (jw_g G) A f_V_holds (0 + 2) M3))))) ∧ (¬ (M2 (11 + 3 * a1) j1) = 0 → (∃ a3 : Nat, (a3 < 5 ∧ x1 = nI a3) ∧ jw_M l (jw_g G) A f_N_hasHintOf [jw_a G (10 + 3 * a3), .int x2] M2 (fun r4 M4 => ((r4 = 0 → jw_R l X (jw_g G) A f_V_holds (1 + 0) M4) ∧ (¬ r4 = 0 → jw_R l X (jw_g G) A f_V_holds (1 + 2) M4))))))))) ∧ (r2 = 0 → jw_R l X (jw_g G) A f_V_holds (-1) M2))))))) : jw_M l (jw_g G) A f_V_holds [jw_a G 0, .int x1, .int x2] M Q := by
  refine jw_M_of (by decide) (Nat.le_of_ble_eq_true rfl) (by intro v hv; simp at hv; rcases hv with rfl | rfl | rfl <;> rfl) (fun X hR => ?_)
  exact k_V_holds_0  (h X (fun r M' q => hR r M' q (fun ty h0 => by cases h0; rfl)))

set_option maxRecDepth 100000 in
set_option maxHeartbeats 4000000 in
theorem k_V_count_0 {l : Launch} {X : jw_X0} {G : jw_G} {A : Nat → Prop} {x1 : Int32} {x2 : Int32} {M : jw_Mem} (h : jw_M l (jw_g G) A f_V_isNode [.int x1] M (fun r1 M1 => ((r1 = 0 → jw_R l X (jw_g G) A f_V_count (-1) M1) ∧ (¬ r1 = 0 → jw_M l (jw_g G) A f_V_isKey [.int x2] M1 (fun r2 M2 => ((¬ r2 = 0 → (∃ a1 : Nat, (a1 < 5 ∧ x1 = nI a1) ∧ jw_M l (jw_g G) A f_N_writeOut [jw_a G (10 + 3 * a1), .int x2, jw_a G 38] M2 (fun r3 M3 => jw_R l X (jw_g G) A f_V_count r3 M3))) ∧ (r2 = 0 → jw_R l X (jw_g G) A f_V_count (-1) M2))))))) : jw_X l X (jw_g G) A f_V_count 0 [some (jw_a G 0), some (.int x1), some (.int x2)] [] M := by
  refine jw_iload_n (i := 1) d_V_count_0 rfl rfl ?_
  refine jw_callS (As := [.int x1]) (S := []) d_V_count_1 jw_ml_V_77 jw_st_f_V_isNode ⟨Nat.le_of_ble_eq_true rfl, Nat.le_of_ble_eq_true rfl⟩ rfl rfl (Nat.le_of_ble_eq_true rfl) (jw_M_mono h (fun r1 M1 h => ?_))
  refine jw_st (S' := [.int r1]) rfl ?_
  refine jw_if_eq (tgt := 14) d_V_count_4 (by decide) (fun hc => ?_) (fun hc => ?_)
  · have h := h.1 hc
    refine jw_iconst (v := (-1)) d_V_count_14 jc_i_m1 ?_
    exact jw_ireturn d_V_count_15 rfl h
  · have h := h.2 hc
    refine jw_iload_n (i := 2) d_V_count_7 rfl rfl ?_
    refine jw_callS (As := [.int x2]) (S := []) d_V_count_8 jw_ml_V_98 jw_st_f_V_isKey ⟨Nat.le_of_ble_eq_true rfl, Nat.le_of_ble_eq_true rfl⟩ rfl rfl (Nat.le_of_ble_eq_true rfl) (jw_M_mono h (fun r2 M2 h => ?_))
    refine jw_st (S' := [.int r2]) rfl ?_
    refine jw_if_ne (tgt := 16) d_V_count_11 (by decide) (fun hc => ?_) (fun hc => ?_)
    · have h := h.1 hc
      refine jw_aload_n (i := 0) d_V_count_16 rfl rfl ?_
      refine jw_get (j := 2) (v := jw_a G 9) d_V_count_17 jw_k0 jw_c_V jw_oc_V (Nat.le_of_ble_eq_true rfl) jw_fl_V_40 rfl rfl ?_
      refine jw_iload_n (i := 1) d_V_count_20 rfl rfl ?_
      obtain ⟨a1, ha1, h⟩ := h
      refine jw_aaldN d_V_count_21 ha1 ?_
      refine jw_iload_n (i := 2) d_V_count_22 rfl rfl ?_
      refine jw_aload_n (i := 0) d_V_count_23 rfl rfl ?_
      refine jw_get (j := 13) (v := jw_a G 38) d_V_count_24 jw_k0 jw_c_V jw_oc_V (Nat.le_of_ble_eq_true rfl) jw_fl_V_68 rfl rfl ?_
      refine jw_callV (As := [.int x2, jw_a G 38]) (S := []) d_V_count_27 (jw_kN ha1.1) jw_c_N jw_ml_V_196 jw_in_f_N_writeOut jw_se_f_N_writeOut ⟨Nat.le_of_ble_eq_true rfl, Nat.le_of_ble_eq_true rfl⟩ rfl rfl (Nat.le_of_ble_eq_true rfl) (jw_M_mono h (fun r3 M3 h => ?_))
      refine jw_st (S' := [.int r3]) rfl ?_
      exact jw_ireturn d_V_count_30 rfl h
    · have h := h.2 hc
      refine jw_iconst (v := (-1)) d_V_count_14 jc_i_m1 ?_
      exact jw_ireturn d_V_count_15 rfl h
set_option maxRecDepth 100000 in
theorem e_V_count {l : Launch} {G : jw_G} {A : Nat → Prop} {x1 : Int32} {x2 : Int32} {M : jw_Mem} {Q : Int32 → jw_Mem → Prop} (h : ∀ X : jw_X0, (∀ r M', Q r M' → jw_R l X (jw_g G) A f_V_count r M') → jw_M l (jw_g G) A f_V_isNode [.int x1] M (fun r1 M1 => ((r1 = 0 → jw_R l X (jw_g G) A f_V_count (-1) M1) ∧ (¬ r1 = 0 → jw_M l (jw_g G) A f_V_isKey [.int x2] M1 (fun r2 M2 => ((¬ r2 = 0 → (∃ a1 : Nat, (a1 < 5 ∧ x1 = nI a1) ∧ jw_M l (jw_g G) A f_N_writeOut [jw_a G (10 + 3 * a1), .int x2, jw_a G 38] M2 (fun r3 M3 => jw_R l X (jw_g G) A f_V_count r3 M3))) ∧ (r2 = 0 → jw_R l X (jw_g G) A f_V_count (-1) M2))))))) : jw_M l (jw_g G) A f_V_count [jw_a G 0, .int x1, .int x2] M Q := by
  refine jw_M_of (by decide) (Nat.le_of_ble_eq_true rfl) (by intro v hv; simp at hv; rcases hv with rfl | rfl | rfl <;> rfl) (fun X hR => ?_)
  exact k_V_count_0  (h X (fun r M' q => hR r M' q (fun ty h0 => by cases h0; rfl)))

set_option maxRecDepth 100000 in
set_option maxHeartbeats 4000000 in
theorem k_V_hints_0 {l : Launch} {X : jw_X0} {G : jw_G} {A : Nat → Prop} {x1 : Int32} {M : jw_Mem} (h : jw_M l (jw_g G) A f_V_isNode [.int x1] M (fun r1 M1 => ((¬ r1 = 0 → jw_X l X (jw_g G) A f_V_hints 13 [some (jw_a G 0), some (.int x1), some (.int 0), some (.int 0)] [] M1) ∧ (r1 = 0 → jw_R l X (jw_g G) A f_V_hints (-1) M1)))) : jw_X l X (jw_g G) A f_V_hints 0 [some (jw_a G 0), some (.int x1), none, none] [] M := by
  refine jw_iload_n (i := 1) d_V_hints_0 rfl rfl ?_
  refine jw_callS (As := [.int x1]) (S := []) d_V_hints_1 jw_ml_V_77 jw_st_f_V_isNode ⟨Nat.le_of_ble_eq_true rfl, Nat.le_of_ble_eq_true rfl⟩ rfl rfl (Nat.le_of_ble_eq_true rfl) (jw_M_mono h (fun r1 M1 h => ?_))
  refine jw_st (S' := [.int r1]) rfl ?_
  refine jw_if_ne (tgt := 9) d_V_hints_4 (by decide) (fun hc => ?_) (fun hc => ?_)
  · have h := h.1 hc
    refine jw_iconst (v := 0) d_V_hints_9 jc_i_0 ?_
    refine jw_istore_n (i := 2) d_V_hints_10 rfl (Nat.le_of_ble_eq_true rfl) ?_
    refine jw_iconst (v := 0) d_V_hints_11 jc_i_0 ?_
    refine jw_istore_n (i := 3) d_V_hints_12 rfl (Nat.le_of_ble_eq_true rfl) ?_
    exact h
  · have h := h.2 hc
    refine jw_iconst (v := (-1)) d_V_hints_7 jc_i_m1 ?_
    exact jw_ireturn d_V_hints_8 rfl h
set_option maxRecDepth 100000 in
set_option maxHeartbeats 4000000 in
theorem k_V_hints_13 {l : Launch} {X : jw_X0} {G : jw_G} {A : Nat → Prop} {x1 x2 x3 : Int32} {M : jw_Mem} (h : (((M 4 4) ≤ x3 → jw_R l X (jw_g G) A f_V_hints x2 M) ∧ (¬ (M 4 4) ≤ x3 → (∃ a1 : Nat, (a1 < 5 ∧ x1 = nI a1) ∧ jw_M l (jw_g G) A f_N_hasHintOf [jw_a G (10 + 3 * a1), .int x3] M (fun r1 M1 => ((r1 = 0 → jw_X l X (jw_g G) A f_V_hints 13 [some (jw_a G 0), some (.int x1), some (.int x2), some (.int (x3 + 1))] [] M1) ∧ (¬ r1 = 0 → jw_X l X (jw_g G) A f_V_hints 13 [some (jw_a G 0), some (.int x1), some (.int (x2 + 1)), some (.int (x3 + 1))] [] M1))))))) : jw_X l X (jw_g G) A f_V_hints 13 [some (jw_a G 0), some (.int x1), some (.int x2), some (.int x3)] [] M := by
  refine jw_iload_n (i := 3) d_V_hints_13 rfl rfl ?_
  refine jw_aload_n (i := 0) d_V_hints_14 rfl rfl ?_
  refine jw_get (j := 1) (v := jw_a G 4) d_V_hints_15 jw_k0 jw_c_V jw_oc_V (Nat.le_of_ble_eq_true rfl) jw_fl_V_34 rfl rfl ?_
  refine jw_get (j := 4) (v := .int (M 4 4)) d_V_hints_18 jw_k4 jw_c_G jw_oc_G (Nat.le_of_ble_eq_true rfl) jw_fl_V_104 rfl rfl ?_
  refine jw_icmp_ge (tgt := 46) d_V_hints_21 (by decide) (fun hc => ?_) (fun hc => ?_)
  · have h := h.1 hc
    refine jw_iload_n (i := 2) d_V_hints_46 rfl rfl ?_
    exact jw_ireturn d_V_hints_47 rfl h
  · have h := h.2 hc
    refine jw_aload_n (i := 0) d_V_hints_24 rfl rfl ?_
    refine jw_get (j := 2) (v := jw_a G 9) d_V_hints_25 jw_k0 jw_c_V jw_oc_V (Nat.le_of_ble_eq_true rfl) jw_fl_V_40 rfl rfl ?_
    refine jw_iload_n (i := 1) d_V_hints_28 rfl rfl ?_
    obtain ⟨a1, ha1, h⟩ := h
    refine jw_aaldN d_V_hints_29 ha1 ?_
    refine jw_iload_n (i := 3) d_V_hints_30 rfl rfl ?_
    refine jw_callV (As := [.int x3]) (S := []) d_V_hints_31 (jw_kN ha1.1) jw_c_N jw_ml_V_193 jw_in_f_N_hasHintOf jw_se_f_N_hasHintOf ⟨Nat.le_of_ble_eq_true rfl, Nat.le_of_ble_eq_true rfl⟩ rfl rfl (Nat.le_of_ble_eq_true rfl) (jw_M_mono h (fun r1 M1 h => ?_))
    refine jw_st (S' := [.int r1]) rfl ?_
    refine jw_if_eq (tgt := 40) d_V_hints_34 (by decide) (fun hc => ?_) (fun hc => ?_)
    · have h := h.1 hc
      refine jw_iinc (d := 1) d_V_hints_40 rfl jc_i_1 (Nat.le_of_ble_eq_true rfl) ?_
      refine jw_goto (tgt := 13) d_V_hints_43 (by decide) ?_
      exact h
    · have h := h.2 hc
      refine jw_iinc (d := 1) d_V_hints_37 rfl jc_i_1 (Nat.le_of_ble_eq_true rfl) ?_
      refine jw_iinc (d := 1) d_V_hints_40 rfl jc_i_1 (Nat.le_of_ble_eq_true rfl) ?_
      refine jw_goto (tgt := 13) d_V_hints_43 (by decide) ?_
      exact h
set_option maxRecDepth 100000 in
theorem e_V_hints {l : Launch} {G : jw_G} {A : Nat → Prop} {x1 : Int32} {M : jw_Mem} {Q : Int32 → jw_Mem → Prop} (h : ∀ X : jw_X0, (∀ r M', Q r M' → jw_R l X (jw_g G) A f_V_hints r M') → jw_M l (jw_g G) A f_V_isNode [.int x1] M (fun r1 M1 => ((¬ r1 = 0 → jw_X l X (jw_g G) A f_V_hints 13 [some (jw_a G 0), some (.int x1), some (.int 0), some (.int 0)] [] M1) ∧ (r1 = 0 → jw_R l X (jw_g G) A f_V_hints (-1) M1)))) : jw_M l (jw_g G) A f_V_hints [jw_a G 0, .int x1] M Q := by
  refine jw_M_of (by decide) (Nat.le_of_ble_eq_true rfl) (by intro v hv; simp at hv; rcases hv with rfl | rfl <;> rfl) (fun X hR => ?_)
  exact k_V_hints_0  (h X (fun r M' q => hR r M' q (fun ty h0 => by cases h0; rfl)))

set_option maxRecDepth 100000 in
set_option maxHeartbeats 4000000 in
theorem k_V_versions_0 {l : Launch} {X : jw_X0} {G : jw_G} {A : Nat → Prop}  {M : jw_Mem} (h : jw_R l X (jw_g G) A f_V_versions (M 4 4) M) : jw_X l X (jw_g G) A f_V_versions 0 [some (jw_a G 0)] [] M := by
  refine jw_aload_n (i := 0) d_V_versions_0 rfl rfl ?_
  refine jw_get (j := 1) (v := jw_a G 4) d_V_versions_1 jw_k0 jw_c_V jw_oc_V (Nat.le_of_ble_eq_true rfl) jw_fl_V_34 rfl rfl ?_
  refine jw_get (j := 4) (v := .int (M 4 4)) d_V_versions_4 jw_k4 jw_c_G jw_oc_G (Nat.le_of_ble_eq_true rfl) jw_fl_V_104 rfl rfl ?_
  exact jw_ireturn d_V_versions_7 rfl h
set_option maxRecDepth 100000 in
theorem e_V_versions {l : Launch} {G : jw_G} {A : Nat → Prop}  {M : jw_Mem} {Q : Int32 → jw_Mem → Prop} (h : ∀ X : jw_X0, (∀ r M', Q r M' → jw_R l X (jw_g G) A f_V_versions r M') → jw_R l X (jw_g G) A f_V_versions (M 4 4) M) : jw_M l (jw_g G) A f_V_versions [jw_a G 0] M Q := by
  refine jw_M_of (by decide) (Nat.le_of_ble_eq_true rfl) (by intro v hv; simp at hv; rcases hv with rfl <;> rfl) (fun X hR => ?_)
  exact k_V_versions_0  (h X (fun r M' q => hR r M' q (fun ty h0 => by cases h0; rfl)))

set_option maxRecDepth 100000 in
set_option maxHeartbeats 4000000 in
theorem k_V_version_0 {l : Launch} {X : jw_X0} {G : jw_G} {A : Nat → Prop} {x1 : Int32} {x2 : Int32} {M : jw_Mem} (h : jw_M l (jw_g G) A f_G_isMade [jw_a G 4, .int x1] M (fun r1 M1 => ((¬ r1 = 0 → ((¬ x2 = 5 → ((¬ x2 = 6 → jw_M l (jw_g G) A f_V_isNode [.int x2] M1 (fun r2 M2 => ((r2 = 0 → jw_R l X (jw_g G) A f_V_version 0 M2) ∧ (¬ r2 = 0 → jw_M l (jw_g G) A f_G_clockCount [jw_a G 4, .int x1, .int x2] M2 (fun r3 M3 => jw_R l X (jw_g G) A f_V_version r3 M3))))) ∧ (x2 = 6 → (∃ j1 : Nat, (j1 < 40 ∧ x1 = nI j1) ∧ jw_R l X (jw_g G) A f_V_version (M1 6 j1) M1)))) ∧ (x2 = 5 → (∃ j2 : Nat, (j2 < 40 ∧ x1 = nI j2) ∧ jw_R l X (jw_g G) A f_V_version (M1 5 j2) M1)))) ∧ (r1 = 0 → jw_R l X (jw_g G) A f_V_version 0 M1)))) : jw_X l X (jw_g G) A f_V_version 0 [some (jw_a G 0), some (.int x1), some (.int x2)] [] M := by
  refine jw_aload_n (i := 0) d_V_version_0 rfl rfl ?_
  refine jw_get (j := 1) (v := jw_a G 4) d_V_version_1 jw_k0 jw_c_V jw_oc_V (Nat.le_of_ble_eq_true rfl) jw_fl_V_34 rfl rfl ?_
  refine jw_iload_n (i := 1) d_V_version_4 rfl rfl ?_
  refine jw_callV (As := [.int x1]) (S := []) d_V_version_5 jw_k4 jw_c_G jw_ml_V_187 jw_in_f_G_isMade jw_se_f_G_isMade ⟨Nat.le_of_ble_eq_true rfl, Nat.le_of_ble_eq_true rfl⟩ rfl rfl (Nat.le_of_ble_eq_true rfl) (jw_M_mono h (fun r1 M1 h => ?_))
  refine jw_st (S' := [.int r1]) rfl ?_
  refine jw_if_ne (tgt := 13) d_V_version_8 (by decide) (fun hc => ?_) (fun hc => ?_)
  · have h := h.1 hc
    refine jw_iload_n (i := 2) d_V_version_13 rfl rfl ?_
    refine jw_iconst (v := 5) d_V_version_14 jc_i_5 ?_
    refine jw_icmp_ne (tgt := 28) d_V_version_15 (by decide) (fun hc => ?_) (fun hc => ?_)
    · have h := h.1 hc
      refine jw_iload_n (i := 2) d_V_version_28 rfl rfl ?_
      refine jw_bipush (v := 6) d_V_version_29 jc_b_6 ?_
      refine jw_icmp_ne (tgt := 44) d_V_version_31 (by decide) (fun hc => ?_) (fun hc => ?_)
      · have h := h.1 hc
        refine jw_iload_n (i := 2) d_V_version_44 rfl rfl ?_
        refine jw_callS (As := [.int x2]) (S := []) d_V_version_45 jw_ml_V_77 jw_st_f_V_isNode ⟨Nat.le_of_ble_eq_true rfl, Nat.le_of_ble_eq_true rfl⟩ rfl rfl (Nat.le_of_ble_eq_true rfl) (jw_M_mono h (fun r2 M2 h => ?_))
        refine jw_st (S' := [.int r2]) rfl ?_
        refine jw_if_eq (tgt := 63) d_V_version_48 (by decide) (fun hc => ?_) (fun hc => ?_)
        · have h := h.1 hc
          refine jw_iconst (v := 0) d_V_version_63 jc_i_0 ?_
          exact jw_ireturn d_V_version_64 rfl h
        · have h := h.2 hc
          refine jw_aload_n (i := 0) d_V_version_51 rfl rfl ?_
          refine jw_get (j := 1) (v := jw_a G 4) d_V_version_52 jw_k0 jw_c_V jw_oc_V (Nat.le_of_ble_eq_true rfl) jw_fl_V_34 rfl rfl ?_
          refine jw_iload_n (i := 1) d_V_version_55 rfl rfl ?_
          refine jw_iload_n (i := 2) d_V_version_56 rfl rfl ?_
          refine jw_callV (As := [.int x1, .int x2]) (S := []) d_V_version_57 jw_k4 jw_c_G jw_ml_V_206 jw_in_f_G_clockCount jw_se_f_G_clockCount ⟨Nat.le_of_ble_eq_true rfl, Nat.le_of_ble_eq_true rfl⟩ rfl rfl (Nat.le_of_ble_eq_true rfl) (jw_M_mono h (fun r3 M3 h => ?_))
          refine jw_st (S' := [.int r3]) rfl ?_
          refine jw_goto (tgt := 64) d_V_version_60 (by decide) ?_
          exact jw_ireturn d_V_version_64 rfl h
      · have h := h.2 hc
        refine jw_aload_n (i := 0) d_V_version_34 rfl rfl ?_
        refine jw_get (j := 1) (v := jw_a G 4) d_V_version_35 jw_k0 jw_c_V jw_oc_V (Nat.le_of_ble_eq_true rfl) jw_fl_V_34 rfl rfl ?_
        refine jw_get (j := 1) (v := jw_a G 6) d_V_version_38 jw_k4 jw_c_G jw_oc_G (Nat.le_of_ble_eq_true rfl) jw_fl_V_203 rfl rfl ?_
        refine jw_iload_n (i := 1) d_V_version_41 rfl rfl ?_
        obtain ⟨j1, hj1, h⟩ := h
        refine jw_iald2 d_V_version_42 jw_k6 (Nat.le_of_ble_eq_true rfl) hj1 ?_
        exact jw_ireturn d_V_version_43 rfl h
    · have h := h.2 hc
      refine jw_aload_n (i := 0) d_V_version_18 rfl rfl ?_
      refine jw_get (j := 1) (v := jw_a G 4) d_V_version_19 jw_k0 jw_c_V jw_oc_V (Nat.le_of_ble_eq_true rfl) jw_fl_V_34 rfl rfl ?_
      refine jw_get (j := 0) (v := jw_a G 5) d_V_version_22 jw_k4 jw_c_G jw_oc_G (Nat.le_of_ble_eq_true rfl) jw_fl_V_200 rfl rfl ?_
      refine jw_iload_n (i := 1) d_V_version_25 rfl rfl ?_
      obtain ⟨j2, hj2, h⟩ := h
      refine jw_iald2 d_V_version_26 jw_k5 (Nat.le_of_ble_eq_true rfl) hj2 ?_
      exact jw_ireturn d_V_version_27 rfl h
  · have h := h.2 hc
    refine jw_iconst (v := 0) d_V_version_11 jc_i_0 ?_
    exact jw_ireturn d_V_version_12 rfl h
set_option maxRecDepth 100000 in
theorem e_V_version {l : Launch} {G : jw_G} {A : Nat → Prop} {x1 : Int32} {x2 : Int32} {M : jw_Mem} {Q : Int32 → jw_Mem → Prop} (h : ∀ X : jw_X0, (∀ r M', Q r M' → jw_R l X (jw_g G) A f_V_version r M') → jw_M l (jw_g G) A f_G_isMade [jw_a G 4, .int x1] M (fun r1 M1 => ((¬ r1 = 0 → ((¬ x2 = 5 → ((¬ x2 = 6 → jw_M l (jw_g G) A f_V_isNode [.int x2] M1 (fun r2 M2 => ((r2 = 0 → jw_R l X (jw_g G) A f_V_version 0 M2) ∧ (¬ r2 = 0 → jw_M l (jw_g G) A f_G_clockCount [jw_a G 4, .int x1, .int x2] M2 (fun r3 M3 => jw_R l X (jw_g G) A f_V_version r3 M3))))) ∧ (x2 = 6 → (∃ j1 : Nat, (j1 < 40 ∧ x1 = nI j1) ∧ jw_R l X (jw_g G) A f_V_version (M1 6 j1) M1)))) ∧ (x2 = 5 → (∃ j2 : Nat, (j2 < 40 ∧ x1 = nI j2) ∧ jw_R l X (jw_g G) A f_V_version (M1 5 j2) M1)))) ∧ (r1 = 0 → jw_R l X (jw_g G) A f_V_version 0 M1)))) : jw_M l (jw_g G) A f_V_version [jw_a G 0, .int x1, .int x2] M Q := by
  refine jw_M_of (by decide) (Nat.le_of_ble_eq_true rfl) (by intro v hv; simp at hv; rcases hv with rfl | rfl | rfl <;> rfl) (fun X hR => ?_)
  exact k_V_version_0  (h X (fun r M' q => hR r M' q (fun ty h0 => by cases h0; rfl)))

set_option maxRecDepth 100000 in
set_option maxHeartbeats 4000000 in
theorem k_V_context_0 {l : Launch} {X : jw_X0} {G : jw_G} {A : Nat → Prop} {x1 : Int32} {x2 : Int32} {M : jw_Mem} (h : jw_M l (jw_g G) A f_V_isContext [.int x1] M (fun r1 M1 => ((r1 = 0 → jw_R l X (jw_g G) A f_V_context (-1) M1) ∧ (¬ r1 = 0 → jw_M l (jw_g G) A f_V_isNode [.int x2] M1 (fun r2 M2 => ((r2 = 0 → jw_R l X (jw_g G) A f_V_context (-1) M2) ∧ (¬ r2 = 0 → (∃ a1 : Nat, (a1 < 4 ∧ x1 = nI a1) ∧ jw_M l (jw_g G) A f_C_isEmpty [jw_a G (26 + 2 * a1)] M2 (fun r3 M3 => ((r3 = 0 → (∃ a2 : Nat, (a2 < 4 ∧ x1 = nI a2) ∧ (∃ j1 : Nat, (j1 < 5 ∧ x2 = nI j1) ∧ jw_R l X (jw_g G) A f_V_context (M3 (27 + 2 * a2) j1) M3))) ∧ (¬ r3 = 0 → jw_R l X (jw_g G) A f_V_context (-1) M3))))))))))) : jw_X l X (jw_g G) A f_V_context 0 [some (jw_a G 0), some (.int x1), some (.int x2)] [] M := by
  refine jw_iload_n (i := 1) d_V_context_0 rfl rfl ?_
  refine jw_callS (As := [.int x1]) (S := []) d_V_context_1 jw_ml_V_130 jw_st_f_V_isContext ⟨Nat.le_of_ble_eq_true rfl, Nat.le_of_ble_eq_true rfl⟩ rfl rfl (Nat.le_of_ble_eq_true rfl) (jw_M_mono h (fun r1 M1 h => ?_))
  refine jw_st (S' := [.int r1]) rfl ?_
  refine jw_if_eq (tgt := 26) d_V_context_4 (by decide) (fun hc => ?_) (fun hc => ?_)
  · have h := h.1 hc
    refine jw_iconst (v := (-1)) d_V_context_26 jc_i_m1 ?_
    exact jw_ireturn d_V_context_27 rfl h
  · have h := h.2 hc
    refine jw_iload_n (i := 2) d_V_context_7 rfl rfl ?_
    refine jw_callS (As := [.int x2]) (S := []) d_V_context_8 jw_ml_V_77 jw_st_f_V_isNode ⟨Nat.le_of_ble_eq_true rfl, Nat.le_of_ble_eq_true rfl⟩ rfl rfl (Nat.le_of_ble_eq_true rfl) (jw_M_mono h (fun r2 M2 h => ?_))
    refine jw_st (S' := [.int r2]) rfl ?_
    refine jw_if_eq (tgt := 26) d_V_context_11 (by decide) (fun hc => ?_) (fun hc => ?_)
    · have h := h.1 hc
      refine jw_iconst (v := (-1)) d_V_context_26 jc_i_m1 ?_
      exact jw_ireturn d_V_context_27 rfl h
    · have h := h.2 hc
      refine jw_aload_n (i := 0) d_V_context_14 rfl rfl ?_
      refine jw_get (j := 4) (v := jw_a G 25) d_V_context_15 jw_k0 jw_c_V jw_oc_V (Nat.le_of_ble_eq_true rfl) jw_fl_V_49 rfl rfl ?_
      refine jw_iload_n (i := 1) d_V_context_18 rfl rfl ?_
      obtain ⟨a1, ha1, h⟩ := h
      refine jw_aaldC d_V_context_19 ha1 ?_
      refine jw_callV (As := []) (S := []) d_V_context_20 (jw_kC ha1.1) jw_c_C jw_ml_V_209 jw_in_f_C_isEmpty jw_se_f_C_isEmpty ⟨Nat.le_of_ble_eq_true rfl, Nat.le_of_ble_eq_true rfl⟩ rfl rfl (Nat.le_of_ble_eq_true rfl) (jw_M_mono h (fun r3 M3 h => ?_))
      refine jw_st (S' := [.int r3]) rfl ?_
      refine jw_if_eq (tgt := 28) d_V_context_23 (by decide) (fun hc => ?_) (fun hc => ?_)
      · have h := h.1 hc
        refine jw_aload_n (i := 0) d_V_context_28 rfl rfl ?_
        refine jw_get (j := 4) (v := jw_a G 25) d_V_context_29 jw_k0 jw_c_V jw_oc_V (Nat.le_of_ble_eq_true rfl) jw_fl_V_49 rfl rfl ?_
        refine jw_iload_n (i := 1) d_V_context_32 rfl rfl ?_
        obtain ⟨a2, ha2, h⟩ := h
        refine jw_aaldC d_V_context_33 ha2 ?_
        refine jw_get (j := 0) (v := jw_a G (27 + 2 * a2)) d_V_context_34 (jw_kC ha2.1) jw_c_C jw_oc_C (Nat.le_of_ble_eq_true rfl) jw_fl_V_117 rfl rfl ?_
        refine jw_iload_n (i := 2) d_V_context_37 rfl rfl ?_
        obtain ⟨j1, hj1, h⟩ := h
        refine jw_iald2 d_V_context_38 (jw_kK ha2.1) (Nat.le_of_ble_eq_true rfl) hj1 ?_
        exact jw_ireturn d_V_context_39 rfl h
      · have h := h.2 hc
        refine jw_iconst (v := (-1)) d_V_context_26 jc_i_m1 ?_
        exact jw_ireturn d_V_context_27 rfl h
set_option maxRecDepth 100000 in
theorem e_V_context {l : Launch} {G : jw_G} {A : Nat → Prop} {x1 : Int32} {x2 : Int32} {M : jw_Mem} {Q : Int32 → jw_Mem → Prop} (h : ∀ X : jw_X0, (∀ r M', Q r M' → jw_R l X (jw_g G) A f_V_context r M') → jw_M l (jw_g G) A f_V_isContext [.int x1] M (fun r1 M1 => ((r1 = 0 → jw_R l X (jw_g G) A f_V_context (-1) M1) ∧ (¬ r1 = 0 → jw_M l (jw_g G) A f_V_isNode [.int x2] M1 (fun r2 M2 => ((r2 = 0 → jw_R l X (jw_g G) A f_V_context (-1) M2) ∧ (¬ r2 = 0 → (∃ a1 : Nat, (a1 < 4 ∧ x1 = nI a1) ∧ jw_M l (jw_g G) A f_C_isEmpty [jw_a G (26 + 2 * a1)] M2 (fun r3 M3 => ((r3 = 0 → (∃ a2 : Nat, (a2 < 4 ∧ x1 = nI a2) ∧ (∃ j1 : Nat, (j1 < 5 ∧ x2 = nI j1) ∧ jw_R l X (jw_g G) A f_V_context (M3 (27 + 2 * a2) j1) M3))) ∧ (¬ r3 = 0 → jw_R l X (jw_g G) A f_V_context (-1) M3))))))))))) : jw_M l (jw_g G) A f_V_context [jw_a G 0, .int x1, .int x2] M Q := by
  refine jw_M_of (by decide) (Nat.le_of_ble_eq_true rfl) (by intro v hv; simp at hv; rcases hv with rfl | rfl | rfl <;> rfl) (fun X hR => ?_)
  exact k_V_context_0  (h X (fun r M' q => hR r M' q (fun ty h0 => by cases h0; rfl)))

set_option maxRecDepth 100000 in
set_option maxHeartbeats 4000000 in
theorem k_V_isNode_0 {l : Launch} {X : jw_X0} {G : jw_G} {A : Nat → Prop} {x0 : Int32} {M : jw_Mem} (h : ((x0 < 0 → jw_R l X (jw_g G) A f_V_isNode 0 M) ∧ (¬ x0 < 0 → ((5 ≤ x0 → jw_R l X (jw_g G) A f_V_isNode 0 M) ∧ (¬ 5 ≤ x0 → jw_R l X (jw_g G) A f_V_isNode 1 M))))) : jw_X l X (jw_g G) A f_V_isNode 0 [some (.int x0)] [] M := by
  refine jw_iload_n (i := 0) d_V_isNode_0 rfl rfl ?_
  refine jw_if_lt (tgt := 13) d_V_isNode_1 (by decide) (fun hc => ?_) (fun hc => ?_)
  · have h := h.1 hc
    refine jw_iconst (v := 0) d_V_isNode_13 jc_i_0 ?_
    exact jw_ireturn d_V_isNode_14 rfl h
  · have h := h.2 hc
    refine jw_iload_n (i := 0) d_V_isNode_4 rfl rfl ?_
    refine jw_iconst (v := 5) d_V_isNode_5 jc_i_5 ?_
    refine jw_icmp_ge (tgt := 13) d_V_isNode_6 (by decide) (fun hc => ?_) (fun hc => ?_)
    · have h := h.1 hc
      refine jw_iconst (v := 0) d_V_isNode_13 jc_i_0 ?_
      exact jw_ireturn d_V_isNode_14 rfl h
    · have h := h.2 hc
      refine jw_iconst (v := 1) d_V_isNode_9 jc_i_1 ?_
      refine jw_goto (tgt := 14) d_V_isNode_10 (by decide) ?_
      exact jw_ireturn d_V_isNode_14 rfl h
set_option maxRecDepth 100000 in
theorem e_V_isNode {l : Launch} {G : jw_G} {A : Nat → Prop} {x0 : Int32} {M : jw_Mem} {Q : Int32 → jw_Mem → Prop} (h : ∀ X : jw_X0, (∀ r M', Q r M' → (r = 0 ∨ r = 1) → jw_R l X (jw_g G) A f_V_isNode r M') → ((x0 < 0 → jw_R l X (jw_g G) A f_V_isNode 0 M) ∧ (¬ x0 < 0 → ((5 ≤ x0 → jw_R l X (jw_g G) A f_V_isNode 0 M) ∧ (¬ 5 ≤ x0 → jw_R l X (jw_g G) A f_V_isNode 1 M))))) : jw_M l (jw_g G) A f_V_isNode [.int x0] M Q := by
  refine jw_M_of (by decide) (Nat.le_of_ble_eq_true rfl) (by intro v hv; simp at hv; rcases hv with rfl <;> rfl) (fun X hR => ?_)
  exact k_V_isNode_0  (h X (fun r M' q hb => hR r M' q (fun ty h0 => by cases h0; exact jw_nb hb)))

set_option maxRecDepth 100000 in
set_option maxHeartbeats 4000000 in
theorem k_V_areTwoNodes_0 {l : Launch} {X : jw_X0} {G : jw_G} {A : Nat → Prop} {x0 : Int32} {x1 : Int32} {M : jw_Mem} (h : jw_M l (jw_g G) A f_V_isNode [.int x0] M (fun r1 M1 => ((r1 = 0 → jw_R l X (jw_g G) A f_V_areTwoNodes 0 M1) ∧ (¬ r1 = 0 → jw_M l (jw_g G) A f_V_isNode [.int x1] M1 (fun r2 M2 => ((r2 = 0 → jw_R l X (jw_g G) A f_V_areTwoNodes 0 M2) ∧ (¬ r2 = 0 → ((x0 = x1 → jw_R l X (jw_g G) A f_V_areTwoNodes 0 M2) ∧ (¬ x0 = x1 → jw_R l X (jw_g G) A f_V_areTwoNodes 1 M2))))))))) : jw_X l X (jw_g G) A f_V_areTwoNodes 0 [some (.int x0), some (.int x1)] [] M := by
  refine jw_iload_n (i := 0) d_V_areTwoNodes_0 rfl rfl ?_
  refine jw_callS (As := [.int x0]) (S := []) d_V_areTwoNodes_1 jw_ml_V_77 jw_st_f_V_isNode ⟨Nat.le_of_ble_eq_true rfl, Nat.le_of_ble_eq_true rfl⟩ rfl rfl (Nat.le_of_ble_eq_true rfl) (jw_M_mono h (fun r1 M1 h => ?_))
  refine jw_st (S' := [.int r1]) rfl ?_
  refine jw_if_eq (tgt := 23) d_V_areTwoNodes_4 (by decide) (fun hc => ?_) (fun hc => ?_)
  · have h := h.1 hc
    refine jw_iconst (v := 0) d_V_areTwoNodes_23 jc_i_0 ?_
    exact jw_ireturn d_V_areTwoNodes_24 rfl h
  · have h := h.2 hc
    refine jw_iload_n (i := 1) d_V_areTwoNodes_7 rfl rfl ?_
    refine jw_callS (As := [.int x1]) (S := []) d_V_areTwoNodes_8 jw_ml_V_77 jw_st_f_V_isNode ⟨Nat.le_of_ble_eq_true rfl, Nat.le_of_ble_eq_true rfl⟩ rfl rfl (Nat.le_of_ble_eq_true rfl) (jw_M_mono h (fun r2 M2 h => ?_))
    refine jw_st (S' := [.int r2]) rfl ?_
    refine jw_if_eq (tgt := 23) d_V_areTwoNodes_11 (by decide) (fun hc => ?_) (fun hc => ?_)
    · have h := h.1 hc
      refine jw_iconst (v := 0) d_V_areTwoNodes_23 jc_i_0 ?_
      exact jw_ireturn d_V_areTwoNodes_24 rfl h
    · have h := h.2 hc
      refine jw_iload_n (i := 0) d_V_areTwoNodes_14 rfl rfl ?_
      refine jw_iload_n (i := 1) d_V_areTwoNodes_15 rfl rfl ?_
      refine jw_icmp_eq (tgt := 23) d_V_areTwoNodes_16 (by decide) (fun hc => ?_) (fun hc => ?_)
      · have h := h.1 hc
        refine jw_iconst (v := 0) d_V_areTwoNodes_23 jc_i_0 ?_
        exact jw_ireturn d_V_areTwoNodes_24 rfl h
      · have h := h.2 hc
        refine jw_iconst (v := 1) d_V_areTwoNodes_19 jc_i_1 ?_
        refine jw_goto (tgt := 24) d_V_areTwoNodes_20 (by decide) ?_
        exact jw_ireturn d_V_areTwoNodes_24 rfl h
set_option maxRecDepth 100000 in
theorem e_V_areTwoNodes {l : Launch} {G : jw_G} {A : Nat → Prop} {x0 : Int32} {x1 : Int32} {M : jw_Mem} {Q : Int32 → jw_Mem → Prop} (h : ∀ X : jw_X0, (∀ r M', Q r M' → (r = 0 ∨ r = 1) → jw_R l X (jw_g G) A f_V_areTwoNodes r M') → jw_M l (jw_g G) A f_V_isNode [.int x0] M (fun r1 M1 => ((r1 = 0 → jw_R l X (jw_g G) A f_V_areTwoNodes 0 M1) ∧ (¬ r1 = 0 → jw_M l (jw_g G) A f_V_isNode [.int x1] M1 (fun r2 M2 => ((r2 = 0 → jw_R l X (jw_g G) A f_V_areTwoNodes 0 M2) ∧ (¬ r2 = 0 → ((x0 = x1 → jw_R l X (jw_g G) A f_V_areTwoNodes 0 M2) ∧ (¬ x0 = x1 → jw_R l X (jw_g G) A f_V_areTwoNodes 1 M2))))))))) : jw_M l (jw_g G) A f_V_areTwoNodes [.int x0, .int x1] M Q := by
  refine jw_M_of (by decide) (Nat.le_of_ble_eq_true rfl) (by intro v hv; simp at hv; rcases hv with rfl | rfl <;> rfl) (fun X hR => ?_)
  exact k_V_areTwoNodes_0  (h X (fun r M' q hb => hR r M' q (fun ty h0 => by cases h0; exact jw_nb hb)))

set_option maxRecDepth 100000 in
set_option maxHeartbeats 4000000 in
theorem k_V_isPosition_0 {l : Launch} {X : jw_X0} {G : jw_G} {A : Nat → Prop} {x0 : Int32} {M : jw_Mem} (h : ((x0 < 0 → jw_R l X (jw_g G) A f_V_isPosition 0 M) ∧ (¬ x0 < 0 → ((16 ≤ x0 → jw_R l X (jw_g G) A f_V_isPosition 0 M) ∧ (¬ 16 ≤ x0 → jw_R l X (jw_g G) A f_V_isPosition 1 M))))) : jw_X l X (jw_g G) A f_V_isPosition 0 [some (.int x0)] [] M := by
  refine jw_iload_n (i := 0) d_V_isPosition_0 rfl rfl ?_
  refine jw_if_lt (tgt := 14) d_V_isPosition_1 (by decide) (fun hc => ?_) (fun hc => ?_)
  · have h := h.1 hc
    refine jw_iconst (v := 0) d_V_isPosition_14 jc_i_0 ?_
    exact jw_ireturn d_V_isPosition_15 rfl h
  · have h := h.2 hc
    refine jw_iload_n (i := 0) d_V_isPosition_4 rfl rfl ?_
    refine jw_bipush (v := 16) d_V_isPosition_5 jc_b_16 ?_
    refine jw_icmp_ge (tgt := 14) d_V_isPosition_7 (by decide) (fun hc => ?_) (fun hc => ?_)
    · have h := h.1 hc
      refine jw_iconst (v := 0) d_V_isPosition_14 jc_i_0 ?_
      exact jw_ireturn d_V_isPosition_15 rfl h
    · have h := h.2 hc
      refine jw_iconst (v := 1) d_V_isPosition_10 jc_i_1 ?_
      refine jw_goto (tgt := 15) d_V_isPosition_11 (by decide) ?_
      exact jw_ireturn d_V_isPosition_15 rfl h
set_option maxRecDepth 100000 in
theorem e_V_isPosition {l : Launch} {G : jw_G} {A : Nat → Prop} {x0 : Int32} {M : jw_Mem} {Q : Int32 → jw_Mem → Prop} (h : ∀ X : jw_X0, (∀ r M', Q r M' → (r = 0 ∨ r = 1) → jw_R l X (jw_g G) A f_V_isPosition r M') → ((x0 < 0 → jw_R l X (jw_g G) A f_V_isPosition 0 M) ∧ (¬ x0 < 0 → ((16 ≤ x0 → jw_R l X (jw_g G) A f_V_isPosition 0 M) ∧ (¬ 16 ≤ x0 → jw_R l X (jw_g G) A f_V_isPosition 1 M))))) : jw_M l (jw_g G) A f_V_isPosition [.int x0] M Q := by
  refine jw_M_of (by decide) (Nat.le_of_ble_eq_true rfl) (by intro v hv; simp at hv; rcases hv with rfl <;> rfl) (fun X hR => ?_)
  exact k_V_isPosition_0  (h X (fun r M' q hb => hR r M' q (fun ty h0 => by cases h0; exact jw_nb hb)))

set_option maxRecDepth 100000 in
set_option maxHeartbeats 4000000 in
theorem k_V_isKey_0 {l : Launch} {X : jw_X0} {G : jw_G} {A : Nat → Prop} {x0 : Int32} {M : jw_Mem} (h : ((x0 < 0 → jw_R l X (jw_g G) A f_V_isKey 0 M) ∧ (¬ x0 < 0 → ((32 ≤ x0 → jw_R l X (jw_g G) A f_V_isKey 0 M) ∧ (¬ 32 ≤ x0 → jw_R l X (jw_g G) A f_V_isKey 1 M))))) : jw_X l X (jw_g G) A f_V_isKey 0 [some (.int x0)] [] M := by
  refine jw_iload_n (i := 0) d_V_isKey_0 rfl rfl ?_
  refine jw_if_lt (tgt := 14) d_V_isKey_1 (by decide) (fun hc => ?_) (fun hc => ?_)
  · have h := h.1 hc
    refine jw_iconst (v := 0) d_V_isKey_14 jc_i_0 ?_
    exact jw_ireturn d_V_isKey_15 rfl h
  · have h := h.2 hc
    refine jw_iload_n (i := 0) d_V_isKey_4 rfl rfl ?_
    refine jw_bipush (v := 32) d_V_isKey_5 jc_b_32 ?_
    refine jw_icmp_ge (tgt := 14) d_V_isKey_7 (by decide) (fun hc => ?_) (fun hc => ?_)
    · have h := h.1 hc
      refine jw_iconst (v := 0) d_V_isKey_14 jc_i_0 ?_
      exact jw_ireturn d_V_isKey_15 rfl h
    · have h := h.2 hc
      refine jw_iconst (v := 1) d_V_isKey_10 jc_i_1 ?_
      refine jw_goto (tgt := 15) d_V_isKey_11 (by decide) ?_
      exact jw_ireturn d_V_isKey_15 rfl h
set_option maxRecDepth 100000 in
theorem e_V_isKey {l : Launch} {G : jw_G} {A : Nat → Prop} {x0 : Int32} {M : jw_Mem} {Q : Int32 → jw_Mem → Prop} (h : ∀ X : jw_X0, (∀ r M', Q r M' → (r = 0 ∨ r = 1) → jw_R l X (jw_g G) A f_V_isKey r M') → ((x0 < 0 → jw_R l X (jw_g G) A f_V_isKey 0 M) ∧ (¬ x0 < 0 → ((32 ≤ x0 → jw_R l X (jw_g G) A f_V_isKey 0 M) ∧ (¬ 32 ≤ x0 → jw_R l X (jw_g G) A f_V_isKey 1 M))))) : jw_M l (jw_g G) A f_V_isKey [.int x0] M Q := by
  refine jw_M_of (by decide) (Nat.le_of_ble_eq_true rfl) (by intro v hv; simp at hv; rcases hv with rfl <;> rfl) (fun X hR => ?_)
  exact k_V_isKey_0  (h X (fun r M' q hb => hR r M' q (fun ty h0 => by cases h0; exact jw_nb hb)))

set_option maxRecDepth 100000 in
set_option maxHeartbeats 4000000 in
theorem k_V_isContext_0 {l : Launch} {X : jw_X0} {G : jw_G} {A : Nat → Prop} {x0 : Int32} {M : jw_Mem} (h : ((x0 < 0 → jw_R l X (jw_g G) A f_V_isContext 0 M) ∧ (¬ x0 < 0 → ((4 ≤ x0 → jw_R l X (jw_g G) A f_V_isContext 0 M) ∧ (¬ 4 ≤ x0 → jw_R l X (jw_g G) A f_V_isContext 1 M))))) : jw_X l X (jw_g G) A f_V_isContext 0 [some (.int x0)] [] M := by
  refine jw_iload_n (i := 0) d_V_isContext_0 rfl rfl ?_
  refine jw_if_lt (tgt := 13) d_V_isContext_1 (by decide) (fun hc => ?_) (fun hc => ?_)
  · have h := h.1 hc
    refine jw_iconst (v := 0) d_V_isContext_13 jc_i_0 ?_
    exact jw_ireturn d_V_isContext_14 rfl h
  · have h := h.2 hc
    refine jw_iload_n (i := 0) d_V_isContext_4 rfl rfl ?_
    refine jw_iconst (v := 4) d_V_isContext_5 jc_i_4 ?_
    refine jw_icmp_ge (tgt := 13) d_V_isContext_6 (by decide) (fun hc => ?_) (fun hc => ?_)
    · have h := h.1 hc
      refine jw_iconst (v := 0) d_V_isContext_13 jc_i_0 ?_
      exact jw_ireturn d_V_isContext_14 rfl h
    · have h := h.2 hc
      refine jw_iconst (v := 1) d_V_isContext_9 jc_i_1 ?_
      refine jw_goto (tgt := 14) d_V_isContext_10 (by decide) ?_
      exact jw_ireturn d_V_isContext_14 rfl h
set_option maxRecDepth 100000 in
theorem e_V_isContext {l : Launch} {G : jw_G} {A : Nat → Prop} {x0 : Int32} {M : jw_Mem} {Q : Int32 → jw_Mem → Prop} (h : ∀ X : jw_X0, (∀ r M', Q r M' → (r = 0 ∨ r = 1) → jw_R l X (jw_g G) A f_V_isContext r M') → ((x0 < 0 → jw_R l X (jw_g G) A f_V_isContext 0 M) ∧ (¬ x0 < 0 → ((4 ≤ x0 → jw_R l X (jw_g G) A f_V_isContext 0 M) ∧ (¬ 4 ≤ x0 → jw_R l X (jw_g G) A f_V_isContext 1 M))))) : jw_M l (jw_g G) A f_V_isContext [.int x0] M Q := by
  refine jw_M_of (by decide) (Nat.le_of_ble_eq_true rfl) (by intro v hv; simp at hv; rcases hv with rfl <;> rfl) (fun X hR => ?_)
  exact k_V_isContext_0  (h X (fun r M' q hb => hR r M' q (fun ty h0 => by cases h0; exact jw_nb hb)))

set_option maxRecDepth 100000 in
set_option maxHeartbeats 4000000 in
theorem k_V_mayKnow_0 {l : Launch} {X : jw_X0} {G : jw_G} {A : Nat → Prop} {x1 : Int32} {x2 : Int32} {M : jw_Mem} (h : ((¬ x1 = (-1) → jw_M l (jw_g G) A f_V_isContext [.int x1] M (fun r1 M1 => ((r1 = 0 → jw_R l X (jw_g G) A f_V_mayKnow 0 M1) ∧ (¬ r1 = 0 → (∃ a1 : Nat, (a1 < 4 ∧ x1 = nI a1) ∧ jw_M l (jw_g G) A f_C_isEmpty [jw_a G (26 + 2 * a1)] M1 (fun r2 M2 => ((¬ r2 = 0 → jw_R l X (jw_g G) A f_V_mayKnow 1 M2) ∧ (r2 = 0 → (∃ a2 : Nat, (a2 < 4 ∧ x1 = nI a2) ∧ ((¬ (M2 (26 + 2 * a2) 1) = x2 → jw_R l X (jw_g G) A f_V_mayKnow 0 M2) ∧ ((M2 (26 + 2 * a2) 1) = x2 → jw_R l X (jw_g G) A f_V_mayKnow 1 M2))))))))))) ∧ (x1 = (-1) → jw_R l X (jw_g G) A f_V_mayKnow 1 M))) : jw_X l X (jw_g G) A f_V_mayKnow 0 [some (jw_a G 0), some (.int x1), some (.int x2)] [] M := by
  refine jw_iload_n (i := 1) d_V_mayKnow_0 rfl rfl ?_
  refine jw_iconst (v := (-1)) d_V_mayKnow_1 jc_i_m1 ?_
  refine jw_icmp_ne (tgt := 7) d_V_mayKnow_2 (by decide) (fun hc => ?_) (fun hc => ?_)
  · have h := h.1 hc
    refine jw_iload_n (i := 1) d_V_mayKnow_7 rfl rfl ?_
    refine jw_callS (As := [.int x1]) (S := []) d_V_mayKnow_8 jw_ml_V_130 jw_st_f_V_isContext ⟨Nat.le_of_ble_eq_true rfl, Nat.le_of_ble_eq_true rfl⟩ rfl rfl (Nat.le_of_ble_eq_true rfl) (jw_M_mono h (fun r1 M1 h => ?_))
    refine jw_st (S' := [.int r1]) rfl ?_
    refine jw_if_eq (tgt := 43) d_V_mayKnow_11 (by decide) (fun hc => ?_) (fun hc => ?_)
    · have h := h.1 hc
      refine jw_iconst (v := 0) d_V_mayKnow_43 jc_i_0 ?_
      exact jw_ireturn d_V_mayKnow_44 rfl h
    · have h := h.2 hc
      refine jw_aload_n (i := 0) d_V_mayKnow_14 rfl rfl ?_
      refine jw_get (j := 4) (v := jw_a G 25) d_V_mayKnow_15 jw_k0 jw_c_V jw_oc_V (Nat.le_of_ble_eq_true rfl) jw_fl_V_49 rfl rfl ?_
      refine jw_iload_n (i := 1) d_V_mayKnow_18 rfl rfl ?_
      obtain ⟨a1, ha1, h⟩ := h
      refine jw_aaldC d_V_mayKnow_19 ha1 ?_
      refine jw_callV (As := []) (S := []) d_V_mayKnow_20 (jw_kC ha1.1) jw_c_C jw_ml_V_209 jw_in_f_C_isEmpty jw_se_f_C_isEmpty ⟨Nat.le_of_ble_eq_true rfl, Nat.le_of_ble_eq_true rfl⟩ rfl rfl (Nat.le_of_ble_eq_true rfl) (jw_M_mono h (fun r2 M2 h => ?_))
      refine jw_st (S' := [.int r2]) rfl ?_
      refine jw_if_ne (tgt := 39) d_V_mayKnow_23 (by decide) (fun hc => ?_) (fun hc => ?_)
      · have h := h.1 hc
        refine jw_iconst (v := 1) d_V_mayKnow_39 jc_i_1 ?_
        refine jw_goto (tgt := 44) d_V_mayKnow_40 (by decide) ?_
        exact jw_ireturn d_V_mayKnow_44 rfl h
      · have h := h.2 hc
        refine jw_aload_n (i := 0) d_V_mayKnow_26 rfl rfl ?_
        refine jw_get (j := 4) (v := jw_a G 25) d_V_mayKnow_27 jw_k0 jw_c_V jw_oc_V (Nat.le_of_ble_eq_true rfl) jw_fl_V_49 rfl rfl ?_
        refine jw_iload_n (i := 1) d_V_mayKnow_30 rfl rfl ?_
        obtain ⟨a2, ha2, h⟩ := h
        refine jw_aaldC d_V_mayKnow_31 ha2 ?_
        refine jw_get (j := 1) (v := .int (M2 (26 + 2 * a2) 1)) d_V_mayKnow_32 (jw_kC ha2.1) jw_c_C jw_oc_C (Nat.le_of_ble_eq_true rfl) jw_fl_V_213 rfl rfl ?_
        refine jw_iload_n (i := 2) d_V_mayKnow_35 rfl rfl ?_
        refine jw_icmp_ne (tgt := 43) d_V_mayKnow_36 (by decide) (fun hc => ?_) (fun hc => ?_)
        · have h := h.1 hc
          refine jw_iconst (v := 0) d_V_mayKnow_43 jc_i_0 ?_
          exact jw_ireturn d_V_mayKnow_44 rfl h
        · have h := h.2 hc
          refine jw_iconst (v := 1) d_V_mayKnow_39 jc_i_1 ?_
          refine jw_goto (tgt := 44) d_V_mayKnow_40 (by decide) ?_
          exact jw_ireturn d_V_mayKnow_44 rfl h
  · have h := h.2 hc
    refine jw_iconst (v := 1) d_V_mayKnow_5 jc_i_1 ?_
    exact jw_ireturn d_V_mayKnow_6 rfl h
set_option maxRecDepth 100000 in
theorem e_V_mayKnow {l : Launch} {G : jw_G} {A : Nat → Prop} {x1 : Int32} {x2 : Int32} {M : jw_Mem} {Q : Int32 → jw_Mem → Prop} (h : ∀ X : jw_X0, (∀ r M', Q r M' → (r = 0 ∨ r = 1) → jw_R l X (jw_g G) A f_V_mayKnow r M') → ((¬ x1 = (-1) → jw_M l (jw_g G) A f_V_isContext [.int x1] M (fun r1 M1 => ((r1 = 0 → jw_R l X (jw_g G) A f_V_mayKnow 0 M1) ∧ (¬ r1 = 0 → (∃ a1 : Nat, (a1 < 4 ∧ x1 = nI a1) ∧ jw_M l (jw_g G) A f_C_isEmpty [jw_a G (26 + 2 * a1)] M1 (fun r2 M2 => ((¬ r2 = 0 → jw_R l X (jw_g G) A f_V_mayKnow 1 M2) ∧ (r2 = 0 → (∃ a2 : Nat, (a2 < 4 ∧ x1 = nI a2) ∧ ((¬ (M2 (26 + 2 * a2) 1) = x2 → jw_R l X (jw_g G) A f_V_mayKnow 0 M2) ∧ ((M2 (26 + 2 * a2) 1) = x2 → jw_R l X (jw_g G) A f_V_mayKnow 1 M2))))))))))) ∧ (x1 = (-1) → jw_R l X (jw_g G) A f_V_mayKnow 1 M))) : jw_M l (jw_g G) A f_V_mayKnow [jw_a G 0, .int x1, .int x2] M Q := by
  refine jw_M_of (by decide) (Nat.le_of_ble_eq_true rfl) (by intro v hv; simp at hv; rcases hv with rfl | rfl | rfl <;> rfl) (fun X hR => ?_)
  exact k_V_mayKnow_0  (h X (fun r M' q hb => hR r M' q (fun ty h0 => by cases h0; exact jw_nb hb)))

set_option maxRecDepth 100000 in
set_option maxHeartbeats 4000000 in
theorem k_V_line_0 {l : Launch} {X : jw_X0} {G : jw_G} {A : Nat → Prop} {x0 : Int32} {x1 : Int32} {M : jw_Mem} (h : jw_R l X (jw_g G) A f_V_line (((if x1 < x0 then x1 else x0) * 5) + (if x0 < x1 then x1 else x0)) M) : jw_X l X (jw_g G) A f_V_line 0 [some (.int x0), some (.int x1)] [] M := by
  refine jw_iload_n (i := 0) d_V_line_0 rfl rfl ?_
  refine jw_iload_n (i := 1) d_V_line_1 rfl rfl ?_
  refine jw_mmin d_V_line_2 jw_ml_V_7 jw_w_min2 jw_w_min3 jw_w_min4 ⟨Nat.le_of_ble_eq_true rfl, Nat.le_of_ble_eq_true rfl⟩ (Nat.le_of_ble_eq_true rfl) ?_
  refine jw_iconst (v := 5) d_V_line_5 jc_i_5 ?_
  refine jw_imul d_V_line_6 ?_
  refine jw_iload_n (i := 0) d_V_line_7 rfl rfl ?_
  refine jw_iload_n (i := 1) d_V_line_8 rfl rfl ?_
  refine jw_mmax d_V_line_9 jw_ml_V_216 jw_w_max2 jw_w_max3 jw_w_max4 ⟨Nat.le_of_ble_eq_true rfl, Nat.le_of_ble_eq_true rfl⟩ (Nat.le_of_ble_eq_true rfl) ?_
  refine jw_iadd d_V_line_12 ?_
  exact jw_ireturn d_V_line_13 rfl h
set_option maxRecDepth 100000 in
theorem e_V_line {l : Launch} {G : jw_G} {A : Nat → Prop} {x0 : Int32} {x1 : Int32} {M : jw_Mem} {Q : Int32 → jw_Mem → Prop} (h : ∀ X : jw_X0, (∀ r M', Q r M' → jw_R l X (jw_g G) A f_V_line r M') → jw_R l X (jw_g G) A f_V_line (((if x1 < x0 then x1 else x0) * 5) + (if x0 < x1 then x1 else x0)) M) : jw_M l (jw_g G) A f_V_line [.int x0, .int x1] M Q := by
  refine jw_M_of (by decide) (Nat.le_of_ble_eq_true rfl) (by intro v hv; simp at hv; rcases hv with rfl | rfl <;> rfl) (fun X hR => ?_)
  exact k_V_line_0  (h X (fun r M' q => hR r M' q (fun ty h0 => by cases h0; rfl)))

set_option maxRecDepth 100000 in
set_option maxHeartbeats 4000000 in
theorem k_V_reaches_0 {l : Launch} {X : jw_X0} {G : jw_G} {A : Nat → Prop} {x1 : Int32} {x2 : Int32} {M : jw_Mem} (h : (∃ a1 : Nat, (a1 < 5 ∧ x1 = nI a1) ∧ (((M (10 + 3 * a1) 3) = 0 → jw_R l X (jw_g G) A f_V_reaches 0 M) ∧ (¬ (M (10 + 3 * a1) 3) = 0 → (∃ a2 : Nat, (a2 < 5 ∧ x2 = nI a2) ∧ (((M (10 + 3 * a2) 3) = 0 → jw_R l X (jw_g G) A f_V_reaches 0 M) ∧ (¬ (M (10 + 3 * a2) 3) = 0 → jw_M l (jw_g G) A f_V_line [.int x1, .int x2] M (fun r1 M1 => (∃ j1 : Nat, (j1 < 25 ∧ r1 = nI j1) ∧ ((¬ (M1 34 j1) = 0 → jw_R l X (jw_g G) A f_V_reaches 0 M1) ∧ ((M1 34 j1) = 0 → jw_R l X (jw_g G) A f_V_reaches 1 M1))))))))))) : jw_X l X (jw_g G) A f_V_reaches 0 [some (jw_a G 0), some (.int x1), some (.int x2)] [] M := by
  refine jw_aload_n (i := 0) d_V_reaches_0 rfl rfl ?_
  refine jw_get (j := 2) (v := jw_a G 9) d_V_reaches_1 jw_k0 jw_c_V jw_oc_V (Nat.le_of_ble_eq_true rfl) jw_fl_V_40 rfl rfl ?_
  refine jw_iload_n (i := 1) d_V_reaches_4 rfl rfl ?_
  obtain ⟨a1, ha1, h⟩ := h
  refine jw_aaldN d_V_reaches_5 ha1 ?_
  refine jw_get (j := 3) (v := .int (M (10 + 3 * a1) 3)) d_V_reaches_6 (jw_kN ha1.1) jw_c_N jw_oc_N (Nat.le_of_ble_eq_true rfl) jw_fl_V_87 rfl rfl ?_
  refine jw_if_eq (tgt := 41) d_V_reaches_9 (by decide) (fun hc => ?_) (fun hc => ?_)
  · have h := h.1 hc
    refine jw_iconst (v := 0) d_V_reaches_41 jc_i_0 ?_
    exact jw_ireturn d_V_reaches_42 rfl h
  · have h := h.2 hc
    refine jw_aload_n (i := 0) d_V_reaches_12 rfl rfl ?_
    refine jw_get (j := 2) (v := jw_a G 9) d_V_reaches_13 jw_k0 jw_c_V jw_oc_V (Nat.le_of_ble_eq_true rfl) jw_fl_V_40 rfl rfl ?_
    refine jw_iload_n (i := 2) d_V_reaches_16 rfl rfl ?_
    obtain ⟨a2, ha2, h⟩ := h
    refine jw_aaldN d_V_reaches_17 ha2 ?_
    refine jw_get (j := 3) (v := .int (M (10 + 3 * a2) 3)) d_V_reaches_18 (jw_kN ha2.1) jw_c_N jw_oc_N (Nat.le_of_ble_eq_true rfl) jw_fl_V_87 rfl rfl ?_
    refine jw_if_eq (tgt := 41) d_V_reaches_21 (by decide) (fun hc => ?_) (fun hc => ?_)
    · have h := h.1 hc
      refine jw_iconst (v := 0) d_V_reaches_41 jc_i_0 ?_
      exact jw_ireturn d_V_reaches_42 rfl h
    · have h := h.2 hc
      refine jw_aload_n (i := 0) d_V_reaches_24 rfl rfl ?_
      refine jw_get (j := 3) (v := jw_a G 34) d_V_reaches_25 jw_k0 jw_c_V jw_oc_V (Nat.le_of_ble_eq_true rfl) jw_fl_V_54 rfl rfl ?_
      refine jw_iload_n (i := 1) d_V_reaches_28 rfl rfl ?_
      refine jw_iload_n (i := 2) d_V_reaches_29 rfl rfl ?_
      refine jw_callS (As := [.int x1, .int x2]) (S := [jw_a G 34]) d_V_reaches_30 jw_ml_V_95 jw_st_f_V_line ⟨Nat.le_of_ble_eq_true rfl, Nat.le_of_ble_eq_true rfl⟩ rfl rfl (Nat.le_of_ble_eq_true rfl) (jw_M_mono h (fun r1 M1 h => ?_))
      refine jw_st (S' := [.int r1, jw_a G 34]) rfl ?_
      obtain ⟨j1, hj1, h⟩ := h
      refine jw_zald2 d_V_reaches_33 jw_k34 (Nat.le_of_ble_eq_true rfl) hj1 ?_
      refine jw_if_ne (tgt := 41) d_V_reaches_34 (by decide) (fun hc => ?_) (fun hc => ?_)
      · have h := h.1 hc
        refine jw_iconst (v := 0) d_V_reaches_41 jc_i_0 ?_
        exact jw_ireturn d_V_reaches_42 rfl h
      · have h := h.2 hc
        refine jw_iconst (v := 1) d_V_reaches_37 jc_i_1 ?_
        refine jw_goto (tgt := 42) d_V_reaches_38 (by decide) ?_
        exact jw_ireturn d_V_reaches_42 rfl h
set_option maxRecDepth 100000 in
theorem e_V_reaches {l : Launch} {G : jw_G} {A : Nat → Prop} {x1 : Int32} {x2 : Int32} {M : jw_Mem} {Q : Int32 → jw_Mem → Prop} (h : ∀ X : jw_X0, (∀ r M', Q r M' → (r = 0 ∨ r = 1) → jw_R l X (jw_g G) A f_V_reaches r M') → (∃ a1 : Nat, (a1 < 5 ∧ x1 = nI a1) ∧ (((M (10 + 3 * a1) 3) = 0 → jw_R l X (jw_g G) A f_V_reaches 0 M) ∧ (¬ (M (10 + 3 * a1) 3) = 0 → (∃ a2 : Nat, (a2 < 5 ∧ x2 = nI a2) ∧ (((M (10 + 3 * a2) 3) = 0 → jw_R l X (jw_g G) A f_V_reaches 0 M) ∧ (¬ (M (10 + 3 * a2) 3) = 0 → jw_M l (jw_g G) A f_V_line [.int x1, .int x2] M (fun r1 M1 => (∃ j1 : Nat, (j1 < 25 ∧ r1 = nI j1) ∧ ((¬ (M1 34 j1) = 0 → jw_R l X (jw_g G) A f_V_reaches 0 M1) ∧ ((M1 34 j1) = 0 → jw_R l X (jw_g G) A f_V_reaches 1 M1))))))))))) : jw_M l (jw_g G) A f_V_reaches [jw_a G 0, .int x1, .int x2] M Q := by
  refine jw_M_of (by decide) (Nat.le_of_ble_eq_true rfl) (by intro v hv; simp at hv; rcases hv with rfl | rfl | rfl <;> rfl) (fun X hR => ?_)
  exact k_V_reaches_0  (h X (fun r M' q hb => hR r M' q (fun ty h0 => by cases h0; exact jw_nb hb)))

set_option maxRecDepth 100000 in
set_option maxHeartbeats 4000000 in
theorem k_V_aim_0 {l : Launch} {X : jw_X0} {G : jw_G} {A : Nat → Prop} {x1 : Int32} {x2 : Int32} {M : jw_Mem} (h : jw_M l (jw_g G) A f_R_lookUp [jw_a G 1, .int x2] M (fun _ M1 => jw_X l X (jw_g G) A f_V_aim 20 [some (jw_a G 0), some (.int x1), some (.int x2), some (.int 0)] [] (jw_U (jw_U M1 0 10 0) 0 11 0))) : jw_X l X (jw_g G) A f_V_aim 0 [some (jw_a G 0), some (.int x1), some (.int x2), none] [] M := by
  refine jw_aload_n (i := 0) d_V_aim_0 rfl rfl ?_
  refine jw_get (j := 0) (v := jw_a G 1) d_V_aim_1 jw_k0 jw_c_V jw_oc_V (Nat.le_of_ble_eq_true rfl) jw_fl_V_18 rfl rfl ?_
  refine jw_iload_n (i := 2) d_V_aim_4 rfl rfl ?_
  refine jw_callV (As := [.int x2]) (S := []) d_V_aim_5 jw_k1 jw_c_R jw_ml_V_178 jw_in_f_R_lookUp jw_se_f_R_lookUp ⟨Nat.le_of_ble_eq_true rfl, Nat.le_of_ble_eq_true rfl⟩ rfl rfl (Nat.le_of_ble_eq_true rfl) (jw_M_mono h (fun r1 M1 h => ?_))
  refine jw_st (S' := []) rfl ?_
  refine jw_aload_n (i := 0) d_V_aim_8 rfl rfl ?_
  refine jw_iconst (v := 0) d_V_aim_9 jc_i_0 ?_
  refine jw_put (j := 10) d_V_aim_10 jw_k0 jw_c_V jw_oc_V (Nat.le_of_ble_eq_true rfl) jw_fl_V_111 rfl rfl rfl rfl ?_
  refine jw_aload_n (i := 0) d_V_aim_13 rfl rfl ?_
  refine jw_iconst (v := 0) d_V_aim_14 jc_i_0 ?_
  refine jw_put (j := 11) d_V_aim_15 jw_k0 jw_c_V jw_oc_V (Nat.le_of_ble_eq_true rfl) jw_fl_V_147 rfl rfl rfl rfl ?_
  refine jw_iconst (v := 0) d_V_aim_18 jc_i_0 ?_
  refine jw_istore_n (i := 3) d_V_aim_19 rfl (Nat.le_of_ble_eq_true rfl) ?_
  exact h
set_option maxRecDepth 100000 in
set_option maxHeartbeats 4000000 in
theorem k_V_aim_20 {l : Launch} {X : jw_X0} {G : jw_G} {A : Nat → Prop} {x1 x2 x3 : Int32} {M : jw_Mem} (h : (((M 1 3) ≤ x3 → jw_R l X (jw_g G) A f_V_aim 0 M) ∧ (¬ (M 1 3) ≤ x3 → (((M 1 0) ≤ (M 0 10) → jw_X l X (jw_g G) A f_V_aim 20 [some (jw_a G 0), some (.int x1), some (.int x2), some (.int (x3 + 1))] [] M) ∧ (¬ (M 1 0) ≤ (M 0 10) → (∃ j1 : Nat, (j1 < 5 ∧ x3 = nI j1) ∧ jw_M l (jw_g G) A f_V_reaches [jw_a G 0, .int x1, .int (M 3 j1)] M (fun r1 M1 => ((r1 = 0 → jw_X l X (jw_g G) A f_V_aim 20 [some (jw_a G 0), some (.int x1), some (.int x2), some (.int (x3 + 1))] [] M1) ∧ (¬ r1 = 0 → (∃ j2 : Nat, (j2 < 5 ∧ x3 = nI j2) ∧ (∃ j3 : Nat, (j3 < 5 ∧ (M1 0 10) = nI j3) ∧ ((((jw_U (jw_U M1 36 j3 (M1 3 j2)) 0 10 (((jw_U M1 36 j3 (M1 3 j2)) 0 10) + 1)) 1 4) ≤ x3 → jw_X l X (jw_g G) A f_V_aim 20 [some (jw_a G 0), some (.int x1), some (.int x2), some (.int (x3 + 1))] [] (jw_U (jw_U M1 36 j3 (M1 3 j2)) 0 10 (((jw_U M1 36 j3 (M1 3 j2)) 0 10) + 1))) ∧ (¬ ((jw_U (jw_U M1 36 j3 (M1 3 j2)) 0 10 (((jw_U M1 36 j3 (M1 3 j2)) 0 10) + 1)) 1 4) ≤ x3 → jw_X l X (jw_g G) A f_V_aim 20 [some (jw_a G 0), some (.int x1), some (.int x2), some (.int (x3 + 1))] [] (jw_U (jw_U (jw_U M1 36 j3 (M1 3 j2)) 0 10 (((jw_U M1 36 j3 (M1 3 j2)) 0 10) + 1)) 0 11 (((jw_U (jw_U M1 36 j3 (M1 3 j2)) 0 10 (((jw_U M1 36 j3 (M1 3 j2)) 0 10) + 1)) 0 11) + 1))))))))))))))) : jw_X l X (jw_g G) A f_V_aim 20 [some (jw_a G 0), some (.int x1), some (.int x2), some (.int x3)] [] M := by
  refine jw_iload_n (i := 3) d_V_aim_20 rfl rfl ?_
  refine jw_aload_n (i := 0) d_V_aim_21 rfl rfl ?_
  refine jw_get (j := 0) (v := jw_a G 1) d_V_aim_22 jw_k0 jw_c_V jw_oc_V (Nat.le_of_ble_eq_true rfl) jw_fl_V_18 rfl rfl ?_
  refine jw_get (j := 3) (v := .int (M 1 3)) d_V_aim_25 jw_k1 jw_c_R jw_oc_R (Nat.le_of_ble_eq_true rfl) jw_fl_V_219 rfl rfl ?_
  refine jw_icmp_ge (tgt := 117) d_V_aim_28 (by decide) (fun hc => ?_) (fun hc => ?_)
  · have h := h.1 hc
    exact jw_return d_V_aim_117 rfl h
  · have h := h.2 hc
    refine jw_aload_n (i := 0) d_V_aim_31 rfl rfl ?_
    refine jw_get (j := 10) (v := .int (M 0 10)) d_V_aim_32 jw_k0 jw_c_V jw_oc_V (Nat.le_of_ble_eq_true rfl) jw_fl_V_111 rfl rfl ?_
    refine jw_aload_n (i := 0) d_V_aim_35 rfl rfl ?_
    refine jw_get (j := 0) (v := jw_a G 1) d_V_aim_36 jw_k0 jw_c_V jw_oc_V (Nat.le_of_ble_eq_true rfl) jw_fl_V_18 rfl rfl ?_
    refine jw_get (j := 0) (v := .int (M 1 0)) d_V_aim_39 jw_k1 jw_c_R jw_oc_R (Nat.le_of_ble_eq_true rfl) jw_fl_V_222 rfl rfl ?_
    refine jw_icmp_ge (tgt := 111) d_V_aim_42 (by decide) (fun hc => ?_) (fun hc => ?_)
    · have h := h.1 hc
      refine jw_iinc (d := 1) d_V_aim_111 rfl jc_i_1 (Nat.le_of_ble_eq_true rfl) ?_
      refine jw_goto (tgt := 20) d_V_aim_114 (by decide) ?_
      exact h
    · have h := h.2 hc
      refine jw_aload_n (i := 0) d_V_aim_45 rfl rfl ?_
      refine jw_iload_n (i := 1) d_V_aim_46 rfl rfl ?_
      refine jw_aload_n (i := 0) d_V_aim_47 rfl rfl ?_
      refine jw_get (j := 0) (v := jw_a G 1) d_V_aim_48 jw_k0 jw_c_V jw_oc_V (Nat.le_of_ble_eq_true rfl) jw_fl_V_18 rfl rfl ?_
      refine jw_get (j := 2) (v := jw_a G 3) d_V_aim_51 jw_k1 jw_c_R jw_oc_R (Nat.le_of_ble_eq_true rfl) jw_fl_V_184 rfl rfl ?_
      refine jw_iload_n (i := 3) d_V_aim_54 rfl rfl ?_
      obtain ⟨j1, hj1, h⟩ := h
      refine jw_iald2 d_V_aim_55 jw_k3 (Nat.le_of_ble_eq_true rfl) hj1 ?_
      refine jw_callV (As := [.int x1, .int (M 3 j1)]) (S := []) d_V_aim_56 jw_k0 jw_c_V jw_ml_V_161 jw_in_f_V_reaches jw_se_f_V_reaches ⟨Nat.le_of_ble_eq_true rfl, Nat.le_of_ble_eq_true rfl⟩ rfl rfl (Nat.le_of_ble_eq_true rfl) (jw_M_mono h (fun r1 M1 h => ?_))
      refine jw_st (S' := [.int r1]) rfl ?_
      refine jw_if_eq (tgt := 111) d_V_aim_59 (by decide) (fun hc => ?_) (fun hc => ?_)
      · have h := h.1 hc
        refine jw_iinc (d := 1) d_V_aim_111 rfl jc_i_1 (Nat.le_of_ble_eq_true rfl) ?_
        refine jw_goto (tgt := 20) d_V_aim_114 (by decide) ?_
        exact h
      · have h := h.2 hc
        refine jw_aload_n (i := 0) d_V_aim_62 rfl rfl ?_
        refine jw_get (j := 9) (v := jw_a G 36) d_V_aim_63 jw_k0 jw_c_V jw_oc_V (Nat.le_of_ble_eq_true rfl) jw_fl_V_61 rfl rfl ?_
        refine jw_aload_n (i := 0) d_V_aim_66 rfl rfl ?_
        refine jw_get (j := 10) (v := .int (M1 0 10)) d_V_aim_67 jw_k0 jw_c_V jw_oc_V (Nat.le_of_ble_eq_true rfl) jw_fl_V_111 rfl rfl ?_
        refine jw_aload_n (i := 0) d_V_aim_70 rfl rfl ?_
        refine jw_get (j := 0) (v := jw_a G 1) d_V_aim_71 jw_k0 jw_c_V jw_oc_V (Nat.le_of_ble_eq_true rfl) jw_fl_V_18 rfl rfl ?_
        refine jw_get (j := 2) (v := jw_a G 3) d_V_aim_74 jw_k1 jw_c_R jw_oc_R (Nat.le_of_ble_eq_true rfl) jw_fl_V_184 rfl rfl ?_
        refine jw_iload_n (i := 3) d_V_aim_77 rfl rfl ?_
        obtain ⟨j2, hj2, h⟩ := h
        refine jw_iald2 d_V_aim_78 jw_k3 (Nat.le_of_ble_eq_true rfl) hj2 ?_
        obtain ⟨j3, hj3, h⟩ := h
        refine jw_iast2 d_V_aim_79 jw_k36 (Nat.le_of_ble_eq_true rfl) hj3 ?_
        refine jw_aload_n (i := 0) d_V_aim_80 rfl rfl ?_
        refine jw_dup d_V_aim_81 rfl ?_
        refine jw_get (j := 10) (v := .int ((jw_U M1 36 j3 (M1 3 j2)) 0 10)) d_V_aim_82 jw_k0 jw_c_V jw_oc_V (Nat.le_of_ble_eq_true rfl) jw_fl_V_111 rfl rfl ?_
        refine jw_iconst (v := 1) d_V_aim_85 jc_i_1 ?_
        refine jw_iadd d_V_aim_86 ?_
        refine jw_put (j := 10) d_V_aim_87 jw_k0 jw_c_V jw_oc_V (Nat.le_of_ble_eq_true rfl) jw_fl_V_111 rfl rfl rfl rfl ?_
        refine jw_iload_n (i := 3) d_V_aim_90 rfl rfl ?_
        refine jw_aload_n (i := 0) d_V_aim_91 rfl rfl ?_
        refine jw_get (j := 0) (v := jw_a G 1) d_V_aim_92 jw_k0 jw_c_V jw_oc_V (Nat.le_of_ble_eq_true rfl) jw_fl_V_18 rfl rfl ?_
        refine jw_get (j := 4) (v := .int ((jw_U (jw_U M1 36 j3 (M1 3 j2)) 0 10 (((jw_U M1 36 j3 (M1 3 j2)) 0 10) + 1)) 1 4)) d_V_aim_95 jw_k1 jw_c_R jw_oc_R (Nat.le_of_ble_eq_true rfl) jw_fl_V_181 rfl rfl ?_
        refine jw_icmp_ge (tgt := 111) d_V_aim_98 (by decide) (fun hc => ?_) (fun hc => ?_)
        · have h := h.1 hc
          refine jw_iinc (d := 1) d_V_aim_111 rfl jc_i_1 (Nat.le_of_ble_eq_true rfl) ?_
          refine jw_goto (tgt := 20) d_V_aim_114 (by decide) ?_
          exact h
        · have h := h.2 hc
          refine jw_aload_n (i := 0) d_V_aim_101 rfl rfl ?_
          refine jw_dup d_V_aim_102 rfl ?_
          refine jw_get (j := 11) (v := .int ((jw_U (jw_U M1 36 j3 (M1 3 j2)) 0 10 (((jw_U M1 36 j3 (M1 3 j2)) 0 10) + 1)) 0 11)) d_V_aim_103 jw_k0 jw_c_V jw_oc_V (Nat.le_of_ble_eq_true rfl) jw_fl_V_147 rfl rfl ?_
          refine jw_iconst (v := 1) d_V_aim_106 jc_i_1 ?_
          refine jw_iadd d_V_aim_107 ?_
          refine jw_put (j := 11) d_V_aim_108 jw_k0 jw_c_V jw_oc_V (Nat.le_of_ble_eq_true rfl) jw_fl_V_147 rfl rfl rfl rfl ?_
          refine jw_iinc (d := 1) d_V_aim_111 rfl jc_i_1 (Nat.le_of_ble_eq_true rfl) ?_
          refine jw_goto (tgt := 20) d_V_aim_114 (by decide) ?_
          exact h
set_option maxRecDepth 100000 in
theorem e_V_aim {l : Launch} {G : jw_G} {A : Nat → Prop} {x1 : Int32} {x2 : Int32} {M : jw_Mem} {Q : Int32 → jw_Mem → Prop} (h : ∀ X : jw_X0, (∀ M', Q 0 M' → jw_R l X (jw_g G) A f_V_aim 0 M') → jw_M l (jw_g G) A f_R_lookUp [jw_a G 1, .int x2] M (fun _ M1 => jw_X l X (jw_g G) A f_V_aim 20 [some (jw_a G 0), some (.int x1), some (.int x2), some (.int 0)] [] (jw_U (jw_U M1 0 10 0) 0 11 0))) : jw_M l (jw_g G) A f_V_aim [jw_a G 0, .int x1, .int x2] M Q := by
  refine jw_M_of (by decide) (Nat.le_of_ble_eq_true rfl) (by intro v hv; simp at hv; rcases hv with rfl | rfl | rfl <;> rfl) (fun X hR => ?_)
  exact k_V_aim_0  (h X (fun M' q => hR 0 M' q (fun ty h0 => nomatch h0)))

set_option maxRecDepth 100000 in
set_option maxHeartbeats 4000000 in
theorem k_V_sendToHomes_0 {l : Launch} {X : jw_X0} {G : jw_G} {A : Nat → Prop} {x1 : Int32} {M : jw_Mem} (h : jw_X l X (jw_g G) A f_V_sendToHomes 2 [some (jw_a G 0), some (.int x1), some (.int 0)] [] M) : jw_X l X (jw_g G) A f_V_sendToHomes 0 [some (jw_a G 0), some (.int x1), none] [] M := by
  refine jw_iconst (v := 0) d_V_sendToHomes_0 jc_i_0 ?_
  refine jw_istore_n (i := 2) d_V_sendToHomes_1 rfl (Nat.le_of_ble_eq_true rfl) ?_
  exact h
set_option maxRecDepth 100000 in
set_option maxHeartbeats 4000000 in
theorem k_V_sendToHomes_2 {l : Launch} {X : jw_X0} {G : jw_G} {A : Nat → Prop} {x1 x2 : Int32} {M : jw_Mem} (h : (((M 0 11) ≤ x2 → jw_R l X (jw_g G) A f_V_sendToHomes 0 M) ∧ (¬ (M 0 11) ≤ x2 → (∃ j1 : Nat, (j1 < 5 ∧ x2 = nI j1) ∧ (∃ a1 : Nat, (a1 < 5 ∧ (M 36 j1) = nI a1) ∧ jw_M l (jw_g G) A f_N_take [jw_a G (10 + 3 * a1), .int x1] M (fun r1 M1 => jw_X l X (jw_g G) A f_V_sendToHomes 2 [some (jw_a G 0), some (.int x1), some (.int (x2 + 1))] [] M1)))))) : jw_X l X (jw_g G) A f_V_sendToHomes 2 [some (jw_a G 0), some (.int x1), some (.int x2)] [] M := by
  refine jw_iload_n (i := 2) d_V_sendToHomes_2 rfl rfl ?_
  refine jw_aload_n (i := 0) d_V_sendToHomes_3 rfl rfl ?_
  refine jw_get (j := 11) (v := .int (M 0 11)) d_V_sendToHomes_4 jw_k0 jw_c_V jw_oc_V (Nat.le_of_ble_eq_true rfl) jw_fl_V_147 rfl rfl ?_
  refine jw_icmp_ge (tgt := 32) d_V_sendToHomes_7 (by decide) (fun hc => ?_) (fun hc => ?_)
  · have h := h.1 hc
    exact jw_return d_V_sendToHomes_32 rfl h
  · have h := h.2 hc
    refine jw_aload_n (i := 0) d_V_sendToHomes_10 rfl rfl ?_
    refine jw_get (j := 2) (v := jw_a G 9) d_V_sendToHomes_11 jw_k0 jw_c_V jw_oc_V (Nat.le_of_ble_eq_true rfl) jw_fl_V_40 rfl rfl ?_
    refine jw_aload_n (i := 0) d_V_sendToHomes_14 rfl rfl ?_
    refine jw_get (j := 9) (v := jw_a G 36) d_V_sendToHomes_15 jw_k0 jw_c_V jw_oc_V (Nat.le_of_ble_eq_true rfl) jw_fl_V_61 rfl rfl ?_
    refine jw_iload_n (i := 2) d_V_sendToHomes_18 rfl rfl ?_
    obtain ⟨j1, hj1, h⟩ := h
    refine jw_iald2 d_V_sendToHomes_19 jw_k36 (Nat.le_of_ble_eq_true rfl) hj1 ?_
    obtain ⟨a1, ha1, h⟩ := h
    refine jw_aaldN d_V_sendToHomes_20 ha1 ?_
    refine jw_iload_n (i := 1) d_V_sendToHomes_21 rfl rfl ?_
    refine jw_callV (As := [.int x1]) (S := []) d_V_sendToHomes_22 (jw_kN ha1.1) jw_c_N jw_ml_V_225 jw_in_f_N_take jw_se_f_N_take ⟨Nat.le_of_ble_eq_true rfl, Nat.le_of_ble_eq_true rfl⟩ rfl rfl (Nat.le_of_ble_eq_true rfl) (jw_M_mono h (fun r1 M1 h => ?_))
    refine jw_st (S' := [.int r1]) rfl ?_
    refine jw_pop d_V_sendToHomes_25 rfl ?_
    refine jw_iinc (d := 1) d_V_sendToHomes_26 rfl jc_i_1 (Nat.le_of_ble_eq_true rfl) ?_
    refine jw_goto (tgt := 2) d_V_sendToHomes_29 (by decide) ?_
    exact h
set_option maxRecDepth 100000 in
theorem e_V_sendToHomes {l : Launch} {G : jw_G} {A : Nat → Prop} {x1 : Int32} {M : jw_Mem} {Q : Int32 → jw_Mem → Prop} (h : ∀ X : jw_X0, (∀ M', Q 0 M' → jw_R l X (jw_g G) A f_V_sendToHomes 0 M') → jw_X l X (jw_g G) A f_V_sendToHomes 2 [some (jw_a G 0), some (.int x1), some (.int 0)] [] M) : jw_M l (jw_g G) A f_V_sendToHomes [jw_a G 0, .int x1] M Q := by
  refine jw_M_of (by decide) (Nat.le_of_ble_eq_true rfl) (by intro v hv; simp at hv; rcases hv with rfl | rfl <;> rfl) (fun X hR => ?_)
  exact k_V_sendToHomes_0  (h X (fun M' q => hR 0 M' q (fun ty h0 => nomatch h0)))

set_option maxRecDepth 100000 in
set_option maxHeartbeats 4000000 in
theorem k_V_leaveHints_0 {l : Launch} {X : jw_X0} {G : jw_G} {A : Nat → Prop} {x1 : Int32} {x2 : Int32} {M : jw_Mem} (h : jw_X l X (jw_g G) A f_V_leaveHints 8 [some (jw_a G 0), some (.int x1), some (.int x2), some (.int (M 0 11)), some (.int 0), none] [] M) : jw_X l X (jw_g G) A f_V_leaveHints 0 [some (jw_a G 0), some (.int x1), some (.int x2), none, none, none] [] M := by
  refine jw_aload_n (i := 0) d_V_leaveHints_0 rfl rfl ?_
  refine jw_get (j := 11) (v := .int (M 0 11)) d_V_leaveHints_1 jw_k0 jw_c_V jw_oc_V (Nat.le_of_ble_eq_true rfl) jw_fl_V_147 rfl rfl ?_
  refine jw_istore_n (i := 3) d_V_leaveHints_4 rfl (Nat.le_of_ble_eq_true rfl) ?_
  refine jw_iconst (v := 0) d_V_leaveHints_5 jc_i_0 ?_
  refine jw_istore d_V_leaveHints_6 (Nat.le_of_ble_eq_true rfl) ?_
  exact h
set_option maxRecDepth 100000 in
set_option maxHeartbeats 4000000 in
theorem k_V_leaveHints_8 {l : Launch} {X : jw_X0} {G : jw_G} {A : Nat → Prop} {x1 x2 x3 x4 : Int32} {M : jw_Mem} (h : (((M 1 4) ≤ x4 → jw_R l X (jw_g G) A f_V_leaveHints 0 M) ∧ (¬ (M 1 4) ≤ x4 → (∃ j1 : Nat, (j1 < 5 ∧ x4 = nI j1) ∧ (((M 0 10) ≤ x3 → jw_X l X (jw_g G) A f_V_leaveHints 8 [some (jw_a G 0), some (.int x1), some (.int x2), some (.int x3), some (.int (x4 + 1)), none] [] M) ∧ (¬ (M 0 10) ≤ x3 → jw_M l (jw_g G) A f_V_reaches [jw_a G 0, .int x1, .int (M 3 j1)] M (fun r1 M1 => ((¬ r1 = 0 → jw_X l X (jw_g G) A f_V_leaveHints 8 [some (jw_a G 0), some (.int x1), some (.int x2), some (.int x3), some (.int (x4 + 1)), none] [] M1) ∧ (r1 = 0 → (∃ j2 : Nat, (j2 < 5 ∧ x3 = nI j2) ∧ (∃ a1 : Nat, (a1 < 5 ∧ (M1 36 j2) = nI a1) ∧ (∃ j3 : Nat, (j3 < 40 ∧ x2 = nI j3) ∧ jw_X l X (jw_g G) A f_V_leaveHints 8 [some (jw_a G 0), some (.int x1), some (.int x2), some (.int (x3 + 1)), some (.int (x4 + 1)), none] [] (jw_U M1 (12 + 3 * a1) j3 (M 3 j1)))))))))))))) : jw_X l X (jw_g G) A f_V_leaveHints 8 [some (jw_a G 0), some (.int x1), some (.int x2), some (.int x3), some (.int x4), none] [] M := by
  refine jw_iload d_V_leaveHints_8 rfl ?_
  refine jw_aload_n (i := 0) d_V_leaveHints_10 rfl rfl ?_
  refine jw_get (j := 0) (v := jw_a G 1) d_V_leaveHints_11 jw_k0 jw_c_V jw_oc_V (Nat.le_of_ble_eq_true rfl) jw_fl_V_18 rfl rfl ?_
  refine jw_get (j := 4) (v := .int (M 1 4)) d_V_leaveHints_14 jw_k1 jw_c_R jw_oc_R (Nat.le_of_ble_eq_true rfl) jw_fl_V_181 rfl rfl ?_
  refine jw_icmp_ge (tgt := 77) d_V_leaveHints_17 (by decide) (fun hc => ?_) (fun hc => ?_)
  · have h := h.1 hc
    exact jw_return d_V_leaveHints_77 rfl h
  · have h := h.2 hc
    refine jw_aload_n (i := 0) d_V_leaveHints_20 rfl rfl ?_
    refine jw_get (j := 0) (v := jw_a G 1) d_V_leaveHints_21 jw_k0 jw_c_V jw_oc_V (Nat.le_of_ble_eq_true rfl) jw_fl_V_18 rfl rfl ?_
    refine jw_get (j := 2) (v := jw_a G 3) d_V_leaveHints_24 jw_k1 jw_c_R jw_oc_R (Nat.le_of_ble_eq_true rfl) jw_fl_V_184 rfl rfl ?_
    refine jw_iload d_V_leaveHints_27 rfl ?_
    obtain ⟨j1, hj1, h⟩ := h
    refine jw_iald2 d_V_leaveHints_29 jw_k3 (Nat.le_of_ble_eq_true rfl) hj1 ?_
    refine jw_istore d_V_leaveHints_30 (Nat.le_of_ble_eq_true rfl) ?_
    refine jw_iload_n (i := 3) d_V_leaveHints_32 rfl rfl ?_
    refine jw_aload_n (i := 0) d_V_leaveHints_33 rfl rfl ?_
    refine jw_get (j := 10) (v := .int (M 0 10)) d_V_leaveHints_34 jw_k0 jw_c_V jw_oc_V (Nat.le_of_ble_eq_true rfl) jw_fl_V_111 rfl rfl ?_
    refine jw_icmp_ge (tgt := 71) d_V_leaveHints_37 (by decide) (fun hc => ?_) (fun hc => ?_)
    · have h := h.1 hc
      refine jw_iinc (d := 1) d_V_leaveHints_71 rfl jc_i_1 (Nat.le_of_ble_eq_true rfl) ?_
      refine jw_goto (tgt := 8) d_V_leaveHints_74 (by decide) ?_
      refine jw_forget 5 ?_
      exact h
    · have h := h.2 hc
      refine jw_aload_n (i := 0) d_V_leaveHints_40 rfl rfl ?_
      refine jw_iload_n (i := 1) d_V_leaveHints_41 rfl rfl ?_
      refine jw_iload d_V_leaveHints_42 rfl ?_
      refine jw_callV (As := [.int x1, .int (M 3 j1)]) (S := []) d_V_leaveHints_44 jw_k0 jw_c_V jw_ml_V_161 jw_in_f_V_reaches jw_se_f_V_reaches ⟨Nat.le_of_ble_eq_true rfl, Nat.le_of_ble_eq_true rfl⟩ rfl rfl (Nat.le_of_ble_eq_true rfl) (jw_M_mono h (fun r1 M1 h => ?_))
      refine jw_st (S' := [.int r1]) rfl ?_
      refine jw_if_ne (tgt := 71) d_V_leaveHints_47 (by decide) (fun hc => ?_) (fun hc => ?_)
      · have h := h.1 hc
        refine jw_iinc (d := 1) d_V_leaveHints_71 rfl jc_i_1 (Nat.le_of_ble_eq_true rfl) ?_
        refine jw_goto (tgt := 8) d_V_leaveHints_74 (by decide) ?_
        refine jw_forget 5 ?_
        exact h
      · have h := h.2 hc
        refine jw_aload_n (i := 0) d_V_leaveHints_50 rfl rfl ?_
        refine jw_get (j := 2) (v := jw_a G 9) d_V_leaveHints_51 jw_k0 jw_c_V jw_oc_V (Nat.le_of_ble_eq_true rfl) jw_fl_V_40 rfl rfl ?_
        refine jw_aload_n (i := 0) d_V_leaveHints_54 rfl rfl ?_
        refine jw_get (j := 9) (v := jw_a G 36) d_V_leaveHints_55 jw_k0 jw_c_V jw_oc_V (Nat.le_of_ble_eq_true rfl) jw_fl_V_61 rfl rfl ?_
        refine jw_iload_n (i := 3) d_V_leaveHints_58 rfl rfl ?_
        obtain ⟨j2, hj2, h⟩ := h
        refine jw_iald2 d_V_leaveHints_59 jw_k36 (Nat.le_of_ble_eq_true rfl) hj2 ?_
        obtain ⟨a1, ha1, h⟩ := h
        refine jw_aaldN d_V_leaveHints_60 ha1 ?_
        refine jw_get (j := 2) (v := jw_a G (12 + 3 * a1)) d_V_leaveHints_61 (jw_kN ha1.1) jw_c_N jw_oc_N (Nat.le_of_ble_eq_true rfl) jw_fl_V_228 rfl rfl ?_
        refine jw_iload_n (i := 2) d_V_leaveHints_64 rfl rfl ?_
        refine jw_iload d_V_leaveHints_65 rfl ?_
        obtain ⟨j3, hj3, h⟩ := h
        refine jw_iast2 d_V_leaveHints_67 (jw_kI ha1.1) (Nat.le_of_ble_eq_true rfl) hj3 ?_
        refine jw_iinc (d := 1) d_V_leaveHints_68 rfl jc_i_1 (Nat.le_of_ble_eq_true rfl) ?_
        refine jw_iinc (d := 1) d_V_leaveHints_71 rfl jc_i_1 (Nat.le_of_ble_eq_true rfl) ?_
        refine jw_goto (tgt := 8) d_V_leaveHints_74 (by decide) ?_
        refine jw_forget 5 ?_
        exact h
set_option maxRecDepth 100000 in
theorem e_V_leaveHints {l : Launch} {G : jw_G} {A : Nat → Prop} {x1 : Int32} {x2 : Int32} {M : jw_Mem} {Q : Int32 → jw_Mem → Prop} (h : ∀ X : jw_X0, (∀ M', Q 0 M' → jw_R l X (jw_g G) A f_V_leaveHints 0 M') → jw_X l X (jw_g G) A f_V_leaveHints 8 [some (jw_a G 0), some (.int x1), some (.int x2), some (.int (M 0 11)), some (.int 0), none] [] M) : jw_M l (jw_g G) A f_V_leaveHints [jw_a G 0, .int x1, .int x2] M Q := by
  refine jw_M_of (by decide) (Nat.le_of_ble_eq_true rfl) (by intro v hv; simp at hv; rcases hv with rfl | rfl | rfl <;> rfl) (fun X hR => ?_)
  exact k_V_leaveHints_0  (h X (fun M' q => hR 0 M' q (fun ty h0 => nomatch h0)))

set_option maxRecDepth 100000 in
set_option maxHeartbeats 4000000 in
theorem k_V_lookAtTargets_0 {l : Launch} {X : jw_X0} {G : jw_G} {A : Nat → Prop} {x1 : Int32} {M : jw_Mem} (h : jw_X l X (jw_g G) A f_V_lookAtTargets 2 [some (jw_a G 0), some (.int x1), some (.int 0)] [] M) : jw_X l X (jw_g G) A f_V_lookAtTargets 0 [some (jw_a G 0), some (.int x1), none] [] M := by
  refine jw_iconst (v := 0) d_V_lookAtTargets_0 jc_i_0 ?_
  refine jw_istore_n (i := 2) d_V_lookAtTargets_1 rfl (Nat.le_of_ble_eq_true rfl) ?_
  exact h
set_option maxRecDepth 100000 in
set_option maxHeartbeats 4000000 in
theorem k_V_lookAtTargets_2 {l : Launch} {X : jw_X0} {G : jw_G} {A : Nat → Prop} {x1 x2 : Int32} {M : jw_Mem} (h : (((M 4 4) ≤ x2 → jw_R l X (jw_g G) A f_V_lookAtTargets 0 M) ∧ (¬ (M 4 4) ≤ x2 → (∃ j1 : Nat, (j1 < 40 ∧ x2 = nI j1) ∧ ((¬ (M 5 j1) = x1 → (∃ j2 : Nat, (j2 < 40 ∧ x2 = nI j2) ∧ jw_X l X (jw_g G) A f_V_lookAtTargets 2 [some (jw_a G 0), some (.int x1), some (.int (x2 + 1))] [] (jw_U M 37 j2 0))) ∧ ((M 5 j1) = x1 → jw_M l (jw_g G) A f_V_isAtSomeTarget [jw_a G 0, .int x2] M (fun r1 M1 => ((r1 = 0 → (∃ j3 : Nat, (j3 < 40 ∧ x2 = nI j3) ∧ jw_X l X (jw_g G) A f_V_lookAtTargets 2 [some (jw_a G 0), some (.int x1), some (.int (x2 + 1))] [] (jw_U M1 37 j3 0))) ∧ (¬ r1 = 0 → (∃ j4 : Nat, (j4 < 40 ∧ x2 = nI j4) ∧ jw_X l X (jw_g G) A f_V_lookAtTargets 2 [some (jw_a G 0), some (.int x1), some (.int (x2 + 1))] [] (jw_U M1 37 j4 1))))))))))) : jw_X l X (jw_g G) A f_V_lookAtTargets 2 [some (jw_a G 0), some (.int x1), some (.int x2)] [] M := by
  refine jw_iload_n (i := 2) d_V_lookAtTargets_2 rfl rfl ?_
  refine jw_aload_n (i := 0) d_V_lookAtTargets_3 rfl rfl ?_
  refine jw_get (j := 1) (v := jw_a G 4) d_V_lookAtTargets_4 jw_k0 jw_c_V jw_oc_V (Nat.le_of_ble_eq_true rfl) jw_fl_V_34 rfl rfl ?_
  refine jw_get (j := 4) (v := .int (M 4 4)) d_V_lookAtTargets_7 jw_k4 jw_c_G jw_oc_G (Nat.le_of_ble_eq_true rfl) jw_fl_V_104 rfl rfl ?_
  refine jw_icmp_ge (tgt := 51) d_V_lookAtTargets_10 (by decide) (fun hc => ?_) (fun hc => ?_)
  · have h := h.1 hc
    exact jw_return d_V_lookAtTargets_51 rfl h
  · have h := h.2 hc
    refine jw_aload_n (i := 0) d_V_lookAtTargets_13 rfl rfl ?_
    refine jw_get (j := 12) (v := jw_a G 37) d_V_lookAtTargets_14 jw_k0 jw_c_V jw_oc_V (Nat.le_of_ble_eq_true rfl) jw_fl_V_65 rfl rfl ?_
    refine jw_iload_n (i := 2) d_V_lookAtTargets_17 rfl rfl ?_
    refine jw_aload_n (i := 0) d_V_lookAtTargets_18 rfl rfl ?_
    refine jw_get (j := 1) (v := jw_a G 4) d_V_lookAtTargets_19 jw_k0 jw_c_V jw_oc_V (Nat.le_of_ble_eq_true rfl) jw_fl_V_34 rfl rfl ?_
    refine jw_get (j := 0) (v := jw_a G 5) d_V_lookAtTargets_22 jw_k4 jw_c_G jw_oc_G (Nat.le_of_ble_eq_true rfl) jw_fl_V_200 rfl rfl ?_
    refine jw_iload_n (i := 2) d_V_lookAtTargets_25 rfl rfl ?_
    obtain ⟨j1, hj1, h⟩ := h
    refine jw_iald2 d_V_lookAtTargets_26 jw_k5 (Nat.le_of_ble_eq_true rfl) hj1 ?_
    refine jw_iload_n (i := 1) d_V_lookAtTargets_27 rfl rfl ?_
    refine jw_icmp_ne (tgt := 43) d_V_lookAtTargets_28 (by decide) (fun hc => ?_) (fun hc => ?_)
    · have h := h.1 hc
      refine jw_iconst (v := 0) d_V_lookAtTargets_43 jc_i_0 ?_
      obtain ⟨j2, hj2, h⟩ := h
      refine jw_zast2 d_V_lookAtTargets_44 jw_k37 (Nat.le_of_ble_eq_true rfl) hj2 jw_b0 ?_
      refine jw_iinc (d := 1) d_V_lookAtTargets_45 rfl jc_i_1 (Nat.le_of_ble_eq_true rfl) ?_
      refine jw_goto (tgt := 2) d_V_lookAtTargets_48 (by decide) ?_
      exact h
    · have h := h.2 hc
      refine jw_aload_n (i := 0) d_V_lookAtTargets_31 rfl rfl ?_
      refine jw_iload_n (i := 2) d_V_lookAtTargets_32 rfl rfl ?_
      refine jw_callV (As := [.int x2]) (S := [.int x2, jw_a G 37]) d_V_lookAtTargets_33 jw_k0 jw_c_V jw_ml_V_231 jw_in_f_V_isAtSomeTarget jw_se_f_V_isAtSomeTarget ⟨Nat.le_of_ble_eq_true rfl, Nat.le_of_ble_eq_true rfl⟩ rfl rfl (Nat.le_of_ble_eq_true rfl) (jw_M_mono h (fun r1 M1 h => ?_))
      refine jw_st (S' := [.int r1, .int x2, jw_a G 37]) rfl ?_
      refine jw_if_eq (tgt := 43) d_V_lookAtTargets_36 (by decide) (fun hc => ?_) (fun hc => ?_)
      · have h := h.1 hc
        refine jw_iconst (v := 0) d_V_lookAtTargets_43 jc_i_0 ?_
        obtain ⟨j3, hj3, h⟩ := h
        refine jw_zast2 d_V_lookAtTargets_44 jw_k37 (Nat.le_of_ble_eq_true rfl) hj3 jw_b0 ?_
        refine jw_iinc (d := 1) d_V_lookAtTargets_45 rfl jc_i_1 (Nat.le_of_ble_eq_true rfl) ?_
        refine jw_goto (tgt := 2) d_V_lookAtTargets_48 (by decide) ?_
        exact h
      · have h := h.2 hc
        refine jw_iconst (v := 1) d_V_lookAtTargets_39 jc_i_1 ?_
        refine jw_goto (tgt := 44) d_V_lookAtTargets_40 (by decide) ?_
        obtain ⟨j4, hj4, h⟩ := h
        refine jw_zast2 d_V_lookAtTargets_44 jw_k37 (Nat.le_of_ble_eq_true rfl) hj4 jw_b1 ?_
        refine jw_iinc (d := 1) d_V_lookAtTargets_45 rfl jc_i_1 (Nat.le_of_ble_eq_true rfl) ?_
        refine jw_goto (tgt := 2) d_V_lookAtTargets_48 (by decide) ?_
        exact h
set_option maxRecDepth 100000 in
theorem e_V_lookAtTargets {l : Launch} {G : jw_G} {A : Nat → Prop} {x1 : Int32} {M : jw_Mem} {Q : Int32 → jw_Mem → Prop} (h : ∀ X : jw_X0, (∀ M', Q 0 M' → jw_R l X (jw_g G) A f_V_lookAtTargets 0 M') → jw_X l X (jw_g G) A f_V_lookAtTargets 2 [some (jw_a G 0), some (.int x1), some (.int 0)] [] M) : jw_M l (jw_g G) A f_V_lookAtTargets [jw_a G 0, .int x1] M Q := by
  refine jw_M_of (by decide) (Nat.le_of_ble_eq_true rfl) (by intro v hv; simp at hv; rcases hv with rfl | rfl <;> rfl) (fun X hR => ?_)
  exact k_V_lookAtTargets_0  (h X (fun M' q => hR 0 M' q (fun ty h0 => nomatch h0)))

set_option maxRecDepth 100000 in
set_option maxHeartbeats 4000000 in
theorem k_V_isAtSomeTarget_0 {l : Launch} {X : jw_X0} {G : jw_G} {A : Nat → Prop} {x1 : Int32} {M : jw_Mem} (h : jw_X l X (jw_g G) A f_V_isAtSomeTarget 2 [some (jw_a G 0), some (.int x1), some (.int 0), none] [] M) : jw_X l X (jw_g G) A f_V_isAtSomeTarget 0 [some (jw_a G 0), some (.int x1), none, none] [] M := by
  refine jw_iconst (v := 0) d_V_isAtSomeTarget_0 jc_i_0 ?_
  refine jw_istore_n (i := 2) d_V_isAtSomeTarget_1 rfl (Nat.le_of_ble_eq_true rfl) ?_
  exact h
set_option maxRecDepth 100000 in
set_option maxHeartbeats 4000000 in
theorem k_V_isAtSomeTarget_2 {l : Launch} {X : jw_X0} {G : jw_G} {A : Nat → Prop} {x1 x2 : Int32} {M : jw_Mem} (h : (((M 0 10) ≤ x2 → jw_R l X (jw_g G) A f_V_isAtSomeTarget 0 M) ∧ (¬ (M 0 10) ≤ x2 → (∃ j1 : Nat, (j1 < 5 ∧ x2 = nI j1) ∧ (∃ a1 : Nat, (a1 < 5 ∧ (M 36 j1) = nI a1) ∧ (∃ j2 : Nat, (j2 < 40 ∧ x1 = nI j2) ∧ ((¬ (M (11 + 3 * a1) j2) = 0 → jw_R l X (jw_g G) A f_V_isAtSomeTarget 1 M) ∧ ((M (11 + 3 * a1) j2) = 0 → jw_M l (jw_g G) A f_N_hasHintOf [jw_a G (10 + 3 * a1), .int x1] M (fun r1 M1 => ((r1 = 0 → jw_X l X (jw_g G) A f_V_isAtSomeTarget 2 [some (jw_a G 0), some (.int x1), some (.int (x2 + 1)), none] [] M1) ∧ (¬ r1 = 0 → jw_R l X (jw_g G) A f_V_isAtSomeTarget 1 M1))))))))))) : jw_X l X (jw_g G) A f_V_isAtSomeTarget 2 [some (jw_a G 0), some (.int x1), some (.int x2), none] [] M := by
  refine jw_iload_n (i := 2) d_V_isAtSomeTarget_2 rfl rfl ?_
  refine jw_aload_n (i := 0) d_V_isAtSomeTarget_3 rfl rfl ?_
  refine jw_get (j := 10) (v := .int (M 0 10)) d_V_isAtSomeTarget_4 jw_k0 jw_c_V jw_oc_V (Nat.le_of_ble_eq_true rfl) jw_fl_V_111 rfl rfl ?_
  refine jw_icmp_ge (tgt := 47) d_V_isAtSomeTarget_7 (by decide) (fun hc => ?_) (fun hc => ?_)
  · have h := h.1 hc
    refine jw_iconst (v := 0) d_V_isAtSomeTarget_47 jc_i_0 ?_
    exact jw_ireturn d_V_isAtSomeTarget_48 rfl h
  · have h := h.2 hc
    refine jw_aload_n (i := 0) d_V_isAtSomeTarget_10 rfl rfl ?_
    refine jw_get (j := 2) (v := jw_a G 9) d_V_isAtSomeTarget_11 jw_k0 jw_c_V jw_oc_V (Nat.le_of_ble_eq_true rfl) jw_fl_V_40 rfl rfl ?_
    refine jw_aload_n (i := 0) d_V_isAtSomeTarget_14 rfl rfl ?_
    refine jw_get (j := 9) (v := jw_a G 36) d_V_isAtSomeTarget_15 jw_k0 jw_c_V jw_oc_V (Nat.le_of_ble_eq_true rfl) jw_fl_V_61 rfl rfl ?_
    refine jw_iload_n (i := 2) d_V_isAtSomeTarget_18 rfl rfl ?_
    obtain ⟨j1, hj1, h⟩ := h
    refine jw_iald2 d_V_isAtSomeTarget_19 jw_k36 (Nat.le_of_ble_eq_true rfl) hj1 ?_
    obtain ⟨a1, ha1, h⟩ := h
    refine jw_aaldN d_V_isAtSomeTarget_20 ha1 ?_
    refine jw_astore_n (i := 3) d_V_isAtSomeTarget_21 rfl (Nat.le_of_ble_eq_true rfl) ?_
    refine jw_aload_n (i := 3) d_V_isAtSomeTarget_22 rfl rfl ?_
    refine jw_get (j := 1) (v := jw_a G (11 + 3 * a1)) d_V_isAtSomeTarget_23 (jw_kN ha1.1) jw_c_N jw_oc_N (Nat.le_of_ble_eq_true rfl) jw_fl_V_190 rfl rfl ?_
    refine jw_iload_n (i := 1) d_V_isAtSomeTarget_26 rfl rfl ?_
    obtain ⟨j2, hj2, h⟩ := h
    refine jw_zald2 d_V_isAtSomeTarget_27 (jw_kH ha1.1) (Nat.le_of_ble_eq_true rfl) hj2 ?_
    refine jw_if_ne (tgt := 39) d_V_isAtSomeTarget_28 (by decide) (fun hc => ?_) (fun hc => ?_)
    · have h := h.1 hc
      refine jw_iconst (v := 1) d_V_isAtSomeTarget_39 jc_i_1 ?_
      exact jw_ireturn d_V_isAtSomeTarget_40 rfl h
    · have h := h.2 hc
      refine jw_aload_n (i := 3) d_V_isAtSomeTarget_31 rfl rfl ?_
      refine jw_iload_n (i := 1) d_V_isAtSomeTarget_32 rfl rfl ?_
      refine jw_callV (As := [.int x1]) (S := []) d_V_isAtSomeTarget_33 (jw_kN ha1.1) jw_c_N jw_ml_V_193 jw_in_f_N_hasHintOf jw_se_f_N_hasHintOf ⟨Nat.le_of_ble_eq_true rfl, Nat.le_of_ble_eq_true rfl⟩ rfl rfl (Nat.le_of_ble_eq_true rfl) (jw_M_mono h (fun r1 M1 h => ?_))
      refine jw_st (S' := [.int r1]) rfl ?_
      refine jw_if_eq (tgt := 41) d_V_isAtSomeTarget_36 (by decide) (fun hc => ?_) (fun hc => ?_)
      · have h := h.1 hc
        refine jw_iinc (d := 1) d_V_isAtSomeTarget_41 rfl jc_i_1 (Nat.le_of_ble_eq_true rfl) ?_
        refine jw_goto (tgt := 2) d_V_isAtSomeTarget_44 (by decide) ?_
        refine jw_forget 3 ?_
        exact h
      · have h := h.2 hc
        refine jw_iconst (v := 1) d_V_isAtSomeTarget_39 jc_i_1 ?_
        exact jw_ireturn d_V_isAtSomeTarget_40 rfl h
set_option maxRecDepth 100000 in
theorem e_V_isAtSomeTarget {l : Launch} {G : jw_G} {A : Nat → Prop} {x1 : Int32} {M : jw_Mem} {Q : Int32 → jw_Mem → Prop} (h : ∀ X : jw_X0, (∀ r M', Q r M' → (r = 0 ∨ r = 1) → jw_R l X (jw_g G) A f_V_isAtSomeTarget r M') → jw_X l X (jw_g G) A f_V_isAtSomeTarget 2 [some (jw_a G 0), some (.int x1), some (.int 0), none] [] M) : jw_M l (jw_g G) A f_V_isAtSomeTarget [jw_a G 0, .int x1] M Q := by
  refine jw_M_of (by decide) (Nat.le_of_ble_eq_true rfl) (by intro v hv; simp at hv; rcases hv with rfl | rfl <;> rfl) (fun X hR => ?_)
  exact k_V_isAtSomeTarget_0  (h X (fun r M' q hb => hR r M' q (fun ty h0 => by cases h0; exact jw_nb hb)))

set_option maxRecDepth 100000 in
set_option maxHeartbeats 4000000 in
theorem k_V_keepLatest_0 {l : Launch} {X : jw_X0} {G : jw_G} {A : Nat → Prop}  {M : jw_Mem} (h : jw_X l X (jw_g G) A f_V_keepLatest 4 [some (jw_a G 0), some (.int 0), some (.int 0)] [] M) : jw_X l X (jw_g G) A f_V_keepLatest 0 [some (jw_a G 0), none, none] [] M := by
  refine jw_iconst (v := 0) d_V_keepLatest_0 jc_i_0 ?_
  refine jw_istore_n (i := 1) d_V_keepLatest_1 rfl (Nat.le_of_ble_eq_true rfl) ?_
  refine jw_iconst (v := 0) d_V_keepLatest_2 jc_i_0 ?_
  refine jw_istore_n (i := 2) d_V_keepLatest_3 rfl (Nat.le_of_ble_eq_true rfl) ?_
  exact h
set_option maxRecDepth 100000 in
set_option maxHeartbeats 4000000 in
theorem k_V_keepLatest_4 {l : Launch} {X : jw_X0} {G : jw_G} {A : Nat → Prop} {x1 x2 : Int32} {M : jw_Mem} (h : (((M 4 4) ≤ x2 → jw_R l X (jw_g G) A f_V_keepLatest x1 M) ∧ (¬ (M 4 4) ≤ x2 → (∃ j1 : Nat, (j1 < 40 ∧ x2 = nI j1) ∧ (((M 37 j1) = 0 → (∃ j2 : Nat, (j2 < 40 ∧ x2 = nI j2) ∧ (∃ j3 : Nat, (j3 < 40 ∧ x2 = nI j3) ∧ ((((jw_U M 35 j2 0) 35 j3) = 0 → jw_X l X (jw_g G) A f_V_keepLatest 4 [some (jw_a G 0), some (.int x1), some (.int (x2 + 1))] [] (jw_U M 35 j2 0)) ∧ (¬ ((jw_U M 35 j2 0) 35 j3) = 0 → jw_X l X (jw_g G) A f_V_keepLatest 4 [some (jw_a G 0), some (.int (x1 + 1)), some (.int (x2 + 1))] [] (jw_U M 35 j2 0)))))) ∧ (¬ (M 37 j1) = 0 → jw_M l (jw_g G) A f_V_isPassedBySeen [jw_a G 0, .int x2] M (fun r1 M1 => ((¬ r1 = 0 → (∃ j4 : Nat, (j4 < 40 ∧ x2 = nI j4) ∧ (∃ j5 : Nat, (j5 < 40 ∧ x2 = nI j5) ∧ ((((jw_U M1 35 j4 0) 35 j5) = 0 → jw_X l X (jw_g G) A f_V_keepLatest 4 [some (jw_a G 0), some (.int x1), some (.int (x2 + 1))] [] (jw_U M1 35 j4 0)) ∧ (¬ ((jw_U M1 35 j4 0) 35 j5) = 0 → jw_X l X (jw_g G) A f_V_keepLatest 4 [some (jw_a G 0), some (.int (x1 + 1)), some (.int (x2 + 1))] [] (jw_U M1 35 j4 0)))))) ∧ (r1 = 0 → (∃ j6 : Nat, (j6 < 40 ∧ x2 = nI j6) ∧ (∃ j7 : Nat, (j7 < 40 ∧ x2 = nI j7) ∧ ((((jw_U M1 35 j6 1) 35 j7) = 0 → jw_X l X (jw_g G) A f_V_keepLatest 4 [some (jw_a G 0), some (.int x1), some (.int (x2 + 1))] [] (jw_U M1 35 j6 1)) ∧ (¬ ((jw_U M1 35 j6 1) 35 j7) = 0 → jw_X l X (jw_g G) A f_V_keepLatest 4 [some (jw_a G 0), some (.int (x1 + 1)), some (.int (x2 + 1))] [] (jw_U M1 35 j6 1)))))))))))))) : jw_X l X (jw_g G) A f_V_keepLatest 4 [some (jw_a G 0), some (.int x1), some (.int x2)] [] M := by
  refine jw_iload_n (i := 2) d_V_keepLatest_4 rfl rfl ?_
  refine jw_aload_n (i := 0) d_V_keepLatest_5 rfl rfl ?_
  refine jw_get (j := 1) (v := jw_a G 4) d_V_keepLatest_6 jw_k0 jw_c_V jw_oc_V (Nat.le_of_ble_eq_true rfl) jw_fl_V_34 rfl rfl ?_
  refine jw_get (j := 4) (v := .int (M 4 4)) d_V_keepLatest_9 jw_k4 jw_c_G jw_oc_G (Nat.le_of_ble_eq_true rfl) jw_fl_V_104 rfl rfl ?_
  refine jw_icmp_ge (tgt := 61) d_V_keepLatest_12 (by decide) (fun hc => ?_) (fun hc => ?_)
  · have h := h.1 hc
    refine jw_iload_n (i := 1) d_V_keepLatest_61 rfl rfl ?_
    exact jw_ireturn d_V_keepLatest_62 rfl h
  · have h := h.2 hc
    refine jw_aload_n (i := 0) d_V_keepLatest_15 rfl rfl ?_
    refine jw_get (j := 7) (v := jw_a G 35) d_V_keepLatest_16 jw_k0 jw_c_V jw_oc_V (Nat.le_of_ble_eq_true rfl) jw_fl_V_58 rfl rfl ?_
    refine jw_iload_n (i := 2) d_V_keepLatest_19 rfl rfl ?_
    refine jw_aload_n (i := 0) d_V_keepLatest_20 rfl rfl ?_
    refine jw_get (j := 12) (v := jw_a G 37) d_V_keepLatest_21 jw_k0 jw_c_V jw_oc_V (Nat.le_of_ble_eq_true rfl) jw_fl_V_65 rfl rfl ?_
    refine jw_iload_n (i := 2) d_V_keepLatest_24 rfl rfl ?_
    obtain ⟨j1, hj1, h⟩ := h
    refine jw_zald2 d_V_keepLatest_25 jw_k37 (Nat.le_of_ble_eq_true rfl) hj1 ?_
    refine jw_if_eq (tgt := 41) d_V_keepLatest_26 (by decide) (fun hc => ?_) (fun hc => ?_)
    · have h := h.1 hc
      refine jw_iconst (v := 0) d_V_keepLatest_41 jc_i_0 ?_
      obtain ⟨j2, hj2, h⟩ := h
      refine jw_zast2 d_V_keepLatest_42 jw_k35 (Nat.le_of_ble_eq_true rfl) hj2 jw_b0 ?_
      refine jw_aload_n (i := 0) d_V_keepLatest_43 rfl rfl ?_
      refine jw_get (j := 7) (v := jw_a G 35) d_V_keepLatest_44 jw_k0 jw_c_V jw_oc_V (Nat.le_of_ble_eq_true rfl) jw_fl_V_58 rfl rfl ?_
      refine jw_iload_n (i := 2) d_V_keepLatest_47 rfl rfl ?_
      obtain ⟨j3, hj3, h⟩ := h
      refine jw_zald2 d_V_keepLatest_48 jw_k35 (Nat.le_of_ble_eq_true rfl) hj3 ?_
      refine jw_if_eq (tgt := 55) d_V_keepLatest_49 (by decide) (fun hc => ?_) (fun hc => ?_)
      · have h := h.1 hc
        refine jw_iinc (d := 1) d_V_keepLatest_55 rfl jc_i_1 (Nat.le_of_ble_eq_true rfl) ?_
        refine jw_goto (tgt := 4) d_V_keepLatest_58 (by decide) ?_
        exact h
      · have h := h.2 hc
        refine jw_iinc (d := 1) d_V_keepLatest_52 rfl jc_i_1 (Nat.le_of_ble_eq_true rfl) ?_
        refine jw_iinc (d := 1) d_V_keepLatest_55 rfl jc_i_1 (Nat.le_of_ble_eq_true rfl) ?_
        refine jw_goto (tgt := 4) d_V_keepLatest_58 (by decide) ?_
        exact h
    · have h := h.2 hc
      refine jw_aload_n (i := 0) d_V_keepLatest_29 rfl rfl ?_
      refine jw_iload_n (i := 2) d_V_keepLatest_30 rfl rfl ?_
      refine jw_callV (As := [.int x2]) (S := [.int x2, jw_a G 35]) d_V_keepLatest_31 jw_k0 jw_c_V jw_ml_V_234 jw_in_f_V_isPassedBySeen jw_se_f_V_isPassedBySeen ⟨Nat.le_of_ble_eq_true rfl, Nat.le_of_ble_eq_true rfl⟩ rfl rfl (Nat.le_of_ble_eq_true rfl) (jw_M_mono h (fun r1 M1 h => ?_))
      refine jw_st (S' := [.int r1, .int x2, jw_a G 35]) rfl ?_
      refine jw_if_ne (tgt := 41) d_V_keepLatest_34 (by decide) (fun hc => ?_) (fun hc => ?_)
      · have h := h.1 hc
        refine jw_iconst (v := 0) d_V_keepLatest_41 jc_i_0 ?_
        obtain ⟨j4, hj4, h⟩ := h
        refine jw_zast2 d_V_keepLatest_42 jw_k35 (Nat.le_of_ble_eq_true rfl) hj4 jw_b0 ?_
        refine jw_aload_n (i := 0) d_V_keepLatest_43 rfl rfl ?_
        refine jw_get (j := 7) (v := jw_a G 35) d_V_keepLatest_44 jw_k0 jw_c_V jw_oc_V (Nat.le_of_ble_eq_true rfl) jw_fl_V_58 rfl rfl ?_
        refine jw_iload_n (i := 2) d_V_keepLatest_47 rfl rfl ?_
        obtain ⟨j5, hj5, h⟩ := h
        refine jw_zald2 d_V_keepLatest_48 jw_k35 (Nat.le_of_ble_eq_true rfl) hj5 ?_
        refine jw_if_eq (tgt := 55) d_V_keepLatest_49 (by decide) (fun hc => ?_) (fun hc => ?_)
        · have h := h.1 hc
          refine jw_iinc (d := 1) d_V_keepLatest_55 rfl jc_i_1 (Nat.le_of_ble_eq_true rfl) ?_
          refine jw_goto (tgt := 4) d_V_keepLatest_58 (by decide) ?_
          exact h
        · have h := h.2 hc
          refine jw_iinc (d := 1) d_V_keepLatest_52 rfl jc_i_1 (Nat.le_of_ble_eq_true rfl) ?_
          refine jw_iinc (d := 1) d_V_keepLatest_55 rfl jc_i_1 (Nat.le_of_ble_eq_true rfl) ?_
          refine jw_goto (tgt := 4) d_V_keepLatest_58 (by decide) ?_
          exact h
      · have h := h.2 hc
        refine jw_iconst (v := 1) d_V_keepLatest_37 jc_i_1 ?_
        refine jw_goto (tgt := 42) d_V_keepLatest_38 (by decide) ?_
        obtain ⟨j6, hj6, h⟩ := h
        refine jw_zast2 d_V_keepLatest_42 jw_k35 (Nat.le_of_ble_eq_true rfl) hj6 jw_b1 ?_
        refine jw_aload_n (i := 0) d_V_keepLatest_43 rfl rfl ?_
        refine jw_get (j := 7) (v := jw_a G 35) d_V_keepLatest_44 jw_k0 jw_c_V jw_oc_V (Nat.le_of_ble_eq_true rfl) jw_fl_V_58 rfl rfl ?_
        refine jw_iload_n (i := 2) d_V_keepLatest_47 rfl rfl ?_
        obtain ⟨j7, hj7, h⟩ := h
        refine jw_zald2 d_V_keepLatest_48 jw_k35 (Nat.le_of_ble_eq_true rfl) hj7 ?_
        refine jw_if_eq (tgt := 55) d_V_keepLatest_49 (by decide) (fun hc => ?_) (fun hc => ?_)
        · have h := h.1 hc
          refine jw_iinc (d := 1) d_V_keepLatest_55 rfl jc_i_1 (Nat.le_of_ble_eq_true rfl) ?_
          refine jw_goto (tgt := 4) d_V_keepLatest_58 (by decide) ?_
          exact h
        · have h := h.2 hc
          refine jw_iinc (d := 1) d_V_keepLatest_52 rfl jc_i_1 (Nat.le_of_ble_eq_true rfl) ?_
          refine jw_iinc (d := 1) d_V_keepLatest_55 rfl jc_i_1 (Nat.le_of_ble_eq_true rfl) ?_
          refine jw_goto (tgt := 4) d_V_keepLatest_58 (by decide) ?_
          exact h
set_option maxRecDepth 100000 in
theorem e_V_keepLatest {l : Launch} {G : jw_G} {A : Nat → Prop}  {M : jw_Mem} {Q : Int32 → jw_Mem → Prop} (h : ∀ X : jw_X0, (∀ r M', Q r M' → jw_R l X (jw_g G) A f_V_keepLatest r M') → jw_X l X (jw_g G) A f_V_keepLatest 4 [some (jw_a G 0), some (.int 0), some (.int 0)] [] M) : jw_M l (jw_g G) A f_V_keepLatest [jw_a G 0] M Q := by
  refine jw_M_of (by decide) (Nat.le_of_ble_eq_true rfl) (by intro v hv; simp at hv; rcases hv with rfl <;> rfl) (fun X hR => ?_)
  exact k_V_keepLatest_0  (h X (fun r M' q => hR r M' q (fun ty h0 => by cases h0; rfl)))

set_option maxRecDepth 100000 in
set_option maxHeartbeats 4000000 in
theorem k_V_isPassedBySeen_0 {l : Launch} {X : jw_X0} {G : jw_G} {A : Nat → Prop} {x1 : Int32} {M : jw_Mem} (h : jw_X l X (jw_g G) A f_V_isPassedBySeen 2 [some (jw_a G 0), some (.int x1), some (.int 0)] [] M) : jw_X l X (jw_g G) A f_V_isPassedBySeen 0 [some (jw_a G 0), some (.int x1), none] [] M := by
  refine jw_iconst (v := 0) d_V_isPassedBySeen_0 jc_i_0 ?_
  refine jw_istore_n (i := 2) d_V_isPassedBySeen_1 rfl (Nat.le_of_ble_eq_true rfl) ?_
  exact h
set_option maxRecDepth 100000 in
set_option maxHeartbeats 4000000 in
theorem k_V_isPassedBySeen_2 {l : Launch} {X : jw_X0} {G : jw_G} {A : Nat → Prop} {x1 x2 : Int32} {M : jw_Mem} (h : (((M 4 4) ≤ x2 → jw_R l X (jw_g G) A f_V_isPassedBySeen 0 M) ∧ (¬ (M 4 4) ≤ x2 → ((x2 = x1 → jw_X l X (jw_g G) A f_V_isPassedBySeen 2 [some (jw_a G 0), some (.int x1), some (.int (x2 + 1))] [] M) ∧ (¬ x2 = x1 → (∃ j1 : Nat, (j1 < 40 ∧ x2 = nI j1) ∧ (((M 37 j1) = 0 → jw_X l X (jw_g G) A f_V_isPassedBySeen 2 [some (jw_a G 0), some (.int x1), some (.int (x2 + 1))] [] M) ∧ (¬ (M 37 j1) = 0 → jw_M l (jw_g G) A f_G_isAtOrBelow [jw_a G 4, .int x1, .int x2] M (fun r1 M1 => ((r1 = 0 → jw_X l X (jw_g G) A f_V_isPassedBySeen 2 [some (jw_a G 0), some (.int x1), some (.int (x2 + 1))] [] M1) ∧ (¬ r1 = 0 → jw_R l X (jw_g G) A f_V_isPassedBySeen 1 M1))))))))))) : jw_X l X (jw_g G) A f_V_isPassedBySeen 2 [some (jw_a G 0), some (.int x1), some (.int x2)] [] M := by
  refine jw_iload_n (i := 2) d_V_isPassedBySeen_2 rfl rfl ?_
  refine jw_aload_n (i := 0) d_V_isPassedBySeen_3 rfl rfl ?_
  refine jw_get (j := 1) (v := jw_a G 4) d_V_isPassedBySeen_4 jw_k0 jw_c_V jw_oc_V (Nat.le_of_ble_eq_true rfl) jw_fl_V_34 rfl rfl ?_
  refine jw_get (j := 4) (v := .int (M 4 4)) d_V_isPassedBySeen_7 jw_k4 jw_c_G jw_oc_G (Nat.le_of_ble_eq_true rfl) jw_fl_V_104 rfl rfl ?_
  refine jw_icmp_ge (tgt := 47) d_V_isPassedBySeen_10 (by decide) (fun hc => ?_) (fun hc => ?_)
  · have h := h.1 hc
    refine jw_iconst (v := 0) d_V_isPassedBySeen_47 jc_i_0 ?_
    exact jw_ireturn d_V_isPassedBySeen_48 rfl h
  · have h := h.2 hc
    refine jw_iload_n (i := 2) d_V_isPassedBySeen_13 rfl rfl ?_
    refine jw_iload_n (i := 1) d_V_isPassedBySeen_14 rfl rfl ?_
    refine jw_icmp_eq (tgt := 41) d_V_isPassedBySeen_15 (by decide) (fun hc => ?_) (fun hc => ?_)
    · have h := h.1 hc
      refine jw_iinc (d := 1) d_V_isPassedBySeen_41 rfl jc_i_1 (Nat.le_of_ble_eq_true rfl) ?_
      refine jw_goto (tgt := 2) d_V_isPassedBySeen_44 (by decide) ?_
      exact h
    · have h := h.2 hc
      refine jw_aload_n (i := 0) d_V_isPassedBySeen_18 rfl rfl ?_
      refine jw_get (j := 12) (v := jw_a G 37) d_V_isPassedBySeen_19 jw_k0 jw_c_V jw_oc_V (Nat.le_of_ble_eq_true rfl) jw_fl_V_65 rfl rfl ?_
      refine jw_iload_n (i := 2) d_V_isPassedBySeen_22 rfl rfl ?_
      obtain ⟨j1, hj1, h⟩ := h
      refine jw_zald2 d_V_isPassedBySeen_23 jw_k37 (Nat.le_of_ble_eq_true rfl) hj1 ?_
      refine jw_if_eq (tgt := 41) d_V_isPassedBySeen_24 (by decide) (fun hc => ?_) (fun hc => ?_)
      · have h := h.1 hc
        refine jw_iinc (d := 1) d_V_isPassedBySeen_41 rfl jc_i_1 (Nat.le_of_ble_eq_true rfl) ?_
        refine jw_goto (tgt := 2) d_V_isPassedBySeen_44 (by decide) ?_
        exact h
      · have h := h.2 hc
        refine jw_aload_n (i := 0) d_V_isPassedBySeen_27 rfl rfl ?_
        refine jw_get (j := 1) (v := jw_a G 4) d_V_isPassedBySeen_28 jw_k0 jw_c_V jw_oc_V (Nat.le_of_ble_eq_true rfl) jw_fl_V_34 rfl rfl ?_
        refine jw_iload_n (i := 1) d_V_isPassedBySeen_31 rfl rfl ?_
        refine jw_iload_n (i := 2) d_V_isPassedBySeen_32 rfl rfl ?_
        refine jw_callV (As := [.int x1, .int x2]) (S := []) d_V_isPassedBySeen_33 jw_k4 jw_c_G jw_ml_V_237 jw_in_f_G_isAtOrBelow jw_se_f_G_isAtOrBelow ⟨Nat.le_of_ble_eq_true rfl, Nat.le_of_ble_eq_true rfl⟩ rfl rfl (Nat.le_of_ble_eq_true rfl) (jw_M_mono h (fun r1 M1 h => ?_))
        refine jw_st (S' := [.int r1]) rfl ?_
        refine jw_if_eq (tgt := 41) d_V_isPassedBySeen_36 (by decide) (fun hc => ?_) (fun hc => ?_)
        · have h := h.1 hc
          refine jw_iinc (d := 1) d_V_isPassedBySeen_41 rfl jc_i_1 (Nat.le_of_ble_eq_true rfl) ?_
          refine jw_goto (tgt := 2) d_V_isPassedBySeen_44 (by decide) ?_
          exact h
        · have h := h.2 hc
          refine jw_iconst (v := 1) d_V_isPassedBySeen_39 jc_i_1 ?_
          exact jw_ireturn d_V_isPassedBySeen_40 rfl h
set_option maxRecDepth 100000 in
theorem e_V_isPassedBySeen {l : Launch} {G : jw_G} {A : Nat → Prop} {x1 : Int32} {M : jw_Mem} {Q : Int32 → jw_Mem → Prop} (h : ∀ X : jw_X0, (∀ r M', Q r M' → (r = 0 ∨ r = 1) → jw_R l X (jw_g G) A f_V_isPassedBySeen r M') → jw_X l X (jw_g G) A f_V_isPassedBySeen 2 [some (jw_a G 0), some (.int x1), some (.int 0)] [] M) : jw_M l (jw_g G) A f_V_isPassedBySeen [jw_a G 0, .int x1] M Q := by
  refine jw_M_of (by decide) (Nat.le_of_ble_eq_true rfl) (by intro v hv; simp at hv; rcases hv with rfl | rfl <;> rfl) (fun X hR => ?_)
  exact k_V_isPassedBySeen_0  (h X (fun r M' q hb => hR r M' q (fun ty h0 => by cases h0; exact jw_nb hb)))

set_option maxRecDepth 100000 in
set_option maxHeartbeats 4000000 in
theorem k_V_handOverHints_0 {l : Launch} {X : jw_X0} {G : jw_G} {A : Nat → Prop} {x1 : Int32} {M : jw_Mem} (h : (∃ a1 : Nat, (a1 < 5 ∧ x1 = nI a1) ∧ jw_X l X (jw_g G) A f_V_handOverHints 12 [some (jw_a G 0), some (.int x1), some (jw_a G (10 + 3 * a1)), some (.int 0), some (.int 0)] [] M)) : jw_X l X (jw_g G) A f_V_handOverHints 0 [some (jw_a G 0), some (.int x1), none, none, none] [] M := by
  refine jw_aload_n (i := 0) d_V_handOverHints_0 rfl rfl ?_
  refine jw_get (j := 2) (v := jw_a G 9) d_V_handOverHints_1 jw_k0 jw_c_V jw_oc_V (Nat.le_of_ble_eq_true rfl) jw_fl_V_40 rfl rfl ?_
  refine jw_iload_n (i := 1) d_V_handOverHints_4 rfl rfl ?_
  obtain ⟨a1, ha1, h⟩ := h
  refine jw_aaldN d_V_handOverHints_5 ha1 ?_
  refine jw_astore_n (i := 2) d_V_handOverHints_6 rfl (Nat.le_of_ble_eq_true rfl) ?_
  refine jw_iconst (v := 0) d_V_handOverHints_7 jc_i_0 ?_
  refine jw_istore_n (i := 3) d_V_handOverHints_8 rfl (Nat.le_of_ble_eq_true rfl) ?_
  refine jw_iconst (v := 0) d_V_handOverHints_9 jc_i_0 ?_
  refine jw_istore d_V_handOverHints_10 (Nat.le_of_ble_eq_true rfl) ?_
  exact h
set_option maxRecDepth 100000 in
set_option maxHeartbeats 4000000 in
theorem k_V_handOverHints_12 {l : Launch} {X : jw_X0} {G : jw_G} {A : Nat → Prop} {g2 : Nat} (hg2 : g2 < 5) {x1 x3 x4 : Int32} {M : jw_Mem} (h : (((M 4 4) ≤ x4 → jw_R l X (jw_g G) A f_V_handOverHints x3 M) ∧ (¬ (M 4 4) ≤ x4 → jw_M l (jw_g G) A f_N_hasHintOf [jw_a G (10 + 3 * g2), .int x4] M (fun r1 M1 => ((r1 = 0 → jw_X l X (jw_g G) A f_V_handOverHints 12 [some (jw_a G 0), some (.int x1), some (jw_a G (10 + 3 * g2)), some (.int x3), some (.int (x4 + 1))] [] M1) ∧ (¬ r1 = 0 → (∃ j1 : Nat, (j1 < 40 ∧ x4 = nI j1) ∧ jw_M l (jw_g G) A f_V_reaches [jw_a G 0, .int x1, .int (M1 (12 + 3 * g2) j1)] M1 (fun r2 M2 => ((r2 = 0 → jw_X l X (jw_g G) A f_V_handOverHints 12 [some (jw_a G 0), some (.int x1), some (jw_a G (10 + 3 * g2)), some (.int x3), some (.int (x4 + 1))] [] M2) ∧ (¬ r2 = 0 → (∃ j2 : Nat, (j2 < 40 ∧ x4 = nI j2) ∧ (∃ a1 : Nat, (a1 < 5 ∧ (M2 (12 + 3 * g2) j2) = nI a1) ∧ jw_M l (jw_g G) A f_N_take [jw_a G (10 + 3 * a1), .int x4] M2 (fun r3 M3 => (∃ j3 : Nat, (j3 < 40 ∧ x4 = nI j3) ∧ jw_X l X (jw_g G) A f_V_handOverHints 12 [some (jw_a G 0), some (.int x1), some (jw_a G (10 + 3 * g2)), some (.int (x3 + 1)), some (.int (x4 + 1))] [] (jw_U M3 (12 + 3 * g2) j3 (-1)))))))))))))))) : jw_X l X (jw_g G) A f_V_handOverHints 12 [some (jw_a G 0), some (.int x1), some (jw_a G (10 + 3 * g2)), some (.int x3), some (.int x4)] [] M := by
  refine jw_iload d_V_handOverHints_12 rfl ?_
  refine jw_aload_n (i := 0) d_V_handOverHints_14 rfl rfl ?_
  refine jw_get (j := 1) (v := jw_a G 4) d_V_handOverHints_15 jw_k0 jw_c_V jw_oc_V (Nat.le_of_ble_eq_true rfl) jw_fl_V_34 rfl rfl ?_
  refine jw_get (j := 4) (v := .int (M 4 4)) d_V_handOverHints_18 jw_k4 jw_c_G jw_oc_G (Nat.le_of_ble_eq_true rfl) jw_fl_V_104 rfl rfl ?_
  refine jw_icmp_ge (tgt := 83) d_V_handOverHints_21 (by decide) (fun hc => ?_) (fun hc => ?_)
  · have h := h.1 hc
    refine jw_iload_n (i := 3) d_V_handOverHints_83 rfl rfl ?_
    exact jw_ireturn d_V_handOverHints_84 rfl h
  · have h := h.2 hc
    refine jw_aload_n (i := 2) d_V_handOverHints_24 rfl rfl ?_
    refine jw_iload d_V_handOverHints_25 rfl ?_
    refine jw_callV (As := [.int x4]) (S := []) d_V_handOverHints_27 (jw_kN hg2) jw_c_N jw_ml_V_193 jw_in_f_N_hasHintOf jw_se_f_N_hasHintOf ⟨Nat.le_of_ble_eq_true rfl, Nat.le_of_ble_eq_true rfl⟩ rfl rfl (Nat.le_of_ble_eq_true rfl) (jw_M_mono h (fun r1 M1 h => ?_))
    refine jw_st (S' := [.int r1]) rfl ?_
    refine jw_if_eq (tgt := 77) d_V_handOverHints_30 (by decide) (fun hc => ?_) (fun hc => ?_)
    · have h := h.1 hc
      refine jw_iinc (d := 1) d_V_handOverHints_77 rfl jc_i_1 (Nat.le_of_ble_eq_true rfl) ?_
      refine jw_goto (tgt := 12) d_V_handOverHints_80 (by decide) ?_
      exact h
    · have h := h.2 hc
      refine jw_aload_n (i := 0) d_V_handOverHints_33 rfl rfl ?_
      refine jw_iload_n (i := 1) d_V_handOverHints_34 rfl rfl ?_
      refine jw_aload_n (i := 2) d_V_handOverHints_35 rfl rfl ?_
      refine jw_get (j := 2) (v := jw_a G (12 + 3 * g2)) d_V_handOverHints_36 (jw_kN hg2) jw_c_N jw_oc_N (Nat.le_of_ble_eq_true rfl) jw_fl_V_228 rfl rfl ?_
      refine jw_iload d_V_handOverHints_39 rfl ?_
      obtain ⟨j1, hj1, h⟩ := h
      refine jw_iald2 d_V_handOverHints_41 (jw_kI hg2) (Nat.le_of_ble_eq_true rfl) hj1 ?_
      refine jw_callV (As := [.int x1, .int (M1 (12 + 3 * g2) j1)]) (S := []) d_V_handOverHints_42 jw_k0 jw_c_V jw_ml_V_161 jw_in_f_V_reaches jw_se_f_V_reaches ⟨Nat.le_of_ble_eq_true rfl, Nat.le_of_ble_eq_true rfl⟩ rfl rfl (Nat.le_of_ble_eq_true rfl) (jw_M_mono h (fun r2 M2 h => ?_))
      refine jw_st (S' := [.int r2]) rfl ?_
      refine jw_if_eq (tgt := 77) d_V_handOverHints_45 (by decide) (fun hc => ?_) (fun hc => ?_)
      · have h := h.1 hc
        refine jw_iinc (d := 1) d_V_handOverHints_77 rfl jc_i_1 (Nat.le_of_ble_eq_true rfl) ?_
        refine jw_goto (tgt := 12) d_V_handOverHints_80 (by decide) ?_
        exact h
      · have h := h.2 hc
        refine jw_aload_n (i := 0) d_V_handOverHints_48 rfl rfl ?_
        refine jw_get (j := 2) (v := jw_a G 9) d_V_handOverHints_49 jw_k0 jw_c_V jw_oc_V (Nat.le_of_ble_eq_true rfl) jw_fl_V_40 rfl rfl ?_
        refine jw_aload_n (i := 2) d_V_handOverHints_52 rfl rfl ?_
        refine jw_get (j := 2) (v := jw_a G (12 + 3 * g2)) d_V_handOverHints_53 (jw_kN hg2) jw_c_N jw_oc_N (Nat.le_of_ble_eq_true rfl) jw_fl_V_228 rfl rfl ?_
        refine jw_iload d_V_handOverHints_56 rfl ?_
        obtain ⟨j2, hj2, h⟩ := h
        refine jw_iald2 d_V_handOverHints_58 (jw_kI hg2) (Nat.le_of_ble_eq_true rfl) hj2 ?_
        obtain ⟨a1, ha1, h⟩ := h
        refine jw_aaldN d_V_handOverHints_59 ha1 ?_
        refine jw_iload d_V_handOverHints_60 rfl ?_
        refine jw_callV (As := [.int x4]) (S := []) d_V_handOverHints_62 (jw_kN ha1.1) jw_c_N jw_ml_V_225 jw_in_f_N_take jw_se_f_N_take ⟨Nat.le_of_ble_eq_true rfl, Nat.le_of_ble_eq_true rfl⟩ rfl rfl (Nat.le_of_ble_eq_true rfl) (jw_M_mono h (fun r3 M3 h => ?_))
        refine jw_st (S' := [.int r3]) rfl ?_
        refine jw_pop d_V_handOverHints_65 rfl ?_
        refine jw_aload_n (i := 2) d_V_handOverHints_66 rfl rfl ?_
        refine jw_get (j := 2) (v := jw_a G (12 + 3 * g2)) d_V_handOverHints_67 (jw_kN hg2) jw_c_N jw_oc_N (Nat.le_of_ble_eq_true rfl) jw_fl_V_228 rfl rfl ?_
        refine jw_iload d_V_handOverHints_70 rfl ?_
        refine jw_iconst (v := (-1)) d_V_handOverHints_72 jc_i_m1 ?_
        obtain ⟨j3, hj3, h⟩ := h
        refine jw_iast2 d_V_handOverHints_73 (jw_kI hg2) (Nat.le_of_ble_eq_true rfl) hj3 ?_
        refine jw_iinc (d := 1) d_V_handOverHints_74 rfl jc_i_1 (Nat.le_of_ble_eq_true rfl) ?_
        refine jw_iinc (d := 1) d_V_handOverHints_77 rfl jc_i_1 (Nat.le_of_ble_eq_true rfl) ?_
        refine jw_goto (tgt := 12) d_V_handOverHints_80 (by decide) ?_
        exact h
set_option maxRecDepth 100000 in
theorem e_V_handOverHints {l : Launch} {G : jw_G} {A : Nat → Prop} {x1 : Int32} {M : jw_Mem} {Q : Int32 → jw_Mem → Prop} (h : ∀ X : jw_X0, (∀ r M', Q r M' → jw_R l X (jw_g G) A f_V_handOverHints r M') → (∃ a1 : Nat, (a1 < 5 ∧ x1 = nI a1) ∧ jw_X l X (jw_g G) A f_V_handOverHints 12 [some (jw_a G 0), some (.int x1), some (jw_a G (10 + 3 * a1)), some (.int 0), some (.int 0)] [] M)) : jw_M l (jw_g G) A f_V_handOverHints [jw_a G 0, .int x1] M Q := by
  refine jw_M_of (by decide) (Nat.le_of_ble_eq_true rfl) (by intro v hv; simp at hv; rcases hv with rfl | rfl <;> rfl) (fun X hR => ?_)
  exact k_V_handOverHints_0  (h X (fun r M' q => hR r M' q (fun ty h0 => by cases h0; rfl)))

set_option maxRecDepth 100000 in
set_option maxHeartbeats 4000000 in
theorem k_V_handOverKey_0 {l : Launch} {X : jw_X0} {G : jw_G} {A : Nat → Prop} {x1 : Int32} {x2 : Int32} {M : jw_Mem} (h : (∃ a1 : Nat, (a1 < 5 ∧ x1 = nI a1) ∧ jw_M l (jw_g G) A f_N_writeOut [jw_a G (10 + 3 * a1), .int x2, jw_a G 38] M (fun r1 M1 => ((¬ r1 = 0 → jw_M l (jw_g G) A f_R_lookUp [jw_a G 1, .int x2] M1 (fun _ M2 => (((M2 1 4) = 0 → jw_R l X (jw_g G) A f_V_handOverKey 0 M2) ∧ (¬ (M2 1 4) = 0 → jw_M l (jw_g G) A f_R_hasHome [jw_a G 1, .int x1] M2 (fun r3 M3 => ((¬ r3 = 0 → jw_R l X (jw_g G) A f_V_handOverKey 0 M3) ∧ (r3 = 0 → jw_M l (jw_g G) A f_V_reachesAllHomes [jw_a G 0, .int x1] M3 (fun r4 M4 => ((¬ r4 = 0 → jw_X l X (jw_g G) A f_V_handOverKey 63 [some (jw_a G 0), some (.int x1), some (.int x2), some (.int r1), some (.int 0)] [] M4) ∧ (r4 = 0 → jw_R l X (jw_g G) A f_V_handOverKey 0 M4)))))))))) ∧ (r1 = 0 → jw_R l X (jw_g G) A f_V_handOverKey 0 M1))))) : jw_X l X (jw_g G) A f_V_handOverKey 0 [some (jw_a G 0), some (.int x1), some (.int x2), none, none] [] M := by
  refine jw_aload_n (i := 0) d_V_handOverKey_0 rfl rfl ?_
  refine jw_get (j := 2) (v := jw_a G 9) d_V_handOverKey_1 jw_k0 jw_c_V jw_oc_V (Nat.le_of_ble_eq_true rfl) jw_fl_V_40 rfl rfl ?_
  refine jw_iload_n (i := 1) d_V_handOverKey_4 rfl rfl ?_
  obtain ⟨a1, ha1, h⟩ := h
  refine jw_aaldN d_V_handOverKey_5 ha1 ?_
  refine jw_iload_n (i := 2) d_V_handOverKey_6 rfl rfl ?_
  refine jw_aload_n (i := 0) d_V_handOverKey_7 rfl rfl ?_
  refine jw_get (j := 13) (v := jw_a G 38) d_V_handOverKey_8 jw_k0 jw_c_V jw_oc_V (Nat.le_of_ble_eq_true rfl) jw_fl_V_68 rfl rfl ?_
  refine jw_callV (As := [.int x2, jw_a G 38]) (S := []) d_V_handOverKey_11 (jw_kN ha1.1) jw_c_N jw_ml_V_196 jw_in_f_N_writeOut jw_se_f_N_writeOut ⟨Nat.le_of_ble_eq_true rfl, Nat.le_of_ble_eq_true rfl⟩ rfl rfl (Nat.le_of_ble_eq_true rfl) (jw_M_mono h (fun r1 M1 h => ?_))
  refine jw_st (S' := [.int r1]) rfl ?_
  refine jw_istore_n (i := 3) d_V_handOverKey_14 rfl (Nat.le_of_ble_eq_true rfl) ?_
  refine jw_iload_n (i := 3) d_V_handOverKey_15 rfl rfl ?_
  refine jw_if_ne (tgt := 21) d_V_handOverKey_16 (by decide) (fun hc => ?_) (fun hc => ?_)
  · have h := h.1 hc
    refine jw_aload_n (i := 0) d_V_handOverKey_21 rfl rfl ?_
    refine jw_get (j := 0) (v := jw_a G 1) d_V_handOverKey_22 jw_k0 jw_c_V jw_oc_V (Nat.le_of_ble_eq_true rfl) jw_fl_V_18 rfl rfl ?_
    refine jw_iload_n (i := 2) d_V_handOverKey_25 rfl rfl ?_
    refine jw_callV (As := [.int x2]) (S := []) d_V_handOverKey_26 jw_k1 jw_c_R jw_ml_V_178 jw_in_f_R_lookUp jw_se_f_R_lookUp ⟨Nat.le_of_ble_eq_true rfl, Nat.le_of_ble_eq_true rfl⟩ rfl rfl (Nat.le_of_ble_eq_true rfl) (jw_M_mono h (fun r2 M2 h => ?_))
    refine jw_st (S' := []) rfl ?_
    refine jw_aload_n (i := 0) d_V_handOverKey_29 rfl rfl ?_
    refine jw_get (j := 0) (v := jw_a G 1) d_V_handOverKey_30 jw_k0 jw_c_V jw_oc_V (Nat.le_of_ble_eq_true rfl) jw_fl_V_18 rfl rfl ?_
    refine jw_get (j := 4) (v := .int (M2 1 4)) d_V_handOverKey_33 jw_k1 jw_c_R jw_oc_R (Nat.le_of_ble_eq_true rfl) jw_fl_V_181 rfl rfl ?_
    refine jw_if_eq (tgt := 58) d_V_handOverKey_36 (by decide) (fun hc => ?_) (fun hc => ?_)
    · have h := h.1 hc
      refine jw_iconst (v := 0) d_V_handOverKey_58 jc_i_0 ?_
      exact jw_ireturn d_V_handOverKey_59 rfl h
    · have h := h.2 hc
      refine jw_aload_n (i := 0) d_V_handOverKey_39 rfl rfl ?_
      refine jw_get (j := 0) (v := jw_a G 1) d_V_handOverKey_40 jw_k0 jw_c_V jw_oc_V (Nat.le_of_ble_eq_true rfl) jw_fl_V_18 rfl rfl ?_
      refine jw_iload_n (i := 1) d_V_handOverKey_43 rfl rfl ?_
      refine jw_callV (As := [.int x1]) (S := []) d_V_handOverKey_44 jw_k1 jw_c_R jw_ml_V_240 jw_in_f_R_hasHome jw_se_f_R_hasHome ⟨Nat.le_of_ble_eq_true rfl, Nat.le_of_ble_eq_true rfl⟩ rfl rfl (Nat.le_of_ble_eq_true rfl) (jw_M_mono h (fun r3 M3 h => ?_))
      refine jw_st (S' := [.int r3]) rfl ?_
      refine jw_if_ne (tgt := 58) d_V_handOverKey_47 (by decide) (fun hc => ?_) (fun hc => ?_)
      · have h := h.1 hc
        refine jw_iconst (v := 0) d_V_handOverKey_58 jc_i_0 ?_
        exact jw_ireturn d_V_handOverKey_59 rfl h
      · have h := h.2 hc
        refine jw_aload_n (i := 0) d_V_handOverKey_50 rfl rfl ?_
        refine jw_iload_n (i := 1) d_V_handOverKey_51 rfl rfl ?_
        refine jw_callV (As := [.int x1]) (S := []) d_V_handOverKey_52 jw_k0 jw_c_V jw_ml_V_243 jw_in_f_V_reachesAllHomes jw_se_f_V_reachesAllHomes ⟨Nat.le_of_ble_eq_true rfl, Nat.le_of_ble_eq_true rfl⟩ rfl rfl (Nat.le_of_ble_eq_true rfl) (jw_M_mono h (fun r4 M4 h => ?_))
        refine jw_st (S' := [.int r4]) rfl ?_
        refine jw_if_ne (tgt := 60) d_V_handOverKey_55 (by decide) (fun hc => ?_) (fun hc => ?_)
        · have h := h.1 hc
          refine jw_iconst (v := 0) d_V_handOverKey_60 jc_i_0 ?_
          refine jw_istore d_V_handOverKey_61 (Nat.le_of_ble_eq_true rfl) ?_
          exact h
        · have h := h.2 hc
          refine jw_iconst (v := 0) d_V_handOverKey_58 jc_i_0 ?_
          exact jw_ireturn d_V_handOverKey_59 rfl h
  · have h := h.2 hc
    refine jw_iconst (v := 0) d_V_handOverKey_19 jc_i_0 ?_
    exact jw_ireturn d_V_handOverKey_20 rfl h
set_option maxRecDepth 100000 in
set_option maxHeartbeats 4000000 in
theorem k_V_handOverKey_63 {l : Launch} {X : jw_X0} {G : jw_G} {A : Nat → Prop} {x1 x2 x3 x4 : Int32} {M : jw_Mem} (h : (((M 1 4) ≤ x4 → (∃ a1 : Nat, (a1 < 5 ∧ x1 = nI a1) ∧ jw_M l (jw_g G) A f_N_dropAll [jw_a G (10 + 3 * a1), jw_a G 38] M (fun _ M1 => jw_R l X (jw_g G) A f_V_handOverKey x3 M1))) ∧ (¬ (M 1 4) ≤ x4 → (∃ j1 : Nat, (j1 < 5 ∧ x4 = nI j1) ∧ (∃ a2 : Nat, (a2 < 5 ∧ (M 3 j1) = nI a2) ∧ jw_M l (jw_g G) A f_N_takeAll [jw_a G (10 + 3 * a2), jw_a G 38] M (fun r2 M2 => jw_X l X (jw_g G) A f_V_handOverKey 63 [some (jw_a G 0), some (.int x1), some (.int x2), some (.int x3), some (.int (x4 + 1))] [] M2)))))) : jw_X l X (jw_g G) A f_V_handOverKey 63 [some (jw_a G 0), some (.int x1), some (.int x2), some (.int x3), some (.int x4)] [] M := by
  refine jw_iload d_V_handOverKey_63 rfl ?_
  refine jw_aload_n (i := 0) d_V_handOverKey_65 rfl rfl ?_
  refine jw_get (j := 0) (v := jw_a G 1) d_V_handOverKey_66 jw_k0 jw_c_V jw_oc_V (Nat.le_of_ble_eq_true rfl) jw_fl_V_18 rfl rfl ?_
  refine jw_get (j := 4) (v := .int (M 1 4)) d_V_handOverKey_69 jw_k1 jw_c_R jw_oc_R (Nat.le_of_ble_eq_true rfl) jw_fl_V_181 rfl rfl ?_
  refine jw_icmp_ge (tgt := 104) d_V_handOverKey_72 (by decide) (fun hc => ?_) (fun hc => ?_)
  · have h := h.1 hc
    refine jw_aload_n (i := 0) d_V_handOverKey_104 rfl rfl ?_
    refine jw_get (j := 2) (v := jw_a G 9) d_V_handOverKey_105 jw_k0 jw_c_V jw_oc_V (Nat.le_of_ble_eq_true rfl) jw_fl_V_40 rfl rfl ?_
    refine jw_iload_n (i := 1) d_V_handOverKey_108 rfl rfl ?_
    obtain ⟨a1, ha1, h⟩ := h
    refine jw_aaldN d_V_handOverKey_109 ha1 ?_
    refine jw_aload_n (i := 0) d_V_handOverKey_110 rfl rfl ?_
    refine jw_get (j := 13) (v := jw_a G 38) d_V_handOverKey_111 jw_k0 jw_c_V jw_oc_V (Nat.le_of_ble_eq_true rfl) jw_fl_V_68 rfl rfl ?_
    refine jw_callV (As := [jw_a G 38]) (S := []) d_V_handOverKey_114 (jw_kN ha1.1) jw_c_N jw_ml_V_246 jw_in_f_N_dropAll jw_se_f_N_dropAll ⟨Nat.le_of_ble_eq_true rfl, Nat.le_of_ble_eq_true rfl⟩ rfl rfl (Nat.le_of_ble_eq_true rfl) (jw_M_mono h (fun r1 M1 h => ?_))
    refine jw_st (S' := []) rfl ?_
    refine jw_iload_n (i := 3) d_V_handOverKey_117 rfl rfl ?_
    exact jw_ireturn d_V_handOverKey_118 rfl h
  · have h := h.2 hc
    refine jw_aload_n (i := 0) d_V_handOverKey_75 rfl rfl ?_
    refine jw_get (j := 2) (v := jw_a G 9) d_V_handOverKey_76 jw_k0 jw_c_V jw_oc_V (Nat.le_of_ble_eq_true rfl) jw_fl_V_40 rfl rfl ?_
    refine jw_aload_n (i := 0) d_V_handOverKey_79 rfl rfl ?_
    refine jw_get (j := 0) (v := jw_a G 1) d_V_handOverKey_80 jw_k0 jw_c_V jw_oc_V (Nat.le_of_ble_eq_true rfl) jw_fl_V_18 rfl rfl ?_
    refine jw_get (j := 2) (v := jw_a G 3) d_V_handOverKey_83 jw_k1 jw_c_R jw_oc_R (Nat.le_of_ble_eq_true rfl) jw_fl_V_184 rfl rfl ?_
    refine jw_iload d_V_handOverKey_86 rfl ?_
    obtain ⟨j1, hj1, h⟩ := h
    refine jw_iald2 d_V_handOverKey_88 jw_k3 (Nat.le_of_ble_eq_true rfl) hj1 ?_
    obtain ⟨a2, ha2, h⟩ := h
    refine jw_aaldN d_V_handOverKey_89 ha2 ?_
    refine jw_aload_n (i := 0) d_V_handOverKey_90 rfl rfl ?_
    refine jw_get (j := 13) (v := jw_a G 38) d_V_handOverKey_91 jw_k0 jw_c_V jw_oc_V (Nat.le_of_ble_eq_true rfl) jw_fl_V_68 rfl rfl ?_
    refine jw_callV (As := [jw_a G 38]) (S := []) d_V_handOverKey_94 (jw_kN ha2.1) jw_c_N jw_ml_V_150 jw_in_f_N_takeAll jw_se_f_N_takeAll ⟨Nat.le_of_ble_eq_true rfl, Nat.le_of_ble_eq_true rfl⟩ rfl rfl (Nat.le_of_ble_eq_true rfl) (jw_M_mono h (fun r2 M2 h => ?_))
    refine jw_st (S' := [.int r2]) rfl ?_
    refine jw_pop d_V_handOverKey_97 rfl ?_
    refine jw_iinc (d := 1) d_V_handOverKey_98 rfl jc_i_1 (Nat.le_of_ble_eq_true rfl) ?_
    refine jw_goto (tgt := 63) d_V_handOverKey_101 (by decide) ?_
    exact h
set_option maxRecDepth 100000 in
theorem e_V_handOverKey {l : Launch} {G : jw_G} {A : Nat → Prop} {x1 : Int32} {x2 : Int32} {M : jw_Mem} {Q : Int32 → jw_Mem → Prop} (h : ∀ X : jw_X0, (∀ r M', Q r M' → jw_R l X (jw_g G) A f_V_handOverKey r M') → (∃ a1 : Nat, (a1 < 5 ∧ x1 = nI a1) ∧ jw_M l (jw_g G) A f_N_writeOut [jw_a G (10 + 3 * a1), .int x2, jw_a G 38] M (fun r1 M1 => ((¬ r1 = 0 → jw_M l (jw_g G) A f_R_lookUp [jw_a G 1, .int x2] M1 (fun _ M2 => (((M2 1 4) = 0 → jw_R l X (jw_g G) A f_V_handOverKey 0 M2) ∧ (¬ (M2 1 4) = 0 → jw_M l (jw_g G) A f_R_hasHome [jw_a G 1, .int x1] M2 (fun r3 M3 => ((¬ r3 = 0 → jw_R l X (jw_g G) A f_V_handOverKey 0 M3) ∧ (r3 = 0 → jw_M l (jw_g G) A f_V_reachesAllHomes [jw_a G 0, .int x1] M3 (fun r4 M4 => ((¬ r4 = 0 → jw_X l X (jw_g G) A f_V_handOverKey 63 [some (jw_a G 0), some (.int x1), some (.int x2), some (.int r1), some (.int 0)] [] M4) ∧ (r4 = 0 → jw_R l X (jw_g G) A f_V_handOverKey 0 M4)))))))))) ∧ (r1 = 0 → jw_R l X (jw_g G) A f_V_handOverKey 0 M1))))) : jw_M l (jw_g G) A f_V_handOverKey [jw_a G 0, .int x1, .int x2] M Q := by
  refine jw_M_of (by decide) (Nat.le_of_ble_eq_true rfl) (by intro v hv; simp at hv; rcases hv with rfl | rfl | rfl <;> rfl) (fun X hR => ?_)
  exact k_V_handOverKey_0  (h X (fun r M' q => hR r M' q (fun ty h0 => by cases h0; rfl)))

set_option maxRecDepth 100000 in
set_option maxHeartbeats 4000000 in
theorem k_V_reachesAllHomes_0 {l : Launch} {X : jw_X0} {G : jw_G} {A : Nat → Prop} {x1 : Int32} {M : jw_Mem} (h : jw_X l X (jw_g G) A f_V_reachesAllHomes 2 [some (jw_a G 0), some (.int x1), some (.int 0)] [] M) : jw_X l X (jw_g G) A f_V_reachesAllHomes 0 [some (jw_a G 0), some (.int x1), none] [] M := by
  refine jw_iconst (v := 0) d_V_reachesAllHomes_0 jc_i_0 ?_
  refine jw_istore_n (i := 2) d_V_reachesAllHomes_1 rfl (Nat.le_of_ble_eq_true rfl) ?_
  exact h
set_option maxRecDepth 100000 in
set_option maxHeartbeats 4000000 in
theorem k_V_reachesAllHomes_2 {l : Launch} {X : jw_X0} {G : jw_G} {A : Nat → Prop} {x1 x2 : Int32} {M : jw_Mem} (h : (((M 1 4) ≤ x2 → jw_R l X (jw_g G) A f_V_reachesAllHomes 1 M) ∧ (¬ (M 1 4) ≤ x2 → (∃ j1 : Nat, (j1 < 5 ∧ x2 = nI j1) ∧ jw_M l (jw_g G) A f_V_reaches [jw_a G 0, .int x1, .int (M 3 j1)] M (fun r1 M1 => ((¬ r1 = 0 → jw_X l X (jw_g G) A f_V_reachesAllHomes 2 [some (jw_a G 0), some (.int x1), some (.int (x2 + 1))] [] M1) ∧ (r1 = 0 → jw_R l X (jw_g G) A f_V_reachesAllHomes 0 M1))))))) : jw_X l X (jw_g G) A f_V_reachesAllHomes 2 [some (jw_a G 0), some (.int x1), some (.int x2)] [] M := by
  refine jw_iload_n (i := 2) d_V_reachesAllHomes_2 rfl rfl ?_
  refine jw_aload_n (i := 0) d_V_reachesAllHomes_3 rfl rfl ?_
  refine jw_get (j := 0) (v := jw_a G 1) d_V_reachesAllHomes_4 jw_k0 jw_c_V jw_oc_V (Nat.le_of_ble_eq_true rfl) jw_fl_V_18 rfl rfl ?_
  refine jw_get (j := 4) (v := .int (M 1 4)) d_V_reachesAllHomes_7 jw_k1 jw_c_R jw_oc_R (Nat.le_of_ble_eq_true rfl) jw_fl_V_181 rfl rfl ?_
  refine jw_icmp_ge (tgt := 38) d_V_reachesAllHomes_10 (by decide) (fun hc => ?_) (fun hc => ?_)
  · have h := h.1 hc
    refine jw_iconst (v := 1) d_V_reachesAllHomes_38 jc_i_1 ?_
    exact jw_ireturn d_V_reachesAllHomes_39 rfl h
  · have h := h.2 hc
    refine jw_aload_n (i := 0) d_V_reachesAllHomes_13 rfl rfl ?_
    refine jw_iload_n (i := 1) d_V_reachesAllHomes_14 rfl rfl ?_
    refine jw_aload_n (i := 0) d_V_reachesAllHomes_15 rfl rfl ?_
    refine jw_get (j := 0) (v := jw_a G 1) d_V_reachesAllHomes_16 jw_k0 jw_c_V jw_oc_V (Nat.le_of_ble_eq_true rfl) jw_fl_V_18 rfl rfl ?_
    refine jw_get (j := 2) (v := jw_a G 3) d_V_reachesAllHomes_19 jw_k1 jw_c_R jw_oc_R (Nat.le_of_ble_eq_true rfl) jw_fl_V_184 rfl rfl ?_
    refine jw_iload_n (i := 2) d_V_reachesAllHomes_22 rfl rfl ?_
    obtain ⟨j1, hj1, h⟩ := h
    refine jw_iald2 d_V_reachesAllHomes_23 jw_k3 (Nat.le_of_ble_eq_true rfl) hj1 ?_
    refine jw_callV (As := [.int x1, .int (M 3 j1)]) (S := []) d_V_reachesAllHomes_24 jw_k0 jw_c_V jw_ml_V_161 jw_in_f_V_reaches jw_se_f_V_reaches ⟨Nat.le_of_ble_eq_true rfl, Nat.le_of_ble_eq_true rfl⟩ rfl rfl (Nat.le_of_ble_eq_true rfl) (jw_M_mono h (fun r1 M1 h => ?_))
    refine jw_st (S' := [.int r1]) rfl ?_
    refine jw_if_ne (tgt := 32) d_V_reachesAllHomes_27 (by decide) (fun hc => ?_) (fun hc => ?_)
    · have h := h.1 hc
      refine jw_iinc (d := 1) d_V_reachesAllHomes_32 rfl jc_i_1 (Nat.le_of_ble_eq_true rfl) ?_
      refine jw_goto (tgt := 2) d_V_reachesAllHomes_35 (by decide) ?_
      exact h
    · have h := h.2 hc
      refine jw_iconst (v := 0) d_V_reachesAllHomes_30 jc_i_0 ?_
      exact jw_ireturn d_V_reachesAllHomes_31 rfl h
set_option maxRecDepth 100000 in
theorem e_V_reachesAllHomes {l : Launch} {G : jw_G} {A : Nat → Prop} {x1 : Int32} {M : jw_Mem} {Q : Int32 → jw_Mem → Prop} (h : ∀ X : jw_X0, (∀ r M', Q r M' → (r = 0 ∨ r = 1) → jw_R l X (jw_g G) A f_V_reachesAllHomes r M') → jw_X l X (jw_g G) A f_V_reachesAllHomes 2 [some (jw_a G 0), some (.int x1), some (.int 0)] [] M) : jw_M l (jw_g G) A f_V_reachesAllHomes [jw_a G 0, .int x1] M Q := by
  refine jw_M_of (by decide) (Nat.le_of_ble_eq_true rfl) (by intro v hv; simp at hv; rcases hv with rfl | rfl <;> rfl) (fun X hR => ?_)
  exact k_V_reachesAllHomes_0  (h X (fun r M' q hb => hR r M' q (fun ty h0 => by cases h0; exact jw_nb hb)))

set_option maxRecDepth 100000 in
set_option maxHeartbeats 4000000 in
theorem k_V_share_0 {l : Launch} {X : jw_X0} {G : jw_G} {A : Nat → Prop} {x1 : Int32} {x2 : Int32} {x3 : Int32} {M : jw_Mem} (h : jw_M l (jw_g G) A f_R_lookUp [jw_a G 1, .int x3] M (fun _ M1 => jw_M l (jw_g G) A f_R_hasHome [jw_a G 1, .int x1] M1 (fun r2 M2 => ((r2 = 0 → jw_R l X (jw_g G) A f_V_share 0 M2) ∧ (¬ r2 = 0 → jw_M l (jw_g G) A f_R_hasHome [jw_a G 1, .int x2] M2 (fun r3 M3 => ((r3 = 0 → jw_R l X (jw_g G) A f_V_share 0 M3) ∧ (¬ r3 = 0 → jw_R l X (jw_g G) A f_V_share 1 M3)))))))) : jw_X l X (jw_g G) A f_V_share 0 [some (jw_a G 0), some (.int x1), some (.int x2), some (.int x3)] [] M := by
  refine jw_aload_n (i := 0) d_V_share_0 rfl rfl ?_
  refine jw_get (j := 0) (v := jw_a G 1) d_V_share_1 jw_k0 jw_c_V jw_oc_V (Nat.le_of_ble_eq_true rfl) jw_fl_V_18 rfl rfl ?_
  refine jw_iload_n (i := 3) d_V_share_4 rfl rfl ?_
  refine jw_callV (As := [.int x3]) (S := []) d_V_share_5 jw_k1 jw_c_R jw_ml_V_178 jw_in_f_R_lookUp jw_se_f_R_lookUp ⟨Nat.le_of_ble_eq_true rfl, Nat.le_of_ble_eq_true rfl⟩ rfl rfl (Nat.le_of_ble_eq_true rfl) (jw_M_mono h (fun r1 M1 h => ?_))
  refine jw_st (S' := []) rfl ?_
  refine jw_aload_n (i := 0) d_V_share_8 rfl rfl ?_
  refine jw_get (j := 0) (v := jw_a G 1) d_V_share_9 jw_k0 jw_c_V jw_oc_V (Nat.le_of_ble_eq_true rfl) jw_fl_V_18 rfl rfl ?_
  refine jw_iload_n (i := 1) d_V_share_12 rfl rfl ?_
  refine jw_callV (As := [.int x1]) (S := []) d_V_share_13 jw_k1 jw_c_R jw_ml_V_240 jw_in_f_R_hasHome jw_se_f_R_hasHome ⟨Nat.le_of_ble_eq_true rfl, Nat.le_of_ble_eq_true rfl⟩ rfl rfl (Nat.le_of_ble_eq_true rfl) (jw_M_mono h (fun r2 M2 h => ?_))
  refine jw_st (S' := [.int r2]) rfl ?_
  refine jw_if_eq (tgt := 34) d_V_share_16 (by decide) (fun hc => ?_) (fun hc => ?_)
  · have h := h.1 hc
    refine jw_iconst (v := 0) d_V_share_34 jc_i_0 ?_
    exact jw_ireturn d_V_share_35 rfl h
  · have h := h.2 hc
    refine jw_aload_n (i := 0) d_V_share_19 rfl rfl ?_
    refine jw_get (j := 0) (v := jw_a G 1) d_V_share_20 jw_k0 jw_c_V jw_oc_V (Nat.le_of_ble_eq_true rfl) jw_fl_V_18 rfl rfl ?_
    refine jw_iload_n (i := 2) d_V_share_23 rfl rfl ?_
    refine jw_callV (As := [.int x2]) (S := []) d_V_share_24 jw_k1 jw_c_R jw_ml_V_240 jw_in_f_R_hasHome jw_se_f_R_hasHome ⟨Nat.le_of_ble_eq_true rfl, Nat.le_of_ble_eq_true rfl⟩ rfl rfl (Nat.le_of_ble_eq_true rfl) (jw_M_mono h (fun r3 M3 h => ?_))
    refine jw_st (S' := [.int r3]) rfl ?_
    refine jw_if_eq (tgt := 34) d_V_share_27 (by decide) (fun hc => ?_) (fun hc => ?_)
    · have h := h.1 hc
      refine jw_iconst (v := 0) d_V_share_34 jc_i_0 ?_
      exact jw_ireturn d_V_share_35 rfl h
    · have h := h.2 hc
      refine jw_iconst (v := 1) d_V_share_30 jc_i_1 ?_
      refine jw_goto (tgt := 35) d_V_share_31 (by decide) ?_
      exact jw_ireturn d_V_share_35 rfl h
set_option maxRecDepth 100000 in
theorem e_V_share {l : Launch} {G : jw_G} {A : Nat → Prop} {x1 : Int32} {x2 : Int32} {x3 : Int32} {M : jw_Mem} {Q : Int32 → jw_Mem → Prop} (h : ∀ X : jw_X0, (∀ r M', Q r M' → (r = 0 ∨ r = 1) → jw_R l X (jw_g G) A f_V_share r M') → jw_M l (jw_g G) A f_R_lookUp [jw_a G 1, .int x3] M (fun _ M1 => jw_M l (jw_g G) A f_R_hasHome [jw_a G 1, .int x1] M1 (fun r2 M2 => ((r2 = 0 → jw_R l X (jw_g G) A f_V_share 0 M2) ∧ (¬ r2 = 0 → jw_M l (jw_g G) A f_R_hasHome [jw_a G 1, .int x2] M2 (fun r3 M3 => ((r3 = 0 → jw_R l X (jw_g G) A f_V_share 0 M3) ∧ (¬ r3 = 0 → jw_R l X (jw_g G) A f_V_share 1 M3)))))))) : jw_M l (jw_g G) A f_V_share [jw_a G 0, .int x1, .int x2, .int x3] M Q := by
  refine jw_M_of (by decide) (Nat.le_of_ble_eq_true rfl) (by intro v hv; simp at hv; rcases hv with rfl | rfl | rfl | rfl <;> rfl) (fun X hR => ?_)
  exact k_V_share_0  (h X (fun r M' q hb => hR r M' q (fun ty h0 => by cases h0; exact jw_nb hb)))

set_option maxRecDepth 100000 in
set_option maxHeartbeats 4000000 in
theorem k_V_differ_0 {l : Launch} {X : jw_X0} {G : jw_G} {A : Nat → Prop} {x1 : Int32} {x2 : Int32} {x3 : Int32} {M : jw_Mem} (h : jw_X l X (jw_g G) A f_V_differ 3 [some (jw_a G 0), some (.int x1), some (.int x2), some (.int x3), some (.int 0)] [] M) : jw_X l X (jw_g G) A f_V_differ 0 [some (jw_a G 0), some (.int x1), some (.int x2), some (.int x3), none] [] M := by
  refine jw_iconst (v := 0) d_V_differ_0 jc_i_0 ?_
  refine jw_istore d_V_differ_1 (Nat.le_of_ble_eq_true rfl) ?_
  exact h
set_option maxRecDepth 100000 in
set_option maxHeartbeats 4000000 in
theorem k_V_differ_3 {l : Launch} {X : jw_X0} {G : jw_G} {A : Nat → Prop} {x1 x2 x3 x4 : Int32} {M : jw_Mem} (h : (((M 4 4) ≤ x4 → jw_R l X (jw_g G) A f_V_differ 0 M) ∧ (¬ (M 4 4) ≤ x4 → (∃ j1 : Nat, (j1 < 40 ∧ x4 = nI j1) ∧ ((¬ (M 5 j1) = x3 → jw_X l X (jw_g G) A f_V_differ 3 [some (jw_a G 0), some (.int x1), some (.int x2), some (.int x3), some (.int (x4 + 1))] [] M) ∧ ((M 5 j1) = x3 → (∃ a1 : Nat, (a1 < 5 ∧ x1 = nI a1) ∧ (∃ j2 : Nat, (j2 < 40 ∧ x4 = nI j2) ∧ (∃ a2 : Nat, (a2 < 5 ∧ x2 = nI a2) ∧ (∃ j3 : Nat, (j3 < 40 ∧ x4 = nI j3) ∧ (((M (11 + 3 * a1) j2) = (M (11 + 3 * a2) j3) → jw_X l X (jw_g G) A f_V_differ 3 [some (jw_a G 0), some (.int x1), some (.int x2), some (.int x3), some (.int (x4 + 1))] [] M) ∧ (¬ (M (11 + 3 * a1) j2) = (M (11 + 3 * a2) j3) → jw_R l X (jw_g G) A f_V_differ 1 M)))))))))))) : jw_X l X (jw_g G) A f_V_differ 3 [some (jw_a G 0), some (.int x1), some (.int x2), some (.int x3), some (.int x4)] [] M := by
  refine jw_iload d_V_differ_3 rfl ?_
  refine jw_aload_n (i := 0) d_V_differ_5 rfl rfl ?_
  refine jw_get (j := 1) (v := jw_a G 4) d_V_differ_6 jw_k0 jw_c_V jw_oc_V (Nat.le_of_ble_eq_true rfl) jw_fl_V_34 rfl rfl ?_
  refine jw_get (j := 4) (v := .int (M 4 4)) d_V_differ_9 jw_k4 jw_c_G jw_oc_G (Nat.le_of_ble_eq_true rfl) jw_fl_V_104 rfl rfl ?_
  refine jw_icmp_ge (tgt := 64) d_V_differ_12 (by decide) (fun hc => ?_) (fun hc => ?_)
  · have h := h.1 hc
    refine jw_iconst (v := 0) d_V_differ_64 jc_i_0 ?_
    exact jw_ireturn d_V_differ_65 rfl h
  · have h := h.2 hc
    refine jw_aload_n (i := 0) d_V_differ_15 rfl rfl ?_
    refine jw_get (j := 1) (v := jw_a G 4) d_V_differ_16 jw_k0 jw_c_V jw_oc_V (Nat.le_of_ble_eq_true rfl) jw_fl_V_34 rfl rfl ?_
    refine jw_get (j := 0) (v := jw_a G 5) d_V_differ_19 jw_k4 jw_c_G jw_oc_G (Nat.le_of_ble_eq_true rfl) jw_fl_V_200 rfl rfl ?_
    refine jw_iload d_V_differ_22 rfl ?_
    obtain ⟨j1, hj1, h⟩ := h
    refine jw_iald2 d_V_differ_24 jw_k5 (Nat.le_of_ble_eq_true rfl) hj1 ?_
    refine jw_iload_n (i := 3) d_V_differ_25 rfl rfl ?_
    refine jw_icmp_ne (tgt := 58) d_V_differ_26 (by decide) (fun hc => ?_) (fun hc => ?_)
    · have h := h.1 hc
      refine jw_iinc (d := 1) d_V_differ_58 rfl jc_i_1 (Nat.le_of_ble_eq_true rfl) ?_
      refine jw_goto (tgt := 3) d_V_differ_61 (by decide) ?_
      exact h
    · have h := h.2 hc
      refine jw_aload_n (i := 0) d_V_differ_29 rfl rfl ?_
      refine jw_get (j := 2) (v := jw_a G 9) d_V_differ_30 jw_k0 jw_c_V jw_oc_V (Nat.le_of_ble_eq_true rfl) jw_fl_V_40 rfl rfl ?_
      refine jw_iload_n (i := 1) d_V_differ_33 rfl rfl ?_
      obtain ⟨a1, ha1, h⟩ := h
      refine jw_aaldN d_V_differ_34 ha1 ?_
      refine jw_get (j := 1) (v := jw_a G (11 + 3 * a1)) d_V_differ_35 (jw_kN ha1.1) jw_c_N jw_oc_N (Nat.le_of_ble_eq_true rfl) jw_fl_V_190 rfl rfl ?_
      refine jw_iload d_V_differ_38 rfl ?_
      obtain ⟨j2, hj2, h⟩ := h
      refine jw_zald2 d_V_differ_40 (jw_kH ha1.1) (Nat.le_of_ble_eq_true rfl) hj2 ?_
      refine jw_aload_n (i := 0) d_V_differ_41 rfl rfl ?_
      refine jw_get (j := 2) (v := jw_a G 9) d_V_differ_42 jw_k0 jw_c_V jw_oc_V (Nat.le_of_ble_eq_true rfl) jw_fl_V_40 rfl rfl ?_
      refine jw_iload_n (i := 2) d_V_differ_45 rfl rfl ?_
      obtain ⟨a2, ha2, h⟩ := h
      refine jw_aaldN d_V_differ_46 ha2 ?_
      refine jw_get (j := 1) (v := jw_a G (11 + 3 * a2)) d_V_differ_47 (jw_kN ha2.1) jw_c_N jw_oc_N (Nat.le_of_ble_eq_true rfl) jw_fl_V_190 rfl rfl ?_
      refine jw_iload d_V_differ_50 rfl ?_
      obtain ⟨j3, hj3, h⟩ := h
      refine jw_zald2 d_V_differ_52 (jw_kH ha2.1) (Nat.le_of_ble_eq_true rfl) hj3 ?_
      refine jw_icmp_eq (tgt := 58) d_V_differ_53 (by decide) (fun hc => ?_) (fun hc => ?_)
      · have h := h.1 hc
        refine jw_iinc (d := 1) d_V_differ_58 rfl jc_i_1 (Nat.le_of_ble_eq_true rfl) ?_
        refine jw_goto (tgt := 3) d_V_differ_61 (by decide) ?_
        exact h
      · have h := h.2 hc
        refine jw_iconst (v := 1) d_V_differ_56 jc_i_1 ?_
        exact jw_ireturn d_V_differ_57 rfl h
set_option maxRecDepth 100000 in
theorem e_V_differ {l : Launch} {G : jw_G} {A : Nat → Prop} {x1 : Int32} {x2 : Int32} {x3 : Int32} {M : jw_Mem} {Q : Int32 → jw_Mem → Prop} (h : ∀ X : jw_X0, (∀ r M', Q r M' → (r = 0 ∨ r = 1) → jw_R l X (jw_g G) A f_V_differ r M') → jw_X l X (jw_g G) A f_V_differ 3 [some (jw_a G 0), some (.int x1), some (.int x2), some (.int x3), some (.int 0)] [] M) : jw_M l (jw_g G) A f_V_differ [jw_a G 0, .int x1, .int x2, .int x3] M Q := by
  refine jw_M_of (by decide) (Nat.le_of_ble_eq_true rfl) (by intro v hv; simp at hv; rcases hv with rfl | rfl | rfl | rfl <;> rfl) (fun X hR => ?_)
  exact k_V_differ_0  (h X (fun r M' q hb => hR r M' q (fun ty h0 => by cases h0; exact jw_nb hb)))

set_option maxRecDepth 100000 in
set_option maxHeartbeats 4000000 in
theorem k_V_exchange_0 {l : Launch} {X : jw_X0} {G : jw_G} {A : Nat → Prop} {x1 : Int32} {x2 : Int32} {x3 : Int32} {M : jw_Mem} (h : (∃ a1 : Nat, (a1 < 5 ∧ x1 = nI a1) ∧ jw_M l (jw_g G) A f_N_writeOut [jw_a G (10 + 3 * a1), .int x3, jw_a G 38] M (fun r1 M1 => (∃ a2 : Nat, (a2 < 5 ∧ x2 = nI a2) ∧ jw_M l (jw_g G) A f_N_writeOut [jw_a G (10 + 3 * a2), .int x3, jw_a G 39] M1 (fun r2 M2 => (∃ a3 : Nat, (a3 < 5 ∧ x1 = nI a3) ∧ jw_M l (jw_g G) A f_N_takeAll [jw_a G (10 + 3 * a3), jw_a G 39] M2 (fun r3 M3 => (∃ a4 : Nat, (a4 < 5 ∧ x2 = nI a4) ∧ jw_M l (jw_g G) A f_N_takeAll [jw_a G (10 + 3 * a4), jw_a G 38] M3 (fun r4 M4 => jw_R l X (jw_g G) A f_V_exchange 0 M4))))))))) : jw_X l X (jw_g G) A f_V_exchange 0 [some (jw_a G 0), some (.int x1), some (.int x2), some (.int x3)] [] M := by
  refine jw_aload_n (i := 0) d_V_exchange_0 rfl rfl ?_
  refine jw_get (j := 2) (v := jw_a G 9) d_V_exchange_1 jw_k0 jw_c_V jw_oc_V (Nat.le_of_ble_eq_true rfl) jw_fl_V_40 rfl rfl ?_
  refine jw_iload_n (i := 1) d_V_exchange_4 rfl rfl ?_
  obtain ⟨a1, ha1, h⟩ := h
  refine jw_aaldN d_V_exchange_5 ha1 ?_
  refine jw_iload_n (i := 3) d_V_exchange_6 rfl rfl ?_
  refine jw_aload_n (i := 0) d_V_exchange_7 rfl rfl ?_
  refine jw_get (j := 13) (v := jw_a G 38) d_V_exchange_8 jw_k0 jw_c_V jw_oc_V (Nat.le_of_ble_eq_true rfl) jw_fl_V_68 rfl rfl ?_
  refine jw_callV (As := [.int x3, jw_a G 38]) (S := []) d_V_exchange_11 (jw_kN ha1.1) jw_c_N jw_ml_V_196 jw_in_f_N_writeOut jw_se_f_N_writeOut ⟨Nat.le_of_ble_eq_true rfl, Nat.le_of_ble_eq_true rfl⟩ rfl rfl (Nat.le_of_ble_eq_true rfl) (jw_M_mono h (fun r1 M1 h => ?_))
  refine jw_st (S' := [.int r1]) rfl ?_
  refine jw_pop d_V_exchange_14 rfl ?_
  refine jw_aload_n (i := 0) d_V_exchange_15 rfl rfl ?_
  refine jw_get (j := 2) (v := jw_a G 9) d_V_exchange_16 jw_k0 jw_c_V jw_oc_V (Nat.le_of_ble_eq_true rfl) jw_fl_V_40 rfl rfl ?_
  refine jw_iload_n (i := 2) d_V_exchange_19 rfl rfl ?_
  obtain ⟨a2, ha2, h⟩ := h
  refine jw_aaldN d_V_exchange_20 ha2 ?_
  refine jw_iload_n (i := 3) d_V_exchange_21 rfl rfl ?_
  refine jw_aload_n (i := 0) d_V_exchange_22 rfl rfl ?_
  refine jw_get (j := 14) (v := jw_a G 39) d_V_exchange_23 jw_k0 jw_c_V jw_oc_V (Nat.le_of_ble_eq_true rfl) jw_fl_V_71 rfl rfl ?_
  refine jw_callV (As := [.int x3, jw_a G 39]) (S := []) d_V_exchange_26 (jw_kN ha2.1) jw_c_N jw_ml_V_196 jw_in_f_N_writeOut jw_se_f_N_writeOut ⟨Nat.le_of_ble_eq_true rfl, Nat.le_of_ble_eq_true rfl⟩ rfl rfl (Nat.le_of_ble_eq_true rfl) (jw_M_mono h (fun r2 M2 h => ?_))
  refine jw_st (S' := [.int r2]) rfl ?_
  refine jw_pop d_V_exchange_29 rfl ?_
  refine jw_aload_n (i := 0) d_V_exchange_30 rfl rfl ?_
  refine jw_get (j := 2) (v := jw_a G 9) d_V_exchange_31 jw_k0 jw_c_V jw_oc_V (Nat.le_of_ble_eq_true rfl) jw_fl_V_40 rfl rfl ?_
  refine jw_iload_n (i := 1) d_V_exchange_34 rfl rfl ?_
  obtain ⟨a3, ha3, h⟩ := h
  refine jw_aaldN d_V_exchange_35 ha3 ?_
  refine jw_aload_n (i := 0) d_V_exchange_36 rfl rfl ?_
  refine jw_get (j := 14) (v := jw_a G 39) d_V_exchange_37 jw_k0 jw_c_V jw_oc_V (Nat.le_of_ble_eq_true rfl) jw_fl_V_71 rfl rfl ?_
  refine jw_callV (As := [jw_a G 39]) (S := []) d_V_exchange_40 (jw_kN ha3.1) jw_c_N jw_ml_V_150 jw_in_f_N_takeAll jw_se_f_N_takeAll ⟨Nat.le_of_ble_eq_true rfl, Nat.le_of_ble_eq_true rfl⟩ rfl rfl (Nat.le_of_ble_eq_true rfl) (jw_M_mono h (fun r3 M3 h => ?_))
  refine jw_st (S' := [.int r3]) rfl ?_
  refine jw_pop d_V_exchange_43 rfl ?_
  refine jw_aload_n (i := 0) d_V_exchange_44 rfl rfl ?_
  refine jw_get (j := 2) (v := jw_a G 9) d_V_exchange_45 jw_k0 jw_c_V jw_oc_V (Nat.le_of_ble_eq_true rfl) jw_fl_V_40 rfl rfl ?_
  refine jw_iload_n (i := 2) d_V_exchange_48 rfl rfl ?_
  obtain ⟨a4, ha4, h⟩ := h
  refine jw_aaldN d_V_exchange_49 ha4 ?_
  refine jw_aload_n (i := 0) d_V_exchange_50 rfl rfl ?_
  refine jw_get (j := 13) (v := jw_a G 38) d_V_exchange_51 jw_k0 jw_c_V jw_oc_V (Nat.le_of_ble_eq_true rfl) jw_fl_V_68 rfl rfl ?_
  refine jw_callV (As := [jw_a G 38]) (S := []) d_V_exchange_54 (jw_kN ha4.1) jw_c_N jw_ml_V_150 jw_in_f_N_takeAll jw_se_f_N_takeAll ⟨Nat.le_of_ble_eq_true rfl, Nat.le_of_ble_eq_true rfl⟩ rfl rfl (Nat.le_of_ble_eq_true rfl) (jw_M_mono h (fun r4 M4 h => ?_))
  refine jw_st (S' := [.int r4]) rfl ?_
  refine jw_pop d_V_exchange_57 rfl ?_
  exact jw_return d_V_exchange_58 rfl h
set_option maxRecDepth 100000 in
theorem e_V_exchange {l : Launch} {G : jw_G} {A : Nat → Prop} {x1 : Int32} {x2 : Int32} {x3 : Int32} {M : jw_Mem} {Q : Int32 → jw_Mem → Prop} (h : ∀ X : jw_X0, (∀ M', Q 0 M' → jw_R l X (jw_g G) A f_V_exchange 0 M') → (∃ a1 : Nat, (a1 < 5 ∧ x1 = nI a1) ∧ jw_M l (jw_g G) A f_N_writeOut [jw_a G (10 + 3 * a1), .int x3, jw_a G 38] M (fun r1 M1 => (∃ a2 : Nat, (a2 < 5 ∧ x2 = nI a2) ∧ jw_M l (jw_g G) A f_N_writeOut [jw_a G (10 + 3 * a2), .int x3, jw_a G 39] M1 (fun r2 M2 => (∃ a3 : Nat, (a3 < 5 ∧ x1 = nI a3) ∧ jw_M l (jw_g G) A f_N_takeAll [jw_a G (10 + 3 * a3), jw_a G 39] M2 (fun r3 M3 => (∃ a4 : Nat, (a4 < 5 ∧ x2 = nI a4) ∧ jw_M l (jw_g G) A f_N_takeAll [jw_a G (10 + 3 * a4), jw_a G 38] M3 (fun r4 M4 => jw_R l X (jw_g G) A f_V_exchange 0 M4))))))))) : jw_M l (jw_g G) A f_V_exchange [jw_a G 0, .int x1, .int x2, .int x3] M Q := by
  refine jw_M_of (by decide) (Nat.le_of_ble_eq_true rfl) (by intro v hv; simp at hv; rcases hv with rfl | rfl | rfl | rfl <;> rfl) (fun X hR => ?_)
  exact k_V_exchange_0  (h X (fun M' q => hR 0 M' q (fun ty h0 => nomatch h0)))

set_option maxRecDepth 100000 in
set_option maxHeartbeats 4000000 in
theorem k_V_countComparedParts_0 {l : Launch} {X : jw_X0} {G : jw_G} {A : Nat → Prop}  {M : jw_Mem} (h : jw_X l X (jw_g G) A f_V_countComparedParts 5 [some (jw_a G 0), some (.int 1), some (.int 16), none] [] M) : jw_X l X (jw_g G) A f_V_countComparedParts 0 [some (jw_a G 0), none, none, none] [] M := by
  refine jw_iconst (v := 1) d_V_countComparedParts_0 jc_i_1 ?_
  refine jw_istore_n (i := 1) d_V_countComparedParts_1 rfl (Nat.le_of_ble_eq_true rfl) ?_
  refine jw_bipush (v := 16) d_V_countComparedParts_2 jc_b_16 ?_
  refine jw_istore_n (i := 2) d_V_countComparedParts_4 rfl (Nat.le_of_ble_eq_true rfl) ?_
  exact h
set_option maxRecDepth 100000 in
set_option maxHeartbeats 4000000 in
theorem k_V_countComparedParts_5 {l : Launch} {X : jw_X0} {G : jw_G} {A : Nat → Prop} {x1 x2 : Int32} {M : jw_Mem} (h : ((x2 ≤ 0 → jw_R l X (jw_g G) A f_V_countComparedParts x1 M) ∧ (¬ x2 ≤ 0 → jw_X l X (jw_g G) A f_V_countComparedParts 11 [some (jw_a G 0), some (.int x1), some (.int x2), some (.int 0)] [] M))) : jw_X l X (jw_g G) A f_V_countComparedParts 5 [some (jw_a G 0), some (.int x1), some (.int x2), none] [] M := by
  refine jw_iload_n (i := 2) d_V_countComparedParts_5 rfl rfl ?_
  refine jw_if_le (tgt := 76) d_V_countComparedParts_6 (by decide) (fun hc => ?_) (fun hc => ?_)
  · have h := h.1 hc
    refine jw_iload_n (i := 1) d_V_countComparedParts_76 rfl rfl ?_
    exact jw_ireturn d_V_countComparedParts_77 rfl h
  · have h := h.2 hc
    refine jw_iconst (v := 0) d_V_countComparedParts_9 jc_i_0 ?_
    refine jw_istore_n (i := 3) d_V_countComparedParts_10 rfl (Nat.le_of_ble_eq_true rfl) ?_
    exact h
set_option maxRecDepth 100000 in
set_option maxHeartbeats 4000000 in
theorem k_V_countComparedParts_11 {l : Launch} {X : jw_X0} {G : jw_G} {A : Nat → Prop} {x1 x2 x3 : Int32} {M : jw_Mem} (h : ((x2 ≤ x3 → jw_X l X (jw_g G) A f_V_countComparedParts 5 [some (jw_a G 0), some (.int x1), some (.int (x2 / 2)), none] [] M) ∧ (¬ x2 ≤ x3 → (∃ j1 : Nat, (j1 < 32 ∧ (2 * x3) = nI j1) ∧ ((¬ (M 40 j1) = 0 → (∃ j2 : Nat, (j2 < 32 ∧ x3 = nI j2) ∧ (∃ j3 : Nat, (j3 < 32 ∧ x3 = nI j3) ∧ ((((jw_U M 40 j2 1) 40 j3) = 0 → jw_X l X (jw_g G) A f_V_countComparedParts 11 [some (jw_a G 0), some (.int x1), some (.int x2), some (.int (x3 + 1))] [] (jw_U M 40 j2 1)) ∧ (¬ ((jw_U M 40 j2 1) 40 j3) = 0 → jw_X l X (jw_g G) A f_V_countComparedParts 11 [some (jw_a G 0), some (.int (x1 + 2)), some (.int x2), some (.int (x3 + 1))] [] (jw_U M 40 j2 1)))))) ∧ ((M 40 j1) = 0 → (∃ j4 : Nat, (j4 < 32 ∧ ((2 * x3) + 1) = nI j4) ∧ (((M 40 j4) = 0 → (∃ j5 : Nat, (j5 < 32 ∧ x3 = nI j5) ∧ (∃ j6 : Nat, (j6 < 32 ∧ x3 = nI j6) ∧ ((((jw_U M 40 j5 0) 40 j6) = 0 → jw_X l X (jw_g G) A f_V_countComparedParts 11 [some (jw_a G 0), some (.int x1), some (.int x2), some (.int (x3 + 1))] [] (jw_U M 40 j5 0)) ∧ (¬ ((jw_U M 40 j5 0) 40 j6) = 0 → jw_X l X (jw_g G) A f_V_countComparedParts 11 [some (jw_a G 0), some (.int (x1 + 2)), some (.int x2), some (.int (x3 + 1))] [] (jw_U M 40 j5 0)))))) ∧ (¬ (M 40 j4) = 0 → (∃ j7 : Nat, (j7 < 32 ∧ x3 = nI j7) ∧ (∃ j8 : Nat, (j8 < 32 ∧ x3 = nI j8) ∧ ((((jw_U M 40 j7 1) 40 j8) = 0 → jw_X l X (jw_g G) A f_V_countComparedParts 11 [some (jw_a G 0), some (.int x1), some (.int x2), some (.int (x3 + 1))] [] (jw_U M 40 j7 1)) ∧ (¬ ((jw_U M 40 j7 1) 40 j8) = 0 → jw_X l X (jw_g G) A f_V_countComparedParts 11 [some (jw_a G 0), some (.int (x1 + 2)), some (.int x2), some (.int (x3 + 1))] [] (jw_U M 40 j7 1)))))))))))))) : jw_X l X (jw_g G) A f_V_countComparedParts 11 [some (jw_a G 0), some (.int x1), some (.int x2), some (.int x3)] [] M := by
  refine jw_iload_n (i := 3) d_V_countComparedParts_11 rfl rfl ?_
  refine jw_iload_n (i := 2) d_V_countComparedParts_12 rfl rfl ?_
  refine jw_icmp_ge (tgt := 69) d_V_countComparedParts_13 (by decide) (fun hc => ?_) (fun hc => ?_)
  · have h := h.1 hc
    refine jw_iload_n (i := 2) d_V_countComparedParts_69 rfl rfl ?_
    refine jw_iconst (v := 2) d_V_countComparedParts_70 jc_i_2 ?_
    refine jw_idiv d_V_countComparedParts_71 (by decide) ?_
    refine jw_istore_n (i := 2) d_V_countComparedParts_72 rfl (Nat.le_of_ble_eq_true rfl) ?_
    refine jw_goto (tgt := 5) d_V_countComparedParts_73 (by decide) ?_
    refine jw_forget 3 ?_
    exact h
  · have h := h.2 hc
    refine jw_aload_n (i := 0) d_V_countComparedParts_16 rfl rfl ?_
    refine jw_get (j := 15) (v := jw_a G 40) d_V_countComparedParts_17 jw_k0 jw_c_V jw_oc_V (Nat.le_of_ble_eq_true rfl) jw_fl_V_74 rfl rfl ?_
    refine jw_iload_n (i := 3) d_V_countComparedParts_20 rfl rfl ?_
    refine jw_aload_n (i := 0) d_V_countComparedParts_21 rfl rfl ?_
    refine jw_get (j := 15) (v := jw_a G 40) d_V_countComparedParts_22 jw_k0 jw_c_V jw_oc_V (Nat.le_of_ble_eq_true rfl) jw_fl_V_74 rfl rfl ?_
    refine jw_iconst (v := 2) d_V_countComparedParts_25 jc_i_2 ?_
    refine jw_iload_n (i := 3) d_V_countComparedParts_26 rfl rfl ?_
    refine jw_imul d_V_countComparedParts_27 ?_
    obtain ⟨j1, hj1, h⟩ := h
    refine jw_zald2 d_V_countComparedParts_28 jw_k40 (Nat.le_of_ble_eq_true rfl) hj1 ?_
    refine jw_if_ne (tgt := 45) d_V_countComparedParts_29 (by decide) (fun hc => ?_) (fun hc => ?_)
    · have h := h.1 hc
      refine jw_iconst (v := 1) d_V_countComparedParts_45 jc_i_1 ?_
      refine jw_goto (tgt := 50) d_V_countComparedParts_46 (by decide) ?_
      obtain ⟨j2, hj2, h⟩ := h
      refine jw_zast2 d_V_countComparedParts_50 jw_k40 (Nat.le_of_ble_eq_true rfl) hj2 jw_b1 ?_
      refine jw_aload_n (i := 0) d_V_countComparedParts_51 rfl rfl ?_
      refine jw_get (j := 15) (v := jw_a G 40) d_V_countComparedParts_52 jw_k0 jw_c_V jw_oc_V (Nat.le_of_ble_eq_true rfl) jw_fl_V_74 rfl rfl ?_
      refine jw_iload_n (i := 3) d_V_countComparedParts_55 rfl rfl ?_
      obtain ⟨j3, hj3, h⟩ := h
      refine jw_zald2 d_V_countComparedParts_56 jw_k40 (Nat.le_of_ble_eq_true rfl) hj3 ?_
      refine jw_if_eq (tgt := 63) d_V_countComparedParts_57 (by decide) (fun hc => ?_) (fun hc => ?_)
      · have h := h.1 hc
        refine jw_iinc (d := 1) d_V_countComparedParts_63 rfl jc_i_1 (Nat.le_of_ble_eq_true rfl) ?_
        refine jw_goto (tgt := 11) d_V_countComparedParts_66 (by decide) ?_
        exact h
      · have h := h.2 hc
        refine jw_iinc (d := 2) d_V_countComparedParts_60 rfl jc_i_2 (Nat.le_of_ble_eq_true rfl) ?_
        refine jw_iinc (d := 1) d_V_countComparedParts_63 rfl jc_i_1 (Nat.le_of_ble_eq_true rfl) ?_
        refine jw_goto (tgt := 11) d_V_countComparedParts_66 (by decide) ?_
        exact h
    · have h := h.2 hc
      refine jw_aload_n (i := 0) d_V_countComparedParts_32 rfl rfl ?_
      refine jw_get (j := 15) (v := jw_a G 40) d_V_countComparedParts_33 jw_k0 jw_c_V jw_oc_V (Nat.le_of_ble_eq_true rfl) jw_fl_V_74 rfl rfl ?_
      refine jw_iconst (v := 2) d_V_countComparedParts_36 jc_i_2 ?_
      refine jw_iload_n (i := 3) d_V_countComparedParts_37 rfl rfl ?_
      refine jw_imul d_V_countComparedParts_38 ?_
      refine jw_iconst (v := 1) d_V_countComparedParts_39 jc_i_1 ?_
      refine jw_iadd d_V_countComparedParts_40 ?_
      obtain ⟨j4, hj4, h⟩ := h
      refine jw_zald2 d_V_countComparedParts_41 jw_k40 (Nat.le_of_ble_eq_true rfl) hj4 ?_
      refine jw_if_eq (tgt := 49) d_V_countComparedParts_42 (by decide) (fun hc => ?_) (fun hc => ?_)
      · have h := h.1 hc
        refine jw_iconst (v := 0) d_V_countComparedParts_49 jc_i_0 ?_
        obtain ⟨j5, hj5, h⟩ := h
        refine jw_zast2 d_V_countComparedParts_50 jw_k40 (Nat.le_of_ble_eq_true rfl) hj5 jw_b0 ?_
        refine jw_aload_n (i := 0) d_V_countComparedParts_51 rfl rfl ?_
        refine jw_get (j := 15) (v := jw_a G 40) d_V_countComparedParts_52 jw_k0 jw_c_V jw_oc_V (Nat.le_of_ble_eq_true rfl) jw_fl_V_74 rfl rfl ?_
        refine jw_iload_n (i := 3) d_V_countComparedParts_55 rfl rfl ?_
        obtain ⟨j6, hj6, h⟩ := h
        refine jw_zald2 d_V_countComparedParts_56 jw_k40 (Nat.le_of_ble_eq_true rfl) hj6 ?_
        refine jw_if_eq (tgt := 63) d_V_countComparedParts_57 (by decide) (fun hc => ?_) (fun hc => ?_)
        · have h := h.1 hc
          refine jw_iinc (d := 1) d_V_countComparedParts_63 rfl jc_i_1 (Nat.le_of_ble_eq_true rfl) ?_
          refine jw_goto (tgt := 11) d_V_countComparedParts_66 (by decide) ?_
          exact h
        · have h := h.2 hc
          refine jw_iinc (d := 2) d_V_countComparedParts_60 rfl jc_i_2 (Nat.le_of_ble_eq_true rfl) ?_
          refine jw_iinc (d := 1) d_V_countComparedParts_63 rfl jc_i_1 (Nat.le_of_ble_eq_true rfl) ?_
          refine jw_goto (tgt := 11) d_V_countComparedParts_66 (by decide) ?_
          exact h
      · have h := h.2 hc
        refine jw_iconst (v := 1) d_V_countComparedParts_45 jc_i_1 ?_
        refine jw_goto (tgt := 50) d_V_countComparedParts_46 (by decide) ?_
        obtain ⟨j7, hj7, h⟩ := h
        refine jw_zast2 d_V_countComparedParts_50 jw_k40 (Nat.le_of_ble_eq_true rfl) hj7 jw_b1 ?_
        refine jw_aload_n (i := 0) d_V_countComparedParts_51 rfl rfl ?_
        refine jw_get (j := 15) (v := jw_a G 40) d_V_countComparedParts_52 jw_k0 jw_c_V jw_oc_V (Nat.le_of_ble_eq_true rfl) jw_fl_V_74 rfl rfl ?_
        refine jw_iload_n (i := 3) d_V_countComparedParts_55 rfl rfl ?_
        obtain ⟨j8, hj8, h⟩ := h
        refine jw_zald2 d_V_countComparedParts_56 jw_k40 (Nat.le_of_ble_eq_true rfl) hj8 ?_
        refine jw_if_eq (tgt := 63) d_V_countComparedParts_57 (by decide) (fun hc => ?_) (fun hc => ?_)
        · have h := h.1 hc
          refine jw_iinc (d := 1) d_V_countComparedParts_63 rfl jc_i_1 (Nat.le_of_ble_eq_true rfl) ?_
          refine jw_goto (tgt := 11) d_V_countComparedParts_66 (by decide) ?_
          exact h
        · have h := h.2 hc
          refine jw_iinc (d := 2) d_V_countComparedParts_60 rfl jc_i_2 (Nat.le_of_ble_eq_true rfl) ?_
          refine jw_iinc (d := 1) d_V_countComparedParts_63 rfl jc_i_1 (Nat.le_of_ble_eq_true rfl) ?_
          refine jw_goto (tgt := 11) d_V_countComparedParts_66 (by decide) ?_
          exact h
set_option maxRecDepth 100000 in
theorem e_V_countComparedParts {l : Launch} {G : jw_G} {A : Nat → Prop}  {M : jw_Mem} {Q : Int32 → jw_Mem → Prop} (h : ∀ X : jw_X0, (∀ r M', Q r M' → jw_R l X (jw_g G) A f_V_countComparedParts r M') → jw_X l X (jw_g G) A f_V_countComparedParts 5 [some (jw_a G 0), some (.int 1), some (.int 16), none] [] M) : jw_M l (jw_g G) A f_V_countComparedParts [jw_a G 0] M Q := by
  refine jw_M_of (by decide) (Nat.le_of_ble_eq_true rfl) (by intro v hv; simp at hv; rcases hv with rfl <;> rfl) (fun X hR => ?_)
  exact k_V_countComparedParts_0  (h X (fun r M' q => hR r M' q (fun ty h0 => by cases h0; rfl)))
