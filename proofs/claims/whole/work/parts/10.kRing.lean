set_option maxRecDepth 100000 in
set_option maxHeartbeats 4000000 in
theorem k_R_lookUp_0 {l : Launch} {X : jw_X0} {G : jw_G} {A : Nat → Prop} {x1 : Int32} {M : jw_Mem} (h : jw_X l X (jw_g G) A f_R_lookUp 13 [some (jw_a G 1), some (.int x1), some (.int ((5 * x1) + 3)), some (.int 0), none] [] (jw_U M 1 3 0)) : jw_X l X (jw_g G) A f_R_lookUp 0 [some (jw_a G 1), some (.int x1), none, none, none] [] M := by
  refine jw_iconst (v := 5) d_R_lookUp_0 jc_i_5 ?_
  refine jw_iload_n (i := 1) d_R_lookUp_1 rfl rfl ?_
  refine jw_imul d_R_lookUp_2 ?_
  refine jw_iconst (v := 3) d_R_lookUp_3 jc_i_3 ?_
  refine jw_iadd d_R_lookUp_4 ?_
  refine jw_istore_n (i := 2) d_R_lookUp_5 rfl (Nat.le_of_ble_eq_true rfl) ?_
  refine jw_aload_n (i := 0) d_R_lookUp_6 rfl rfl ?_
  refine jw_iconst (v := 0) d_R_lookUp_7 jc_i_0 ?_
  refine jw_put (j := 3) d_R_lookUp_8 jw_k1 jw_c_R jw_oc_R (Nat.le_of_ble_eq_true rfl) jw_fl_R_28 rfl rfl rfl rfl ?_
  refine jw_iconst (v := 0) d_R_lookUp_11 jc_i_0 ?_
  refine jw_istore_n (i := 3) d_R_lookUp_12 rfl (Nat.le_of_ble_eq_true rfl) ?_
  exact h
set_option maxRecDepth 100000 in
set_option maxHeartbeats 4000000 in
theorem k_R_lookUp_13 {l : Launch} {X : jw_X0} {G : jw_G} {A : Nat → Prop} {x1 x2 x3 : Int32} {M : jw_Mem} (h : ((16 ≤ x3 → jw_R l X (jw_g G) A f_R_lookUp 0 (jw_U M 1 4 (if (M 1 3) < (M 1 0) then (M 1 3) else (M 1 0)))) ∧ (¬ 16 ≤ x3 → (∃ j1 : Nat, (j1 < 16 ∧ ((x2 + x3) - (x2 + x3) / 16 * 16) = nI j1) ∧ (((M 2 j1) = (-1) → jw_X l X (jw_g G) A f_R_lookUp 13 [some (jw_a G 1), some (.int x1), some (.int x2), some (.int (x3 + 1)), none] [] M) ∧ (¬ (M 2 j1) = (-1) → jw_M l (jw_g G) A f_R_isAmongFirst [jw_a G 1, .int (M 1 3), .int (M 2 j1)] M (fun r1 M1 => ((¬ r1 = 0 → jw_X l X (jw_g G) A f_R_lookUp 13 [some (jw_a G 1), some (.int x1), some (.int x2), some (.int (x3 + 1)), none] [] M1) ∧ (r1 = 0 → (∃ j2 : Nat, (j2 < 5 ∧ (M1 1 3) = nI j2) ∧ jw_X l X (jw_g G) A f_R_lookUp 13 [some (jw_a G 1), some (.int x1), some (.int x2), some (.int (x3 + 1)), none] [] (jw_U (jw_U M1 3 j2 (M 2 j1)) 1 3 (((jw_U M1 3 j2 (M 2 j1)) 1 3) + 1)))))))))))) : jw_X l X (jw_g G) A f_R_lookUp 13 [some (jw_a G 1), some (.int x1), some (.int x2), some (.int x3), none] [] M := by
  refine jw_iload_n (i := 3) d_R_lookUp_13 rfl rfl ?_
  refine jw_bipush (v := 16) d_R_lookUp_14 jc_b_16 ?_
  refine jw_icmp_ge (tgt := 78) d_R_lookUp_16 (by decide) (fun hc => ?_) (fun hc => ?_)
  · have h := h.1 hc
    refine jw_aload_n (i := 0) d_R_lookUp_78 rfl rfl ?_
    refine jw_aload_n (i := 0) d_R_lookUp_79 rfl rfl ?_
    refine jw_get (j := 0) (v := .int (M 1 0)) d_R_lookUp_80 jw_k1 jw_c_R jw_oc_R (Nat.le_of_ble_eq_true rfl) jw_fl_R_9 rfl rfl ?_
    refine jw_aload_n (i := 0) d_R_lookUp_83 rfl rfl ?_
    refine jw_get (j := 3) (v := .int (M 1 3)) d_R_lookUp_84 jw_k1 jw_c_R jw_oc_R (Nat.le_of_ble_eq_true rfl) jw_fl_R_28 rfl rfl ?_
    refine jw_mmin d_R_lookUp_87 jw_ml_R_35 jw_w_min2 jw_w_min3 jw_w_min4 ⟨Nat.le_of_ble_eq_true rfl, Nat.le_of_ble_eq_true rfl⟩ (Nat.le_of_ble_eq_true rfl) ?_
    refine jw_put (j := 4) d_R_lookUp_90 jw_k1 jw_c_R jw_oc_R (Nat.le_of_ble_eq_true rfl) jw_fl_R_41 rfl rfl rfl rfl ?_
    exact jw_return d_R_lookUp_93 rfl h
  · have h := h.2 hc
    refine jw_aload_n (i := 0) d_R_lookUp_19 rfl rfl ?_
    refine jw_get (j := 1) (v := jw_a G 2) d_R_lookUp_20 jw_k1 jw_c_R jw_oc_R (Nat.le_of_ble_eq_true rfl) jw_fl_R_15 rfl rfl ?_
    refine jw_iload_n (i := 2) d_R_lookUp_23 rfl rfl ?_
    refine jw_iload_n (i := 3) d_R_lookUp_24 rfl rfl ?_
    refine jw_iadd d_R_lookUp_25 ?_
    refine jw_bipush (v := 16) d_R_lookUp_26 jc_b_16 ?_
    refine jw_irem d_R_lookUp_28 (by decide) ?_
    obtain ⟨j1, hj1, h⟩ := h
    refine jw_iald2 d_R_lookUp_29 jw_k2 (Nat.le_of_ble_eq_true rfl) hj1 ?_
    refine jw_istore d_R_lookUp_30 (Nat.le_of_ble_eq_true rfl) ?_
    refine jw_iload d_R_lookUp_32 rfl ?_
    refine jw_iconst (v := (-1)) d_R_lookUp_34 jc_i_m1 ?_
    refine jw_icmp_eq (tgt := 72) d_R_lookUp_35 (by decide) (fun hc => ?_) (fun hc => ?_)
    · have h := h.1 hc
      refine jw_iinc (d := 1) d_R_lookUp_72 rfl jc_i_1 (Nat.le_of_ble_eq_true rfl) ?_
      refine jw_goto (tgt := 13) d_R_lookUp_75 (by decide) ?_
      refine jw_forget 4 ?_
      exact h
    · have h := h.2 hc
      refine jw_aload_n (i := 0) d_R_lookUp_38 rfl rfl ?_
      refine jw_aload_n (i := 0) d_R_lookUp_39 rfl rfl ?_
      refine jw_get (j := 3) (v := .int (M 1 3)) d_R_lookUp_40 jw_k1 jw_c_R jw_oc_R (Nat.le_of_ble_eq_true rfl) jw_fl_R_28 rfl rfl ?_
      refine jw_iload d_R_lookUp_43 rfl ?_
      refine jw_callV (As := [.int (M 1 3), .int (M 2 j1)]) (S := []) d_R_lookUp_45 jw_k1 jw_c_R jw_ml_R_31 jw_in_f_R_isAmongFirst jw_se_f_R_isAmongFirst ⟨Nat.le_of_ble_eq_true rfl, Nat.le_of_ble_eq_true rfl⟩ rfl rfl (Nat.le_of_ble_eq_true rfl) (jw_M_mono h (fun r1 M1 h => ?_))
      refine jw_st (S' := [.int r1]) rfl ?_
      refine jw_if_ne (tgt := 72) d_R_lookUp_48 (by decide) (fun hc => ?_) (fun hc => ?_)
      · have h := h.1 hc
        refine jw_iinc (d := 1) d_R_lookUp_72 rfl jc_i_1 (Nat.le_of_ble_eq_true rfl) ?_
        refine jw_goto (tgt := 13) d_R_lookUp_75 (by decide) ?_
        refine jw_forget 4 ?_
        exact h
      · have h := h.2 hc
        refine jw_aload_n (i := 0) d_R_lookUp_51 rfl rfl ?_
        refine jw_get (j := 2) (v := jw_a G 3) d_R_lookUp_52 jw_k1 jw_c_R jw_oc_R (Nat.le_of_ble_eq_true rfl) jw_fl_R_25 rfl rfl ?_
        refine jw_aload_n (i := 0) d_R_lookUp_55 rfl rfl ?_
        refine jw_get (j := 3) (v := .int (M1 1 3)) d_R_lookUp_56 jw_k1 jw_c_R jw_oc_R (Nat.le_of_ble_eq_true rfl) jw_fl_R_28 rfl rfl ?_
        refine jw_iload d_R_lookUp_59 rfl ?_
        obtain ⟨j2, hj2, h⟩ := h
        refine jw_iast2 d_R_lookUp_61 jw_k3 (Nat.le_of_ble_eq_true rfl) hj2 ?_
        refine jw_aload_n (i := 0) d_R_lookUp_62 rfl rfl ?_
        refine jw_dup d_R_lookUp_63 rfl ?_
        refine jw_get (j := 3) (v := .int ((jw_U M1 3 j2 (M 2 j1)) 1 3)) d_R_lookUp_64 jw_k1 jw_c_R jw_oc_R (Nat.le_of_ble_eq_true rfl) jw_fl_R_28 rfl rfl ?_
        refine jw_iconst (v := 1) d_R_lookUp_67 jc_i_1 ?_
        refine jw_iadd d_R_lookUp_68 ?_
        refine jw_put (j := 3) d_R_lookUp_69 jw_k1 jw_c_R jw_oc_R (Nat.le_of_ble_eq_true rfl) jw_fl_R_28 rfl rfl rfl rfl ?_
        refine jw_iinc (d := 1) d_R_lookUp_72 rfl jc_i_1 (Nat.le_of_ble_eq_true rfl) ?_
        refine jw_goto (tgt := 13) d_R_lookUp_75 (by decide) ?_
        refine jw_forget 4 ?_
        exact h
set_option maxRecDepth 100000 in
theorem e_R_lookUp {l : Launch} {G : jw_G} {A : Nat → Prop} {x1 : Int32} {M : jw_Mem} {Q : Int32 → jw_Mem → Prop} (h : ∀ X : jw_X0, (∀ M', Q 0 M' → jw_R l X (jw_g G) A f_R_lookUp 0 M') → jw_X l X (jw_g G) A f_R_lookUp 13 [some (jw_a G 1), some (.int x1), some (.int ((5 * x1) + 3)), some (.int 0), none] [] (jw_U M 1 3 0)) : jw_M l (jw_g G) A f_R_lookUp [jw_a G 1, .int x1] M Q := by
  refine jw_M_of (by decide) (Nat.le_of_ble_eq_true rfl) (by intro v hv; simp at hv; rcases hv with rfl | rfl <;> rfl) (fun X hR => ?_)
  exact k_R_lookUp_0  (h X (fun M' q => hR 0 M' q (fun ty h0 => nomatch h0)))

set_option maxRecDepth 100000 in
set_option maxHeartbeats 4000000 in
theorem k_R_hasHome_0 {l : Launch} {X : jw_X0} {G : jw_G} {A : Nat → Prop} {x1 : Int32} {M : jw_Mem} (h : jw_M l (jw_g G) A f_R_isAmongFirst [jw_a G 1, .int (M 1 4), .int x1] M (fun r1 M1 => jw_R l X (jw_g G) A f_R_hasHome r1 M1)) : jw_X l X (jw_g G) A f_R_hasHome 0 [some (jw_a G 1), some (.int x1)] [] M := by
  refine jw_aload_n (i := 0) d_R_hasHome_0 rfl rfl ?_
  refine jw_aload_n (i := 0) d_R_hasHome_1 rfl rfl ?_
  refine jw_get (j := 4) (v := .int (M 1 4)) d_R_hasHome_2 jw_k1 jw_c_R jw_oc_R (Nat.le_of_ble_eq_true rfl) jw_fl_R_41 rfl rfl ?_
  refine jw_iload_n (i := 1) d_R_hasHome_5 rfl rfl ?_
  refine jw_callV (As := [.int (M 1 4), .int x1]) (S := []) d_R_hasHome_6 jw_k1 jw_c_R jw_ml_R_31 jw_in_f_R_isAmongFirst jw_se_f_R_isAmongFirst ⟨Nat.le_of_ble_eq_true rfl, Nat.le_of_ble_eq_true rfl⟩ rfl rfl (Nat.le_of_ble_eq_true rfl) (jw_M_mono h (fun r1 M1 h => ?_))
  refine jw_st (S' := [.int r1]) rfl ?_
  exact jw_ireturn d_R_hasHome_9 rfl h
set_option maxRecDepth 100000 in
theorem e_R_hasHome {l : Launch} {G : jw_G} {A : Nat → Prop} {x1 : Int32} {M : jw_Mem} {Q : Int32 → jw_Mem → Prop} (h : ∀ X : jw_X0, (∀ r M', Q r M' → (r = 0 ∨ r = 1) → jw_R l X (jw_g G) A f_R_hasHome r M') → jw_M l (jw_g G) A f_R_isAmongFirst [jw_a G 1, .int (M 1 4), .int x1] M (fun r1 M1 => jw_R l X (jw_g G) A f_R_hasHome r1 M1)) : jw_M l (jw_g G) A f_R_hasHome [jw_a G 1, .int x1] M Q := by
  refine jw_M_of (by decide) (Nat.le_of_ble_eq_true rfl) (by intro v hv; simp at hv; rcases hv with rfl | rfl <;> rfl) (fun X hR => ?_)
  exact k_R_hasHome_0  (h X (fun r M' q hb => hR r M' q (fun ty h0 => by cases h0; exact jw_nb hb)))

set_option maxRecDepth 100000 in
set_option maxHeartbeats 4000000 in
theorem k_R_isAmongFirst_0 {l : Launch} {X : jw_X0} {G : jw_G} {A : Nat → Prop} {x1 : Int32} {x2 : Int32} {M : jw_Mem} (h : jw_X l X (jw_g G) A f_R_isAmongFirst 2 [some (jw_a G 1), some (.int x1), some (.int x2), some (.int 0)] [] M) : jw_X l X (jw_g G) A f_R_isAmongFirst 0 [some (jw_a G 1), some (.int x1), some (.int x2), none] [] M := by
  refine jw_iconst (v := 0) d_R_isAmongFirst_0 jc_i_0 ?_
  refine jw_istore_n (i := 3) d_R_isAmongFirst_1 rfl (Nat.le_of_ble_eq_true rfl) ?_
  exact h
set_option maxRecDepth 100000 in
set_option maxHeartbeats 4000000 in
theorem k_R_isAmongFirst_2 {l : Launch} {X : jw_X0} {G : jw_G} {A : Nat → Prop} {x1 x2 x3 : Int32} {M : jw_Mem} (h : ((x1 ≤ x3 → jw_R l X (jw_g G) A f_R_isAmongFirst 0 M) ∧ (¬ x1 ≤ x3 → (∃ j1 : Nat, (j1 < 5 ∧ x3 = nI j1) ∧ ((¬ (M 3 j1) = x2 → jw_X l X (jw_g G) A f_R_isAmongFirst 2 [some (jw_a G 1), some (.int x1), some (.int x2), some (.int (x3 + 1))] [] M) ∧ ((M 3 j1) = x2 → jw_R l X (jw_g G) A f_R_isAmongFirst 1 M)))))) : jw_X l X (jw_g G) A f_R_isAmongFirst 2 [some (jw_a G 1), some (.int x1), some (.int x2), some (.int x3)] [] M := by
  refine jw_iload_n (i := 3) d_R_isAmongFirst_2 rfl rfl ?_
  refine jw_iload_n (i := 1) d_R_isAmongFirst_3 rfl rfl ?_
  refine jw_icmp_ge (tgt := 25) d_R_isAmongFirst_4 (by decide) (fun hc => ?_) (fun hc => ?_)
  · have h := h.1 hc
    refine jw_iconst (v := 0) d_R_isAmongFirst_25 jc_i_0 ?_
    exact jw_ireturn d_R_isAmongFirst_26 rfl h
  · have h := h.2 hc
    refine jw_aload_n (i := 0) d_R_isAmongFirst_7 rfl rfl ?_
    refine jw_get (j := 2) (v := jw_a G 3) d_R_isAmongFirst_8 jw_k1 jw_c_R jw_oc_R (Nat.le_of_ble_eq_true rfl) jw_fl_R_25 rfl rfl ?_
    refine jw_iload_n (i := 3) d_R_isAmongFirst_11 rfl rfl ?_
    obtain ⟨j1, hj1, h⟩ := h
    refine jw_iald2 d_R_isAmongFirst_12 jw_k3 (Nat.le_of_ble_eq_true rfl) hj1 ?_
    refine jw_iload_n (i := 2) d_R_isAmongFirst_13 rfl rfl ?_
    refine jw_icmp_ne (tgt := 19) d_R_isAmongFirst_14 (by decide) (fun hc => ?_) (fun hc => ?_)
    · have h := h.1 hc
      refine jw_iinc (d := 1) d_R_isAmongFirst_19 rfl jc_i_1 (Nat.le_of_ble_eq_true rfl) ?_
      refine jw_goto (tgt := 2) d_R_isAmongFirst_22 (by decide) ?_
      exact h
    · have h := h.2 hc
      refine jw_iconst (v := 1) d_R_isAmongFirst_17 jc_i_1 ?_
      exact jw_ireturn d_R_isAmongFirst_18 rfl h
set_option maxRecDepth 100000 in
theorem e_R_isAmongFirst {l : Launch} {G : jw_G} {A : Nat → Prop} {x1 : Int32} {x2 : Int32} {M : jw_Mem} {Q : Int32 → jw_Mem → Prop} (h : ∀ X : jw_X0, (∀ r M', Q r M' → (r = 0 ∨ r = 1) → jw_R l X (jw_g G) A f_R_isAmongFirst r M') → jw_X l X (jw_g G) A f_R_isAmongFirst 2 [some (jw_a G 1), some (.int x1), some (.int x2), some (.int 0)] [] M) : jw_M l (jw_g G) A f_R_isAmongFirst [jw_a G 1, .int x1, .int x2] M Q := by
  refine jw_M_of (by decide) (Nat.le_of_ble_eq_true rfl) (by intro v hv; simp at hv; rcases hv with rfl | rfl | rfl <;> rfl) (fun X hR => ?_)
  exact k_R_isAmongFirst_0  (h X (fun r M' q hb => hR r M' q (fun ty h0 => by cases h0; exact jw_nb hb)))
