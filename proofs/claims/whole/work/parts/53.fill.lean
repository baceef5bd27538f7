/-! Arrays.fill, over any world -/
set_option maxRecDepth 100000 in
set_option maxHeartbeats 4000000 in
theorem k_J_fill_5 {l : Launch} {X : jw_X0} {E : jw_E} {A : Nat → Prop} {M : jw_Mem} {k n i : Nat} {rs : List (Option Nat)} {x : Int32} (hk : E.2.2.2.1[k]? = some (1, n, rs)) (hn : n < 2147483648) (h : (nI n ≤ nI i → jw_R l X E A f_J_fill 0 M) ∧ (¬ nI n ≤ nI i → (i < n) ∧ jw_X l X E A f_J_fill 5 [some (.ref (E.2.2.1 k)), some (.int x), some (.int (nI i + 1)), some (.int (nI n))] [] (jw_U M k i x))) : jw_X l X E A f_J_fill 5 [some (.ref (E.2.2.1 k)), some (.int x), some (.int (nI i)), some (.int (nI n))] [] M := by
  refine jw_iload_n (i := 2) d_J_fill_5 rfl rfl ?_
  refine jw_iload_n (i := 3) d_J_fill_6 rfl rfl ?_
  refine jw_icmp_ge (tgt := 20) d_J_fill_7 rfl (fun c => ?_) (fun c => ?_)
  · exact jw_return d_J_fill_20 rfl (h.1 c)
  · obtain ⟨hi, h⟩ := h.2 c
    refine jw_aload_n (i := 0) d_J_fill_10 rfl rfl ?_
    refine jw_iload_n (i := 2) d_J_fill_11 rfl rfl ?_
    refine jw_iload_n (i := 1) d_J_fill_12 rfl rfl ?_
    refine jw_iast2 (j := i) d_J_fill_13 hk hn ⟨hi, rfl⟩ ?_
    refine jw_iinc (i := 2) (d := 1) d_J_fill_14 rfl rfl (Nat.le_of_ble_eq_true rfl) ?_
    refine jw_goto (tgt := 5) d_J_fill_17 rfl ?_
    exact h
set_option maxRecDepth 100000 in
set_option maxHeartbeats 4000000 in
theorem c_J_fill {l : Launch} {E : jw_E} {A : Nat → Prop} {M : jw_Mem} {Q : Int32 → jw_Mem → Prop} {k n : Nat} {rs : List (Option Nat)} {x : Int32} (hk : E.2.2.2.1[k]? = some (1, n, rs)) (hn : n < 2147483648) (hQ : ∀ M' : jw_Mem, (∀ q, q ≠ k → M' q = M q) → (∀ j, j < n → M' k j = x) → Q 0 M') : jw_M l E A f_J_fill [.ref (E.2.2.1 k), .int x] M Q := by
  refine jw_M_of (by decide) (Nat.le_of_ble_eq_true rfl) (by intro v hv; simp at hv; rcases hv with rfl | rfl <;> rfl) (fun X hR => ?_)
  refine jw_iconst (v := 0) d_J_fill_0 jc_i_0 ?_
  refine jw_istore_n (i := 2) d_J_fill_1 rfl (Nat.le_of_ble_eq_true rfl) ?_
  refine jw_aload_n (i := 0) d_J_fill_2 rfl rfl ?_
  refine jw_alen1 d_J_fill_3 hk ?_
  refine jw_istore_n (i := 3) d_J_fill_4 rfl (Nat.le_of_ble_eq_true rfl) ?_
  have loop : ∀ i, i ≤ n → ∀ M' : jw_Mem, (∀ q, q ≠ k → M' q = M q) → (∀ j, j < i → M' k j = x) → jw_X l X E A f_J_fill 5 [some (.ref (E.2.2.1 k)), some (.int x), some (.int (nI i)), some (.int (nI n))] [] M' := by
    refine vs_up ?_ ?_
    · intro M' ho hr
      exact k_J_fill_5 hk hn ⟨fun _ => hR 0 M' (hQ M' ho hr) (fun ty h0 => nomatch h0), fun hc => absurd (nI_le (Nat.le_refl _) (by omega)) hc⟩
    · intro i hi ih M' ho hr
      refine k_J_fill_5 hk hn ⟨fun hc => absurd hc (nI_ge hi (by omega)), fun _ => ⟨hi, ?_⟩⟩
      rw [nI_1]
      refine ih _ (fun q hq => (jw_Une hq).trans (ho q hq)) (fun j hj => ?_)
      rw [jw_Uat]
      by_cases e : j = i
      · rw [if_pos e]
      · rw [if_neg e]
        exact hr j (by omega)
  exact loop 0 (Nat.zero_le _) M (fun _ _ => rfl) (fun j hj => absurd hj (Nat.not_lt_zero j))
theorem c_K_fill {l : Launch} {G : jw_G} {A : Nat → Prop} {c : Nat} (hc : c < 4) : ∀ (M : jw_Mem) (T : Int32 → jw_Mem → Prop), (∀ M' : jw_Mem, (∀ k, k ≠ 27 + 2 * c → M' k = M k) → (∀ n, n < 5 → M' (27 + 2 * c) n = 0) → T 0 M') → jw_M l (jw_g G) A f_J_fill [jw_a G (27 + 2 * c), .int 0] M T := fun M T h => c_J_fill (E := jw_g G) (jw_kK hc) (by decide) h
