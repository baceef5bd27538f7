/-! Context: isEmpty, rise, learn -/
theorem c_C_isEmpty {l : Launch} {G : jw_G} {A : Nat → Prop} {M : jw_Mem} {Q : Int32 → jw_Mem → Prop} {a : Nat} (ha : a < 4) (hQ : Q (bI (M (26 + 2 * a) 1 == -1)) M) : jw_M l (jw_g G) A f_C_isEmpty [jw_a G (26 + 2 * a)] M Q := by
  refine e_C_isEmpty ha (fun X hR => ⟨fun h => ?_, fun h => ?_⟩)
  · refine hR _ _ ?_ (Or.inl rfl)
    simpa [h, bI] using hQ
  · refine hR _ _ ?_ (Or.inr rfl)
    simpa [h, bI] using hQ
def vs_mx (x y : Int32) : Int32 := if x < y then y else x
theorem c_C_rise {l : Launch} {G : jw_G} {A : Nat → Prop} {M : jw_Mem} {Q : Int32 → jw_Mem → Prop} {a v : Nat} (ha : a < 4) (hv : v < 40)
    (hQ : ∀ M' : jw_Mem, (∀ k, k ≠ 27 + 2 * a → M' k = M k) → (∀ n, n < 5 → M' (27 + 2 * a) n = vs_mx (M (27 + 2 * a) n) (M 8 (5 * v + n))) → Q 0 M') : jw_M l (jw_g G) A f_C_rise [jw_a G (26 + 2 * a), .int (nI v), jw_a G 4] M Q := by
  refine e_C_rise ha (fun X hR => ?_)
  have key : ∀ i, i ≤ 5 → ∀ M' : jw_Mem, (∀ k, k ≠ 27 + 2 * a → M' k = M k) → (∀ n, n < 5 → M' (27 + 2 * a) n = if n < i then vs_mx (M (27 + 2 * a) n) (M 8 (5 * v + n)) else M (27 + 2 * a) n) → jw_X l X (jw_g G) A f_C_rise 2 [some (jw_a G (26 + 2 * a)), some (.int (nI v)), some (jw_a G 4), some (.int (nI i))] [] M' := by
    refine vs_up ?_ ?_
    · intro M' ho hr
      exact k_C_rise_2 ha ⟨fun _ => hR _ (hQ M' ho (fun n hn => by rw [hr n hn, if_pos hn])), fun hc => absurd (nI_le (a := 5) (Nat.le_refl _) (by omega)) hc⟩
    · intro i hi ih M' ho hr
      have e8 : M' 8 = M 8 := ho 8 (by omega)
      refine k_C_rise_2 ha ⟨fun hc => absurd hc (nI_ge (b := 5) hi (by omega)), fun _ => ⟨i, ⟨hi, rfl⟩, c_G_clockCount hv hi ⟨i, ⟨hi, rfl⟩, ?_⟩⟩⟩
      rw [nI_1]
      refine ih _ (fun k hk => (jw_Une hk).trans (ho k hk)) (fun n hn => ?_)
      rw [jw_Uat]
      by_cases e : n = i
      · subst e
        rw [if_pos rfl, if_pos (Nat.lt_succ_self n), hr n hn, if_neg (Nat.lt_irrefl n), e8]
        rfl
      · rw [if_neg e, hr n hn]
        by_cases c : n < i
        · rw [if_pos c, if_pos (by omega)]
        · rw [if_neg c, if_neg (by omega)]
  exact key 0 (Nat.zero_le _) M (fun _ _ => rfl) (fun n hn => by rw [if_neg (Nat.not_lt_zero n)])
/-- the largest counts of the versions in a row -/
def vs_mxr (cl : Nat → Int32) (row : Nat → Bool) : Nat → Nat → Int32
  | 0, _ => 0
  | i + 1, n => if row i then vs_mx (vs_mxr cl row i n) (cl (5 * i + n)) else vs_mxr cl row i n
theorem c_C_learn {l : Launch} {G : jw_G} {A : Nat → Prop} {M : jw_Mem} {Q : Int32 → jw_Mem → Prop} {a q md : Nat} {x : Int32} {row : Nat → Bool} (ha : a < 4) (hq : jw_KT[q]? = some (2, 40, [])) (hm : M 4 4 = nI md) (hmd : md ≤ 40) (hr : ∀ u, u < md → M q u = bI (row u))
    (hfill : ∀ (M : jw_Mem) (T : Int32 → jw_Mem → Prop), (∀ M' : jw_Mem, (∀ k, k ≠ 27 + 2 * a → M' k = M k) → (∀ n, n < 5 → M' (27 + 2 * a) n = 0) → T 0 M') → jw_M l (jw_g G) A f_J_fill [jw_a G (27 + 2 * a), .int 0] M T)
    (hQ : ∀ M' : jw_Mem, (∀ k, k ≠ 26 + 2 * a → k ≠ 27 + 2 * a → M' k = M k) → M' (26 + 2 * a) 1 = x → (∀ n, n < 5 → M' (27 + 2 * a) n = vs_mxr (M 8) row md n) → Q 0 M') : jw_M l (jw_g G) A f_C_learn [jw_a G (26 + 2 * a), .int x, jw_a G q, jw_a G 4] M Q := by
  have q1 : q ≠ 26 + 2 * a := fun e => by rw [e, jw_kC ha] at hq; cases hq
  have q2 : q ≠ 27 + 2 * a := fun e => by rw [e, jw_kK ha] at hq; cases hq
  refine e_C_learn ha hq (fun X hR => hfill _ _ (fun M1 ho1 hz1 => ?_))
  have key : ∀ i, i ≤ md → ∀ M' : jw_Mem, (∀ k, k ≠ 26 + 2 * a → k ≠ 27 + 2 * a → M' k = M k) → M' (26 + 2 * a) 1 = x → (∀ n, n < 5 → M' (27 + 2 * a) n = vs_mxr (M 8) row i n) → jw_X l X (jw_g G) A f_C_learn 16 [some (jw_a G (26 + 2 * a)), some (.int x), some (jw_a G q), some (jw_a G 4), some (.int (nI i))] [] M' := by
    refine vs_up ?_ ?_
    · intro M' ho hx hc
      refine k_C_learn_16 ha hq ⟨fun _ => hR _ (hQ M' ho hx hc), fun hc => absurd ?_ hc⟩
      rw [ho 4 (by omega) (by omega), hm]
      exact nI_le (Nat.le_refl _) (by omega)
    · intro i hi ih M' ho hx hc
      have e8 : M' 8 = M 8 := ho 8 (by omega) (by omega)
      refine k_C_learn_16 ha hq ⟨fun hc => absurd hc ?_, fun _ => ⟨i, ⟨by omega, rfl⟩, fun h1 => ?_, fun h1 => ?_⟩⟩
      · rw [ho 4 (by omega) (by omega), hm]
        exact nI_ge hi (by omega)
      · rw [ho q q1 q2, hr i hi] at h1
        have h2 := bI_0.mp h1
        rw [nI_1]
        refine ih M' ho hx (fun n hn => ?_)
        rw [hc n hn]
        simp [vs_mxr, h2]
      · rw [ho q q1 q2, hr i hi] at h1
        have h2 := bI_n0.mp h1
        refine c_C_rise ha (by omega) (fun M2 ho2 hc2 => ?_)
        rw [nI_1]
        refine ih M2 (fun k k1 k2 => (ho2 k k2).trans (ho k k1 k2)) (by rw [ho2 _ (by omega)]; exact hx) (fun n hn => ?_)
        rw [hc2 n hn, hc n hn, e8]
        simp [vs_mxr, h2]
  refine key 0 (Nat.zero_le _) M1 (fun k k1 k2 => (ho1 k k2).trans (jw_Une k1)) ?_ (fun n hn => hz1 n hn)
  rw [ho1 _ (by omega), jw_Uat, if_pos rfl]
