/-! Log: isMade, clockCount, numberWritten, isAtOrBelow -/
theorem nI_lin (v n : Nat) : nI v * 5 + nI n = nI (5 * v + n) := by
  rw [show (5 : Int32) = nI 5 from rfl, pk_mul, nI_add, Nat.mul_comm]
theorem nI_lin5 (v n : Nat) : 5 * nI v + nI n = nI (5 * v + n) := by
  rw [show (5 : Int32) = nI 5 from rfl, pk_mul, nI_add]
theorem nI_lin40 (v n : Nat) : 40 * nI v + nI n = nI (40 * v + n) := by
  rw [show (40 : Int32) = nI 40 from rfl, pk_mul, nI_add]
def blw (cl : Nat → Int32) (u v : Nat) : Bool := (List.range 5).all (fun n => decide (cl (5 * u + n) ≤ cl (5 * v + n)))
theorem c_G_clockCount {l : Launch} {G : jw_G} {A : Nat → Prop} {M : jw_Mem} {Q : Int32 → jw_Mem → Prop} {v n : Nat} (hv : v < 40) (hn : n < 5) (hQ : Q (M 8 (5 * v + n)) M) : jw_M l (jw_g G) A f_G_clockCount [jw_a G 4, .int (nI v), .int (nI n)] M Q :=
  e_G_clockCount (fun X hR => ⟨5 * v + n, ⟨by omega, nI_lin v n⟩, hR _ _ hQ⟩)
theorem c_G_isAtOrBelow {l : Launch} {G : jw_G} {A : Nat → Prop} {M : jw_Mem} {Q : Int32 → jw_Mem → Prop} {u v : Nat} (hu : u < 40) (hv : v < 40) (hQ : Q (bI (blw (M 8) u v)) M) : jw_M l (jw_g G) A f_G_isAtOrBelow [jw_a G 4, .int (nI u), .int (nI v)] M Q := by
  refine e_G_isAtOrBelow (fun X hR => ?_)
  have key : ∀ i, i ≤ 5 → (∀ n, n < i → M 8 (5 * u + n) ≤ M 8 (5 * v + n)) → jw_X l X (jw_g G) A f_G_isAtOrBelow 2 [some (jw_a G 4), some (.int (nI u)), some (.int (nI v)), some (.int (nI i))] [] M := by
    refine vs_up ?_ ?_
    · intro h
      have e : blw (M 8) u v = true := vs_all_t (fun n hn => by simpa using h n hn)
      rw [e] at hQ
      exact k_G_isAtOrBelow_2 ⟨fun _ => hR _ _ hQ (Or.inr rfl), fun hc => absurd (nI_le (a := 5) (Nat.le_refl _) (by omega)) hc⟩
    · intro i hi ih h
      refine k_G_isAtOrBelow_2 ⟨fun hc => absurd hc (nI_ge (b := 5) hi (by omega)), fun _ => c_G_clockCount hu hi (c_G_clockCount hv hi ⟨fun hle => ?_, fun hgt => ?_⟩)⟩
      · rw [nI_1]
        exact ih (lt_s h hle)
      · have e : blw (M 8) u v = false := vs_all_f hi (by simpa using hgt)
        rw [e] at hQ
        exact hR _ _ hQ (Or.inl rfl)
  exact key 0 (Nat.zero_le _) lt_0
theorem c_G_isMade {l : Launch} {G : jw_G} {A : Nat → Prop} {M : jw_Mem} {Q : Int32 → jw_Mem → Prop} {x : Int32} {md : Nat} (hm : M 4 4 = nI md) (hQ : Q (bI (decide (0 ≤ x ∧ x < nI md))) M) : jw_M l (jw_g G) A f_G_isMade [jw_a G 4, .int x] M Q := by
  refine e_G_isMade (fun X hR => ⟨fun h => ?_, fun h => ⟨fun h2 => ?_, fun h2 => ?_⟩⟩)
  · refine hR _ _ ?_ (Or.inl rfl)
    rw [show decide (0 ≤ x ∧ x < nI md) = false from decide_eq_false (fun z => absurd z.1 (Int32.not_le.mpr h))] at hQ
    exact hQ
  · rw [hm] at h2
    refine hR _ _ ?_ (Or.inl rfl)
    rw [show decide (0 ≤ x ∧ x < nI md) = false from decide_eq_false (fun z => absurd z.2 (Int32.not_lt.mpr h2))] at hQ
    exact hQ
  · rw [hm] at h2
    refine hR _ _ ?_ (Or.inr rfl)
    rw [show decide (0 ≤ x ∧ x < nI md) = true from decide_eq_true ⟨Int32.not_lt.mp h, Int32.not_le.mp h2⟩] at hQ
    exact hQ
theorem c_G_numberWritten {l : Launch} {G : jw_G} {A : Nat → Prop} {M : jw_Mem} {Q : Int32 → jw_Mem → Prop} {x1 x2 : Int32} {md : Nat} (hm : M 4 4 = nI md) (hmd : md ≤ 40) (hQ : Q (nI (vs_cnt (fun u => M 7 u == x1 && M 5 u == x2) md)) M) : jw_M l (jw_g G) A f_G_numberWritten [jw_a G 4, .int x1, .int x2] M Q := by
  refine e_G_numberWritten (fun X hR => ?_)
  have key : ∀ i, i ≤ md → jw_X l X (jw_g G) A f_G_numberWritten 5 [some (jw_a G 4), some (.int x1), some (.int x2), some (.int (nI (vs_cnt (fun u => M 7 u == x1 && M 5 u == x2) i))), some (.int (nI i))] [] M := by
    refine vs_up ?_ ?_
    · refine k_G_numberWritten_5 ⟨fun _ => hR _ _ hQ, fun hc => absurd ?_ hc⟩
      rw [hm]
      exact nI_le (Nat.le_refl _) (by omega)
    · intro i hi ih
      refine k_G_numberWritten_5 ⟨fun hc => absurd hc ?_, fun _ => ⟨i, ⟨by omega, rfl⟩, fun h1 => ?_, fun h1 => ⟨i, ⟨by omega, rfl⟩, fun h2 => ?_, fun h2 => ?_⟩⟩⟩
      · rw [hm]
        exact nI_ge hi (by omega)
      · rw [nI_1]
        have e : vs_cnt (fun u => M 7 u == x1 && M 5 u == x2) (i + 1) = vs_cnt (fun u => M 7 u == x1 && M 5 u == x2) i := by simp [vs_cnt, h1]
        rw [e] at ih
        exact ih
      · rw [nI_1]
        have e : vs_cnt (fun u => M 7 u == x1 && M 5 u == x2) (i + 1) = vs_cnt (fun u => M 7 u == x1 && M 5 u == x2) i := by simp [vs_cnt, h2]
        rw [e] at ih
        exact ih
      · rw [nI_1, nI_1]
        have e : vs_cnt (fun u => M 7 u == x1 && M 5 u == x2) (i + 1) = vs_cnt (fun u => M 7 u == x1 && M 5 u == x2) i + 1 := by simp [vs_cnt, h1, h2]
        rw [e] at ih
        exact ih
  exact key 0 (Nat.zero_le _)
