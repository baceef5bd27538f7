/-! token, remove, power, cut: both sides -/
def sp_token (σ : vs_S) (a p : Nat) : vs_S := if (s_ow σ p).isNone then w_ow σ (va_up (s_ow σ) p (some a)) else σ
theorem oI_m1 {x : Option Nat} (h : ∀ o, x = some o → o < 5) : oI x = -1 ↔ x.isNone = true := by
  cases x with
  | none => simp [oI]
  | some o => simp [oI]; exact nI_m1 (by have := h o rfl; omega)
theorem oM_0 {x : Option Nat} (h : ∀ o, x = some o → o < 5) : oM x = 0 ↔ x.isNone = true := by
  cases x with
  | none => simp [oM]
  | some o => simp [oM]; exact nI_ne0 (by omega) (by have := h o rfl; omega)
theorem c_V_token_f {l : Launch} {G : jw_G} {A : Nat → Prop} {M : jw_Mem} {Q : Int32 → jw_Mem → Prop} {x1 x2 : Int32} (h : vs_out x1 5 ∨ vs_out x2 16) (hQ : Q 0 M) : jw_M l (jw_g G) A f_V_token [jw_a G 0, .int x1, .int x2] M Q := by
  refine e_V_token (fun X hR => ?_)
  rcases vs_io x1 (n := 5) (by decide) with h1 | ⟨a, ha, rfl⟩
  · exact c_V_isNode_f h1 ⟨fun _ => hR _ _ hQ (Or.inl rfl), fun hc => absurd rfl hc⟩
  · refine c_V_isNode_t ha ⟨fun _ => hR _ _ hQ (Or.inl rfl), fun _ => ?_⟩
    rcases vs_io x2 (n := 16) (by decide) with h2 | ⟨p, hp, rfl⟩
    · exact c_V_isPosition_f h2 ⟨fun _ => hR _ _ hQ (Or.inl rfl), fun hc => absurd rfl hc⟩
    · exact absurd h (fun z => z.elim (vs_out_n ha) (vs_out_n hp))
theorem c_V_token {l : Launch} {G : jw_G} {A : Nat → Prop} {M : jw_Mem} {Q : Int32 → jw_Mem → Prop} {σ : vs_S} {a p : Nat} (hok : vs_ok σ) (hC : vs_C σ M) (ha : a < 5) (hp : p < 16) (hQ : ∀ M' : jw_Mem, vs_C (sp_token σ a p) M' → (∀ k, 41 ≤ k → M' k = M k) → Q (bI (s_ow σ p).isNone) M') : jw_M l (jw_g G) A f_V_token [jw_a G 0, .int (nI a), .int (nI p)] M Q := by
  refine e_V_token (fun X hR => c_V_isNode_t ha ⟨fun hc => absurd hc (by decide), fun _ => c_V_isPosition_t hp ⟨fun hc => absurd hc (by decide), fun _ => ⟨p, ⟨hp, rfl⟩, fun h => ⟨p, ⟨hp, rfl⟩, ?_⟩, fun h => ?_⟩⟩⟩)
  · rw [hC.2.1 p hp, oI_m1 (hok.2.2.2.1 p)] at h
    have := hQ (jw_U M 2 p (nI a)) ?_ (fun k hk => jw_Une (by omega))
    · rw [h] at this
      exact hR _ _ this (Or.inr rfl)
    · unfold sp_token
      rw [if_pos h]
      refine vs_C_ow hC (fun k hk => jw_Une hk) (fun q hq => ?_)
      rw [jw_Uat]
      by_cases e : q = p
      · simp [va_up, e, oI]
      · simp [va_up, e, hC.2.1 q hq]
  · rw [hC.2.1 p hp, oI_m1 (hok.2.2.2.1 p)] at h
    have h' : (s_ow σ p).isNone = false := Bool.eq_false_iff.mpr h
    have := hQ M (by unfold sp_token; rw [if_neg h]; exact hC) (fun _ _ => rfl)
    rw [h'] at this
    exact hR _ _ this (Or.inl rfl)
theorem vs_gt16 {x : Int32} (h : nI 16 ≤ x) : 15 < x := by
  rw [Int32.lt_iff_toInt_lt]
  have h1 := Int32.le_iff_toInt_le.mp h
  rw [nI_toInt (by decide)] at h1
  have h2 : (15 : Int32).toInt = 15 := by decide
  omega
theorem c_M_token_f {l : Launch} {G : jw_G} {A : Nat → Prop} {M : jw_Mem} {Q : Int32 → jw_Mem → Prop} {x1 x2 : Int32} (h : vs_out x1 5 ∨ vs_out x2 16) (hQ : Q 0 M) : jw_M l (jw_g G) A f_M_token [jw_a G 41, .int x1, .int x2] M Q := by
  refine e_M_token (fun X hR => ?_)
  rcases vs_io x1 (n := 5) (by decide) with h1 | ⟨a, ha, rfl⟩
  · exact c_M_isNode_f h1 ⟨fun _ => hR _ _ hQ (Or.inl rfl), fun hc => absurd rfl hc⟩
  · refine c_M_isNode_t ha ⟨fun _ => hR _ _ hQ (Or.inl rfl), fun _ => ⟨fun _ => hR _ _ hQ (Or.inl rfl), fun h0 => ⟨fun _ => hR _ _ hQ (Or.inl rfl), fun h1 => ?_⟩⟩⟩
    rcases h with h | h | h
    · exact absurd h (vs_out_n ha)
    · exact absurd h h0
    · exact absurd (vs_gt16 h) h1
theorem c_M_token {l : Launch} {G : jw_G} {A : Nat → Prop} {M : jw_Mem} {Q : Int32 → jw_Mem → Prop} {σ : vs_S} {a p : Nat} (hok : vs_ok σ) (hC : vs_M σ M) (ha : a < 5) (hp : p < 16) (hQ : ∀ M' : jw_Mem, vs_M (sp_token σ a p) M' → (∀ k, k < 41 → M' k = M k) → Q (bI (s_ow σ p).isNone) M') : jw_M l (jw_g G) A f_M_token [jw_a G 41, .int (nI a), .int (nI p)] M Q := by
  refine e_M_token (fun X hR => c_M_isNode_t ha ⟨fun hc => absurd hc (by decide), fun _ => ⟨fun hc => absurd hc (nI_pos (by omega)), fun _ => ⟨fun hc => absurd hc (nI_nlt (a := 15) (by omega) (by omega)), fun _ => ⟨p, ⟨hp, rfl⟩, fun h => ⟨p, ⟨hp, rfl⟩, ?_⟩, fun h => ?_⟩⟩⟩⟩)
  · rw [hC.2.1 p hp, oM_0 (hok.2.2.2.1 p)] at h
    have := hQ (jw_U M 44 p (nI a + 1)) ?_ (fun k hk => jw_Une (by omega))
    · rw [h] at this
      exact hR _ _ this (Or.inr rfl)
    · unfold sp_token
      rw [if_pos h]
      refine vs_M_ow hC (fun k hk => jw_Une hk) (fun q hq => ?_)
      rw [jw_Uat]
      by_cases e : q = p
      · simp [va_up, e, oM, nI_1]
      · simp [va_up, e, hC.2.1 q hq]
  · rw [hC.2.1 p hp, oM_0 (hok.2.2.2.1 p)] at h
    have h' : (s_ow σ p).isNone = false := Bool.eq_false_iff.mpr h
    have := hQ M (by unfold sp_token; rw [if_neg h]; exact hC) (fun _ _ => rfl)
    rw [h'] at this
    exact hR _ _ this (Or.inl rfl)
def sp_remove (σ : vs_S) (p : Nat) : vs_S := if (s_ow σ p).isNone then σ else w_ow σ (va_up (s_ow σ) p none)
theorem c_V_remove_f {l : Launch} {G : jw_G} {A : Nat → Prop} {M : jw_Mem} {Q : Int32 → jw_Mem → Prop} {x1 : Int32} (h : vs_out x1 16) (hQ : Q 0 M) : jw_M l (jw_g G) A f_V_remove [jw_a G 0, .int x1] M Q :=
  e_V_remove (fun X hR => c_V_isPosition_f h ⟨fun _ => hR _ _ hQ (Or.inl rfl), fun hc => absurd rfl hc⟩)
theorem c_V_remove {l : Launch} {G : jw_G} {A : Nat → Prop} {M : jw_Mem} {Q : Int32 → jw_Mem → Prop} {σ : vs_S} {p : Nat} (hok : vs_ok σ) (hC : vs_C σ M) (hp : p < 16) (hQ : ∀ M' : jw_Mem, vs_C (sp_remove σ p) M' → (∀ k, 41 ≤ k → M' k = M k) → Q (bI (!(s_ow σ p).isNone)) M') : jw_M l (jw_g G) A f_V_remove [jw_a G 0, .int (nI p)] M Q := by
  refine e_V_remove (fun X hR => c_V_isPosition_t hp ⟨fun hc => absurd hc (by decide), fun _ => ⟨p, ⟨hp, rfl⟩, fun h => ⟨p, ⟨hp, rfl⟩, ?_⟩, fun h => ?_⟩⟩)
  · rw [hC.2.1 p hp, oI_m1 (hok.2.2.2.1 p)] at h
    have h' : (s_ow σ p).isNone = false := Bool.eq_false_iff.mpr h
    have := hQ (jw_U M 2 p (-1)) ?_ (fun k hk => jw_Une (by omega))
    · rw [h'] at this
      exact hR _ _ this (Or.inr rfl)
    · unfold sp_remove
      rw [if_neg h]
      refine vs_C_ow hC (fun k hk => jw_Une hk) (fun q hq => ?_)
      rw [jw_Uat]
      by_cases e : q = p
      · simp [va_up, e, oI]
      · simp [va_up, e, hC.2.1 q hq]
  · rw [hC.2.1 p hp, oI_m1 (hok.2.2.2.1 p)] at h
    have := hQ M (by unfold sp_remove; rw [if_pos h]; exact hC) (fun _ _ => rfl)
    rw [h] at this
    exact hR _ _ this (Or.inl rfl)
theorem c_M_remove_f {l : Launch} {G : jw_G} {A : Nat → Prop} {M : jw_Mem} {Q : Int32 → jw_Mem → Prop} {x1 : Int32} (h : vs_out x1 16) (hQ : Q 0 M) : jw_M l (jw_g G) A f_M_remove [jw_a G 41, .int x1] M Q :=
  e_M_remove (fun X hR => ⟨fun _ => hR _ _ hQ (Or.inl rfl), fun h0 => ⟨fun _ => hR _ _ hQ (Or.inl rfl), fun h1 => h.elim (fun z => absurd z h0) (fun z => absurd (vs_gt16 z) h1)⟩⟩)
theorem c_M_remove {l : Launch} {G : jw_G} {A : Nat → Prop} {M : jw_Mem} {Q : Int32 → jw_Mem → Prop} {σ : vs_S} {p : Nat} (hok : vs_ok σ) (hC : vs_M σ M) (hp : p < 16) (hQ : ∀ M' : jw_Mem, vs_M (sp_remove σ p) M' → (∀ k, k < 41 → M' k = M k) → Q (bI (!(s_ow σ p).isNone)) M') : jw_M l (jw_g G) A f_M_remove [jw_a G 41, .int (nI p)] M Q := by
  refine e_M_remove (fun X hR => ⟨fun hc => absurd hc (nI_pos (by omega)), fun _ => ⟨fun hc => absurd hc (nI_nlt (a := 15) (by omega) (by omega)), fun _ => ⟨p, ⟨hp, rfl⟩, fun h => ⟨p, ⟨hp, rfl⟩, ?_⟩, fun h => ?_⟩⟩⟩)
  · rw [hC.2.1 p hp, oM_0 (hok.2.2.2.1 p)] at h
    have h' : (s_ow σ p).isNone = false := Bool.eq_false_iff.mpr h
    have := hQ (jw_U M 44 p 0) ?_ (fun k hk => jw_Une (by omega))
    · rw [h'] at this
      exact hR _ _ this (Or.inr rfl)
    · unfold sp_remove
      rw [if_neg h]
      refine vs_M_ow hC (fun k hk => jw_Une hk) (fun q hq => ?_)
      rw [jw_Uat]
      by_cases e : q = p
      · simp [va_up, e, oM]
      · simp [va_up, e, hC.2.1 q hq]
  · rw [hC.2.1 p hp, oM_0 (hok.2.2.2.1 p)] at h
    have := hQ M (by unfold sp_remove; rw [if_pos h]; exact hC) (fun _ _ => rfl)
    rw [h] at this
    exact hR _ _ this (Or.inl rfl)
def sp_power (σ : vs_S) (a : Nat) (b : Bool) : vs_S := w_up σ (va_up (s_up σ) a b)
theorem c_V_power_f {l : Launch} {G : jw_G} {A : Nat → Prop} {M : jw_Mem} {Q : Int32 → jw_Mem → Prop} {x1 x2 : Int32} (h : vs_out x1 5) (hQ : Q 0 M) : jw_M l (jw_g G) A f_V_power [jw_a G 0, .int x1, .int x2] M Q :=
  e_V_power (fun X hR => c_V_isNode_f h ⟨fun _ => hR _ _ hQ (Or.inl rfl), fun hc => absurd rfl hc⟩)
theorem c_V_power {l : Launch} {G : jw_G} {A : Nat → Prop} {M : jw_Mem} {Q : Int32 → jw_Mem → Prop} {σ : vs_S} {a : Nat} {b : Bool} (hC : vs_C σ M) (ha : a < 5) (hQ : ∀ M' : jw_Mem, vs_C (sp_power σ a b) M' → (∀ k, 41 ≤ k → M' k = M k) → Q (bI (!(s_up σ a == b))) M') : jw_M l (jw_g G) A f_V_power [jw_a G 0, .int (nI a), .int (bI b)] M Q := by
  refine e_V_power (fun X hR => c_V_isNode_t ha ⟨fun hc => absurd hc (by decide), fun _ => ⟨a, ⟨ha, rfl⟩, fun h => ⟨a, ⟨ha, rfl⟩, bI_01 b, ?_⟩, fun h => ?_⟩⟩)
  · rw [hC.2.2.1 a ha, bI_inj] at h
    have := hQ (jw_U M (10 + 3 * a) 3 (bI b)) ?_ (fun k hk => jw_Une (by omega))
    · rw [show (s_up σ a == b) = false by simpa using h] at this
      exact hR _ _ this (Or.inr rfl)
    · refine vs_C_up hC (fun k hk => jw_Une (hk a ha)) (fun q hq => ?_)
      by_cases e : q = a
      · subst e
        simp [jw_Uat, va_up]
      · rw [jw_Une (by omega), hC.2.2.1 q hq]
        simp [va_up, e]
  · rw [hC.2.2.1 a ha, bI_inj] at h
    have := hQ M ?_ (fun _ _ => rfl)
    · rw [show (s_up σ a == b) = true by simpa using h] at this
      exact hR _ _ this (Or.inl rfl)
    · refine vs_C_up hC (fun _ _ => rfl) (fun q hq => ?_)
      rw [hC.2.2.1 q hq]
      by_cases e : q = a
      · subst e
        simp [va_up, h]
      · simp [va_up, e]
theorem c_M_power_f {l : Launch} {G : jw_G} {A : Nat → Prop} {M : jw_Mem} {Q : Int32 → jw_Mem → Prop} {x1 x2 : Int32} (h : vs_out x1 5) (hQ : Q 0 M) : jw_M l (jw_g G) A f_M_power [jw_a G 41, .int x1, .int x2] M Q :=
  e_M_power (fun X hR => c_M_isNode_f h ⟨fun _ => hR _ _ hQ (Or.inl rfl), fun hc => absurd rfl hc⟩)
theorem c_M_power {l : Launch} {G : jw_G} {A : Nat → Prop} {M : jw_Mem} {Q : Int32 → jw_Mem → Prop} {σ : vs_S} {a : Nat} {b : Bool} (hC : vs_M σ M) (ha : a < 5) (hQ : ∀ M' : jw_Mem, vs_M (sp_power σ a b) M' → (∀ k, k < 41 → M' k = M k) → Q (bI (!(s_up σ a == b))) M') : jw_M l (jw_g G) A f_M_power [jw_a G 41, .int (nI a), .int (bI b)] M Q := by
  have up2 : ∀ x : Int32, x = bI (!b) → (s_up σ a == b) = false → vs_M (sp_power σ a b) (jw_U M 42 a x) := by
    intro x hx _
    refine vs_M_up hC (fun k hk => jw_Une hk) (fun q hq => ?_)
    rw [jw_Uat]
    by_cases e : q = a
    · subst e
      simp [va_up, hx]
    · rw [if_neg e, hC.2.2.1 q hq]
      simp [va_up, e]
  refine e_M_power (fun X hR => c_M_isNode_t ha ⟨fun hc => absurd hc (by decide), fun _ => ⟨a, ⟨ha, rfl⟩, fun h => ⟨fun hb => ⟨a, ⟨ha, rfl⟩, ?_⟩, fun hb => ⟨a, ⟨ha, rfl⟩, ?_⟩⟩, fun h => ?_⟩⟩)
  · rw [hC.2.2.1 a ha, bI_inj] at h
    rw [bI_n0] at hb
    have hf : (s_up σ a == b) = false := by rw [← h]; cases s_up σ a <;> rfl
    have := hQ _ (up2 0 (by rw [hb]; rfl) hf) (fun k hk => jw_Une (by omega))
    rw [hf] at this
    exact hR _ _ this (Or.inr rfl)
  · rw [hC.2.2.1 a ha, bI_inj] at h
    rw [bI_0] at hb
    have hf : (s_up σ a == b) = false := by rw [← h]; cases s_up σ a <;> rfl
    have := hQ _ (up2 1 (by rw [hb]; rfl) hf) (fun k hk => jw_Une (by omega))
    rw [hf] at this
    exact hR _ _ this (Or.inr rfl)
  · rw [hC.2.2.1 a ha, bI_inj] at h
    have ht : (s_up σ a == b) = true := by
      revert h
      cases s_up σ a <;> cases b <;> simp
    have := hQ M ?_ (fun _ _ => rfl)
    · rw [ht] at this
      exact hR _ _ this (Or.inl rfl)
    · refine vs_M_up hC (fun _ _ => rfl) (fun q hq => ?_)
      rw [hC.2.2.1 q hq]
      by_cases e : q = a
      · subst e
        have e2 : s_up σ q = b := by simpa using ht
        simp [va_up, e2]
      · simp [va_up, e]
