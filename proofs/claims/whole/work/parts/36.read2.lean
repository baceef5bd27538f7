/-! holds, count, hints, context, found; both sides -/
theorem vs_nf {b : Bool} (h : ¬ b = false) : b = true := by
  revert h
  cases b <;> simp
theorem oI_b {x : Option Nat} (h : ∀ o, x = some o → o < 5) : (!(oI x == -1)) = x.isSome := by
  cases x with
  | none => rfl
  | some o =>
    have := nI_m1 (a := o) (by have := h o rfl; omega)
    simp [oI, this]
theorem oM_le {x : Option Nat} (h : ∀ o, x = some o → o < 5) : oM x ≤ 0 ↔ x.isSome = false := by
  cases x with
  | none => simp [oM]
  | some o =>
    have := nI_nle (n := o + 1) (by omega) (by have := h o rfl; omega)
    simp [oM, this]
def sp_holds (σ : vs_S) (a v : Nat) : Int32 := bI (s_hs σ a v) + (if (s_hi σ a v).isSome then 2 else 0)
theorem c_V_holds_f {l : Launch} {G : jw_G} {A : Nat → Prop} {M : jw_Mem} {Q : Int32 → jw_Mem → Prop} {σ : vs_S} {x1 x2 : Int32} (hC : vs_C σ M) (h : vs_out x1 5 ∨ vs_out x2 (s_md σ)) (hok : vs_ok σ) (hQ : Q (-1) M) : jw_M l (jw_g G) A f_V_holds [jw_a G 0, .int x1, .int x2] M Q := by
  have hmd := hok.2.2.1
  refine e_V_holds (fun X hR => ?_)
  rcases vs_io x1 (n := 5) (by decide) with h1 | ⟨a, ha, rfl⟩
  · exact c_V_isNode_f h1 ⟨fun _ => hR _ _ hQ, fun hc => absurd rfl hc⟩
  · refine c_V_isNode_t ha ⟨fun _ => hR _ _ hQ, fun _ => ?_⟩
    rcases h with h | h
    · exact absurd h (vs_out_n ha)
    · exact c_G_isMade_f hC.2.2.2.2.1 h ⟨fun hc => absurd rfl hc, fun _ => hR _ _ hQ⟩
theorem c_V_holds {l : Launch} {G : jw_G} {A : Nat → Prop} {M : jw_Mem} {Q : Int32 → jw_Mem → Prop} {σ : vs_S} {a v : Nat} (hok : vs_ok σ) (hC : vs_C σ M) (ha : a < 5) (hv : v < s_md σ) (hQ : Q (sp_holds σ a v) M) : jw_M l (jw_g G) A f_V_holds [jw_a G 0, .int (nI a), .int (nI v)] M Q := by
  have hmd := hok.2.2.1
  have hhs := hC.2.2.2.2.2.2.1 a v ha (by omega)
  have hhi := hC.2.2.2.2.2.2.2.1 a v ha (by omega)
  have hb := oI_b (hok.2.2.2.2.1 a v)
  unfold sp_holds at hQ
  refine e_V_holds (fun X hR => c_V_isNode_t ha ⟨fun hc => absurd hc (by decide), fun _ => c_G_isMade_t hC.2.2.2.2.1 hv hmd ⟨fun _ => ⟨a, ⟨ha, rfl⟩, v, ⟨by omega, rfl⟩, fun h1 => ⟨a, ⟨ha, rfl⟩, c_N_hasHintOf ha (by omega) ?_⟩, fun h1 => ⟨a, ⟨ha, rfl⟩, c_N_hasHintOf ha (by omega) ?_⟩⟩, fun hc => absurd hc (by decide)⟩⟩)
  · rw [hhs, bI_0] at h1
    rw [hhi, hb]
    refine ⟨fun h2 => hR _ _ ?_, fun h2 => hR _ _ ?_⟩
    · rw [bI_0] at h2
      rw [h1, h2] at hQ
      exact hQ
    · rw [bI_n0] at h2
      rw [h1, h2] at hQ
      exact hQ
  · rw [hhs, bI_n0] at h1
    rw [hhi, hb]
    refine ⟨fun h2 => hR _ _ ?_, fun h2 => hR _ _ ?_⟩
    · rw [bI_0] at h2
      rw [h1, h2] at hQ
      exact hQ
    · rw [bI_n0] at h2
      rw [h1, h2] at hQ
      exact hQ
theorem c_M_holds_f {l : Launch} {G : jw_G} {A : Nat → Prop} {M : jw_Mem} {Q : Int32 → jw_Mem → Prop} {σ : vs_S} {x1 x2 : Int32} (hC : vs_M σ M) (h : vs_out x1 5 ∨ vs_out x2 (s_md σ)) (hQ : Q (-1) M) : jw_M l (jw_g G) A f_M_holds [jw_a G 41, .int x1, .int x2] M Q := by
  refine e_M_holds (fun X hR => ?_)
  rcases vs_io x1 (n := 5) (by decide) with h1 | ⟨a, ha, rfl⟩
  · exact c_M_isNode_f h1 ⟨fun _ => hR _ _ hQ, fun hc => absurd rfl hc⟩
  · refine c_M_isNode_t ha ⟨fun _ => hR _ _ hQ, fun _ => ⟨fun _ => hR _ _ hQ, fun h0 => ⟨fun h1 => ?_, fun _ => hR _ _ hQ⟩⟩⟩
    rw [hC.2.2.2.2.1] at h1
    rcases h with h | h | h
    · exact absurd h (vs_out_n ha)
    · exact absurd h h0
    · exact absurd h1 (Int32.not_lt.mpr h)
theorem c_M_holds {l : Launch} {G : jw_G} {A : Nat → Prop} {M : jw_Mem} {Q : Int32 → jw_Mem → Prop} {σ : vs_S} {a v : Nat} (hok : vs_ok σ) (hC : vs_M σ M) (ha : a < 5) (hv : v < s_md σ) (hQ : Q (sp_holds σ a v) M) : jw_M l (jw_g G) A f_M_holds [jw_a G 41, .int (nI a), .int (nI v)] M Q := by
  have hmd := hok.2.2.1
  have hhs := hC.2.2.2.2.2.2.1 a v ha (by omega)
  have hhi := hC.2.2.2.2.2.2.2.1 a v ha (by omega)
  have hb := oM_le (hok.2.2.2.2.1 a v)
  unfold sp_holds at hQ
  refine e_M_holds (fun X hR => c_M_isNode_t ha ⟨fun hc => absurd hc (by decide), fun _ => ⟨fun hc => absurd hc (nI_pos (by omega)), fun _ => ⟨fun _ => ⟨40 * a + v, ⟨by omega, nI_lin40 a v⟩, fun h1 => ⟨40 * a + v, ⟨by omega, nI_lin40 a v⟩, ?_⟩, fun h1 => ⟨40 * a + v, ⟨by omega, nI_lin40 a v⟩, ?_⟩⟩, fun hc => absurd ?_ hc⟩⟩⟩)
  · rw [hhs, bI_0] at h1
    rw [hhi, hb]
    refine ⟨fun h2 => hR _ _ ?_, fun h2 => hR _ _ ?_⟩
    · rw [h1, h2] at hQ
      exact hQ
    · rw [h1, vs_nf h2] at hQ
      exact hQ
  · rw [hhs, bI_n0] at h1
    rw [hhi, hb]
    refine ⟨fun h2 => hR _ _ ?_, fun h2 => hR _ _ ?_⟩
    · rw [h1, h2] at hQ
      exact hQ
    · rw [h1, vs_nf h2] at hQ
      exact hQ
  · rw [hC.2.2.2.2.1]
    exact nI_lt hv (by omega)
def sp_count (σ : vs_S) (a : Nat) (x : Int32) : Nat := vs_cnt (fun u => s_hs σ a u && s_ky σ u == x) (s_md σ)
theorem c_V_count_f {l : Launch} {G : jw_G} {A : Nat → Prop} {M : jw_Mem} {Q : Int32 → jw_Mem → Prop} {x1 x2 : Int32} (h : vs_out x1 5 ∨ vs_out x2 32) (hQ : Q (-1) M) : jw_M l (jw_g G) A f_V_count [jw_a G 0, .int x1, .int x2] M Q := by
  refine e_V_count (fun X hR => ?_)
  rcases vs_io x1 (n := 5) (by decide) with h1 | ⟨a, ha, rfl⟩
  · exact c_V_isNode_f h1 ⟨fun _ => hR _ _ hQ, fun hc => absurd rfl hc⟩
  · refine c_V_isNode_t ha ⟨fun _ => hR _ _ hQ, fun _ => ?_⟩
    rcases vs_io x2 (n := 32) (by decide) with h2 | ⟨p, hp, rfl⟩
    · exact c_V_isKey_f h2 ⟨fun hc => absurd rfl hc, fun _ => hR _ _ hQ⟩
    · exact absurd h (fun z => z.elim (vs_out_n ha) (vs_out_n hp))
theorem c_V_count {l : Launch} {G : jw_G} {A : Nat → Prop} {M : jw_Mem} {Q : Int32 → jw_Mem → Prop} {σ : vs_S} {a key : Nat} (hok : vs_ok σ) (hC : vs_C σ M) (ha : a < 5) (hk : key < 32) (hQ : ∀ M' : jw_Mem, vs_same M M' → Q (nI (sp_count σ a (nI key))) M') : jw_M l (jw_g G) A f_V_count [jw_a G 0, .int (nI a), .int (nI key)] M Q := by
  have hmd := hok.2.2.1
  have hky := hC.2.2.2.2.2.1.1
  refine e_V_count (fun X hR => c_V_isNode_t ha ⟨fun hc => absurd hc (by decide), fun _ => c_V_isKey_t hk ⟨fun _ => ⟨a, ⟨ha, rfl⟩, c_N_writeOut (h := s_hs σ a) (md := s_md σ) ha jw_k38 (by omega) hC.2.2.2.2.1 hmd (fun u hu => hC.2.2.2.2.2.2.1 a u ha hu) (fun M' ho hr => hR _ _ ?_)⟩, fun hc => absurd hc (by decide)⟩⟩)
  have e : vs_cnt (fun u => s_hs σ a u && M 5 u == nI key) (s_md σ) = sp_count σ a (nI key) := vs_cnt_c (fun u hu => by rw [hky u (by omega)])
  rw [e]
  exact hQ M' ⟨fun k _ _ _ _ _ k38 _ _ => ho k k38, by rw [ho 0 (by decide)], by rw [ho 0 (by decide)], by rw [ho 0 (by decide)], by rw [ho 1 (by decide)]⟩
theorem c_M_count_f {l : Launch} {G : jw_G} {A : Nat → Prop} {M : jw_Mem} {Q : Int32 → jw_Mem → Prop} {x1 x2 : Int32} (h : vs_out x1 5 ∨ vs_out x2 32) (hQ : Q (-1) M) : jw_M l (jw_g G) A f_M_count [jw_a G 41, .int x1, .int x2] M Q := by
  refine e_M_count (fun X hR => ?_)
  rcases vs_io x1 (n := 5) (by decide) with h1 | ⟨a, ha, rfl⟩
  · exact c_M_isNode_f h1 ⟨fun _ => hR _ _ hQ, fun hc => absurd rfl hc⟩
  · refine c_M_isNode_t ha ⟨fun _ => hR _ _ hQ, fun _ => ?_⟩
    rcases vs_io x2 (n := 32) (by decide) with h2 | ⟨p, hp, rfl⟩
    · exact c_M_isKey_f h2 ⟨fun hc => absurd rfl hc, fun _ => hR _ _ hQ⟩
    · exact absurd h (fun z => z.elim (vs_out_n ha) (vs_out_n hp))
theorem c_M_count {l : Launch} {G : jw_G} {A : Nat → Prop} {M : jw_Mem} {Q : Int32 → jw_Mem → Prop} {σ : vs_S} {a key : Nat} (hok : vs_ok σ) (hC : vs_M σ M) (ha : a < 5) (hk : key < 32) (hQ : Q (nI (sp_count σ a (nI key))) M) : jw_M l (jw_g G) A f_M_count [jw_a G 41, .int (nI a), .int (nI key)] M Q := by
  have hmd := hok.2.2.1
  have hky := hC.2.2.2.2.2.1.1
  have hhs := hC.2.2.2.2.2.2.1
  refine e_M_count (fun X hR => c_M_isNode_t ha ⟨fun hc => absurd hc (by decide), fun _ => c_M_isKey_t hk ⟨fun _ => ?_, fun hc => absurd hc (by decide)⟩⟩)
  have key2 : ∀ i, i ≤ s_md σ → jw_X l X (jw_g G) A f_M_count 21 [some (jw_a G 41), some (.int (nI a)), some (.int (nI key)), some (.int (nI (vs_cnt (fun u => s_hs σ a u && s_ky σ u == nI key) i))), some (.int (nI i))] [] M := by
    refine vs_up ?_ ?_
    · refine k_M_count_21 ⟨fun _ => hR _ _ hQ, fun hc => absurd ?_ hc⟩
      rw [hC.2.2.2.2.1]
      exact nI_le (Nat.le_refl _) (by omega)
    · intro i hi ih
      have st0 : (s_hs σ a i && s_ky σ i == nI key) = false → jw_X l X (jw_g G) A f_M_count 21 [some (jw_a G 41), some (.int (nI a)), some (.int (nI key)), some (.int (nI (vs_cnt (fun u => s_hs σ a u && s_ky σ u == nI key) i))), some (.int (nI i + 1))] [] M := by
        intro e
        rw [nI_1]
        have e9 : vs_cnt (fun u => s_hs σ a u && s_ky σ u == nI key) (i + 1) = vs_cnt (fun u => s_hs σ a u && s_ky σ u == nI key) i := by
          show vs_cnt _ i + (if (s_hs σ a i && s_ky σ i == nI key) then 1 else 0) = _
          rw [e]; rfl
        rw [e9] at ih
        exact ih
      refine k_M_count_21 ⟨fun hc => absurd hc ?_, fun _ => ⟨40 * a + i, ⟨by omega, nI_lin40 a i⟩, fun h1 => st0 ?_, fun h1 => ⟨i, ⟨by omega, rfl⟩, fun h2 => st0 ?_, fun h2 => ?_⟩⟩⟩
      · rw [hC.2.2.2.2.1]
        exact nI_ge hi (by omega)
      · rw [hhs a i ha (by omega), bI_0] at h1
        rw [h1]; rfl
      · rw [hky i (by omega)] at h2
        simp [h2]
      · rw [hhs a i ha (by omega), bI_n0] at h1
        rw [hky i (by omega)] at h2
        rw [nI_1, nI_1]
        have e9 : vs_cnt (fun u => s_hs σ a u && s_ky σ u == nI key) (i + 1) = vs_cnt (fun u => s_hs σ a u && s_ky σ u == nI key) i + 1 := by
          show vs_cnt _ i + (if (s_hs σ a i && s_ky σ i == nI key) then 1 else 0) = _
          simp [h1, h2]
        rw [e9] at ih
        exact ih
  exact key2 0 (Nat.zero_le _)
def sp_hints (σ : vs_S) (a : Nat) : Nat := vs_cnt (fun u => (s_hi σ a u).isSome) (s_md σ)
theorem vs_cnt_s (p : Nat → Bool) (i : Nat) : vs_cnt p (i + 1) = vs_cnt p i + (if p i then 1 else 0) := rfl
theorem c_V_hints_f {l : Launch} {G : jw_G} {A : Nat → Prop} {M : jw_Mem} {Q : Int32 → jw_Mem → Prop} {x1 : Int32} (h : vs_out x1 5) (hQ : Q (-1) M) : jw_M l (jw_g G) A f_V_hints [jw_a G 0, .int x1] M Q :=
  e_V_hints (fun X hR => c_V_isNode_f h ⟨fun hc => absurd rfl hc, fun _ => hR _ _ hQ⟩)
theorem c_V_hints {l : Launch} {G : jw_G} {A : Nat → Prop} {M : jw_Mem} {Q : Int32 → jw_Mem → Prop} {σ : vs_S} {a : Nat} (hok : vs_ok σ) (hC : vs_C σ M) (ha : a < 5) (hQ : Q (nI (sp_hints σ a)) M) : jw_M l (jw_g G) A f_V_hints [jw_a G 0, .int (nI a)] M Q := by
  have hmd := hok.2.2.1
  refine e_V_hints (fun X hR => c_V_isNode_t ha ⟨fun _ => ?_, fun hc => absurd hc (by decide)⟩)
  have key2 : ∀ i, i ≤ s_md σ → jw_X l X (jw_g G) A f_V_hints 13 [some (jw_a G 0), some (.int (nI a)), some (.int (nI (vs_cnt (fun u => (s_hi σ a u).isSome) i))), some (.int (nI i))] [] M := by
    refine vs_up ?_ ?_
    · refine k_V_hints_13 ⟨fun _ => hR _ _ hQ, fun hc => absurd ?_ hc⟩
      rw [hC.2.2.2.2.1]
      exact nI_le (Nat.le_refl _) (by omega)
    · intro i hi ih
      rw [vs_cnt_s] at ih
      refine k_V_hints_13 ⟨fun hc => absurd hc ?_, fun _ => ⟨a, ⟨ha, rfl⟩, c_N_hasHintOf ha (by omega) ?_⟩⟩
      · rw [hC.2.2.2.2.1]
        exact nI_ge hi (by omega)
      · rw [hC.2.2.2.2.2.2.2.1 a i ha (by omega), oI_b (hok.2.2.2.2.1 a i)]
        refine ⟨fun h1 => ?_, fun h1 => ?_⟩
        · rw [bI_0] at h1
          rw [nI_1]
          rw [h1] at ih
          exact ih
        · rw [bI_n0] at h1
          rw [nI_1, nI_1]
          rw [h1] at ih
          exact ih
  exact key2 0 (Nat.zero_le _)
theorem c_M_hints_f {l : Launch} {G : jw_G} {A : Nat → Prop} {M : jw_Mem} {Q : Int32 → jw_Mem → Prop} {x1 : Int32} (h : vs_out x1 5) (hQ : Q (-1) M) : jw_M l (jw_g G) A f_M_hints [jw_a G 41, .int x1] M Q :=
  e_M_hints (fun X hR => c_M_isNode_f h ⟨fun hc => absurd rfl hc, fun _ => hR _ _ hQ⟩)
theorem c_M_hints {l : Launch} {G : jw_G} {A : Nat → Prop} {M : jw_Mem} {Q : Int32 → jw_Mem → Prop} {σ : vs_S} {a : Nat} (hok : vs_ok σ) (hC : vs_M σ M) (ha : a < 5) (hQ : Q (nI (sp_hints σ a)) M) : jw_M l (jw_g G) A f_M_hints [jw_a G 41, .int (nI a)] M Q := by
  have hmd := hok.2.2.1
  refine e_M_hints (fun X hR => c_M_isNode_t ha ⟨fun _ => ?_, fun hc => absurd hc (by decide)⟩)
  have key2 : ∀ i, i ≤ s_md σ → jw_X l X (jw_g G) A f_M_hints 13 [some (jw_a G 41), some (.int (nI a)), some (.int (nI (vs_cnt (fun u => (s_hi σ a u).isSome) i))), some (.int (nI i))] [] M := by
    refine vs_up ?_ ?_
    · refine k_M_hints_13 ⟨fun _ => hR _ _ hQ, fun hc => absurd ?_ hc⟩
      rw [hC.2.2.2.2.1]
      exact nI_le (Nat.le_refl _) (by omega)
    · intro i hi ih
      rw [vs_cnt_s] at ih
      refine k_M_hints_13 ⟨fun hc => absurd hc ?_, fun _ => ⟨40 * a + i, ⟨by omega, nI_lin40 a i⟩, ?_⟩⟩
      · rw [hC.2.2.2.2.1]
        exact nI_ge hi (by omega)
      · rw [hC.2.2.2.2.2.2.2.1 a i ha (by omega), oM_le (hok.2.2.2.2.1 a i)]
        refine ⟨fun h1 => ?_, fun h1 => ?_⟩
        · rw [nI_1]
          rw [h1] at ih
          exact ih
        · have h2 : (s_hi σ a i).isSome = true := vs_nf h1
          rw [nI_1, nI_1]
          rw [h2] at ih
          exact ih
  exact key2 0 (Nat.zero_le _)
def sp_context (σ : vs_S) (c n : Nat) : Int32 := if (s_xk σ c).isSome then s_xc σ c n else -1
theorem oI_e {x : Option Nat} (h : ∀ o, x = some o → o < 32) : (oI x == -1) = !x.isSome := by
  cases x with
  | none => rfl
  | some o =>
    have := nI_m1 (a := o) (by have := h o rfl; omega)
    simp [oI, this]
theorem c_V_context_f {l : Launch} {G : jw_G} {A : Nat → Prop} {M : jw_Mem} {Q : Int32 → jw_Mem → Prop} {x1 x2 : Int32} (h : vs_out x1 4 ∨ vs_out x2 5) (hQ : Q (-1) M) : jw_M l (jw_g G) A f_V_context [jw_a G 0, .int x1, .int x2] M Q := by
  refine e_V_context (fun X hR => ?_)
  rcases vs_io x1 (n := 4) (by decide) with h1 | ⟨a, ha, rfl⟩
  · exact c_V_isContext_f h1 ⟨fun _ => hR _ _ hQ, fun hc => absurd rfl hc⟩
  · refine c_V_isContext_t ha ⟨fun _ => hR _ _ hQ, fun _ => ?_⟩
    rcases vs_io x2 (n := 5) (by decide) with h2 | ⟨p, hp, rfl⟩
    · exact c_V_isNode_f h2 ⟨fun _ => hR _ _ hQ, fun hc => absurd rfl hc⟩
    · exact absurd h (fun z => z.elim (vs_out_n ha) (vs_out_n hp))
theorem c_V_context {l : Launch} {G : jw_G} {A : Nat → Prop} {M : jw_Mem} {Q : Int32 → jw_Mem → Prop} {σ : vs_S} {c n : Nat} (hok : vs_ok σ) (hC : vs_C σ M) (hc : c < 4) (hn : n < 5) (hQ : Q (sp_context σ c n) M) : jw_M l (jw_g G) A f_V_context [jw_a G 0, .int (nI c), .int (nI n)] M Q := by
  unfold sp_context at hQ
  refine e_V_context (fun X hR => c_V_isContext_t hc ⟨fun hc => absurd hc (by decide), fun _ => c_V_isNode_t hn ⟨fun hc => absurd hc (by decide), fun _ => ⟨c, ⟨hc, rfl⟩, c_C_isEmpty hc ?_⟩⟩⟩)
  rw [hC.2.2.2.2.2.2.2.2.1 c hc, oI_e (hok.2.2.2.2.2.1 c)]
  refine ⟨fun h1 => ⟨c, ⟨hc, rfl⟩, n, ⟨hn, rfl⟩, hR _ _ ?_⟩, fun h1 => hR _ _ ?_⟩
  · rw [bI_0] at h1
    rw [show (s_xk σ c).isSome = true by simpa using h1] at hQ
    rw [hC.2.2.2.2.2.2.2.2.2.1 c n hc hn]
    exact hQ
  · rw [bI_n0] at h1
    rw [show (s_xk σ c).isSome = false by simpa using h1] at hQ
    exact hQ
theorem vs_gt4 {x : Int32} (h : nI 4 ≤ x) : 3 < x := by
  rw [Int32.lt_iff_toInt_lt]
  have h1 := Int32.le_iff_toInt_le.mp h
  rw [nI_toInt (by decide)] at h1
  have h2 : (3 : Int32).toInt = 3 := by decide
  omega
theorem c_M_context_f {l : Launch} {G : jw_G} {A : Nat → Prop} {M : jw_Mem} {Q : Int32 → jw_Mem → Prop} {x1 x2 : Int32} (h : vs_out x1 4 ∨ vs_out x2 5) (hQ : Q (-1) M) : jw_M l (jw_g G) A f_M_context [jw_a G 41, .int x1, .int x2] M Q := by
  refine e_M_context (fun X hR => ⟨fun _ => hR _ _ hQ, fun h0 => ⟨fun _ => hR _ _ hQ, fun h1 => ?_⟩⟩)
  rcases vs_io x1 (n := 4) (by decide) with h2 | ⟨a, ha, rfl⟩
  · exact h2.elim (fun z => absurd z h0) (fun z => absurd (vs_gt4 z) h1)
  · refine ⟨a, ⟨ha, rfl⟩, fun _ => hR _ _ hQ, fun _ => ?_⟩
    rcases h with h | h
    · exact absurd h (vs_out_n ha)
    · exact c_M_isNode_f h ⟨fun hc => absurd rfl hc, fun _ => hR _ _ hQ⟩
theorem c_M_context {l : Launch} {G : jw_G} {A : Nat → Prop} {M : jw_Mem} {Q : Int32 → jw_Mem → Prop} {σ : vs_S} {c n : Nat} (hC : vs_M σ M) (hc : c < 4) (hn : n < 5) (hQ : Q (sp_context σ c n) M) : jw_M l (jw_g G) A f_M_context [jw_a G 41, .int (nI c), .int (nI n)] M Q := by
  unfold sp_context at hQ
  refine e_M_context (fun X hR => ⟨fun hc => absurd hc (nI_pos (by omega)), fun _ => ⟨fun hc => absurd hc (nI_nlt (a := 3) (by omega) (by omega)), fun _ => ⟨c, ⟨hc, rfl⟩, ?_⟩⟩⟩)
  rw [hC.2.2.2.2.2.2.2.2.1 c hc]
  refine ⟨fun h1 => hR _ _ ?_, fun h1 => c_M_isNode_t hn ⟨fun _ => ⟨5 * c + n, ⟨by omega, nI_lin5 c n⟩, hR _ _ ?_⟩, fun hc => absurd hc (by decide)⟩⟩
  · rw [bI_0] at h1
    rw [h1] at hQ
    exact hQ
  · rw [bI_n0] at h1
    rw [h1] at hQ
    rw [hC.2.2.2.2.2.2.2.2.2.2.1 c n hc hn (by intro e; rw [e] at h1; cases h1)]
    exact hQ
/-- the k-th of a row -/
def vs_fnd (fd : Nat → Bool) (x : Int32) : Nat → Int32
  | 0 => -1
  | n + 1 => if fd n && nI (vs_cnt fd n) == x then nI n else vs_fnd fd x n
theorem vs_cnt_m (fd : Nat → Bool) {a b : Nat} (h : a ≤ b) : vs_cnt fd a ≤ vs_cnt fd b := by
  induction b with
  | zero => rw [Nat.le_zero.mp h]; exact Nat.le_refl _
  | succ b ih =>
    by_cases e : a = b + 1
    · rw [e]; exact Nat.le_refl _
    · have := ih (by omega)
      rw [vs_cnt_s]
      omega
theorem vs_fnd_no {fd : Nat → Bool} {x : Int32} : ∀ {n : Nat}, (∀ u, u < n → fd u = true → ¬ nI (vs_cnt fd u) = x) → vs_fnd fd x n = -1
  | 0, _ => rfl
  | n + 1, h => by
    unfold vs_fnd
    rw [if_neg]
    · exact vs_fnd_no (fun u hu => h u (by omega))
    · intro z
      simp only [Bool.and_eq_true, beq_iff_eq] at z
      exact h n (by omega) z.1 z.2
theorem vs_fnd_at {fd : Nat → Bool} {u : Nat} : ∀ {n : Nat}, n ≤ 1000 → u < n → fd u = true → vs_fnd fd (nI (vs_cnt fd u)) n = nI u
  | 0, _, h, _ => absurd h (Nat.not_lt_zero u)
  | n + 1, hn, h, hf => by
    unfold vs_fnd
    by_cases e : u = n
    · subst e
      rw [if_pos (by simp [hf])]
    · rw [if_neg]
      · exact vs_fnd_at (by omega) (by omega) hf
      · intro z
        simp only [Bool.and_eq_true, beq_iff_eq] at z
        have h1 := vs_cnt_le fd n
        have h2 := vs_cnt_le fd u
        have h3 := (nI_ne (by omega) (by omega)).mp z.2
        have h4 := vs_cnt_m fd (show u + 1 ≤ n by omega)
        rw [vs_cnt_s, hf] at h4
        simp at h4
        omega
theorem vs_fnd_c {fd : Nat → Bool} {x : Int32} {m n : Nat} (h : m ≤ n) (hf : ∀ u, m ≤ u → fd u = false) : vs_fnd fd x n = vs_fnd fd x m := by
  induction n with
  | zero => rw [Nat.le_zero.mp h]
  | succ n ih =>
    by_cases e : m = n + 1
    · rw [e]
    · rw [← ih (by omega)]
      show (if fd n && nI (vs_cnt fd n) == x then nI n else vs_fnd fd x n) = _
      rw [hf n (by omega)]
      rfl
theorem vs_cnt_ex {fd : Nat → Bool} : ∀ {n j : Nat}, j < vs_cnt fd n → ∃ u, u < n ∧ fd u = true ∧ vs_cnt fd u = j
  | 0, j, h => absurd h (Nat.not_lt_zero j)
  | n + 1, j, h => by
    by_cases c : j < vs_cnt fd n
    · obtain ⟨u, h1, h2⟩ := vs_cnt_ex c
      exact ⟨u, by omega, h2⟩
    · rw [vs_cnt_s] at h
      cases hf : fd n with
      | false => rw [hf] at h; simp at h; omega
      | true => rw [hf] at h; simp at h; exact ⟨n, by omega, hf, by omega⟩
def sp_found (σ : vs_S) (x : Int32) : Int32 := vs_fnd (s_fd σ) x 40
theorem c_V_found {l : Launch} {G : jw_G} {A : Nat → Prop} {M : jw_Mem} {Q : Int32 → jw_Mem → Prop} {σ : vs_S} {x : Int32} (hok : vs_ok σ) (hC : vs_C σ M) (hQ : Q (sp_found σ x) M) : jw_M l (jw_g G) A f_V_found [jw_a G 0, .int x] M Q := by
  have hmd := hok.2.2.1
  have hfd := hok.2.2.2.2.2.2.2
  have hm := hC.2.2.2.2.1
  have hrow := hC.2.2.2.2.2.2.2.2.2.2.1
  unfold sp_found at hQ
  refine e_V_found (fun X hR => ?_)
  have key2 : ∀ i, i ≤ s_md σ → (∀ u, u < i → s_fd σ u = true → ¬ nI (vs_cnt (s_fd σ) u) = x) → jw_X l X (jw_g G) A f_V_found 4 [some (jw_a G 0), some (.int x), some (.int (nI (vs_cnt (s_fd σ) i))), some (.int (nI i))] [] M := by
    refine vs_up ?_ ?_
    · intro hno
      refine k_V_found_4 ⟨fun _ => hR _ _ ?_, fun hc => absurd ?_ hc⟩
      · rw [vs_fnd_c hmd (fun u hu => by
          cases hf : s_fd σ u with
          | false => rfl
          | true => exact absurd (hfd u hf) (by omega)), vs_fnd_no hno] at hQ
        exact hQ
      · rw [hm]
        exact nI_le (Nat.le_refl _) (by omega)
    · intro i hi ih hno
      have ih2 := ih
      rw [vs_cnt_s] at ih2
      refine k_V_found_4 ⟨fun hc => absurd hc ?_, fun _ => ⟨i, ⟨by omega, rfl⟩, fun h1 => ?_, fun h1 => ⟨fun h2 => ?_, fun h2 => hR _ _ ?_⟩⟩⟩
      · rw [hm]
        exact nI_ge hi (by omega)
      · rw [hrow i (by omega), bI_0] at h1
        rw [nI_1]
        rw [h1] at ih2
        exact ih2 (lt_s hno (fun z => by rw [h1] at z; cases z))
      · rw [hrow i (by omega), bI_n0] at h1
        rw [nI_1, nI_1]
        rw [h1] at ih2
        exact ih2 (lt_s hno (fun _ => h2))
      · rw [hrow i (by omega), bI_n0] at h1
        rw [← h2, vs_fnd_at (by omega) (by omega) h1] at hQ
        exact hQ
  exact key2 0 (Nat.zero_le _) (fun u hu => absurd hu (Nat.not_lt_zero u))
theorem c_M_found {l : Launch} {G : jw_G} {A : Nat → Prop} {M : jw_Mem} {Q : Int32 → jw_Mem → Prop} {σ : vs_S} {x : Int32} (hC : vs_M σ M) (hQ : Q (sp_found σ x) M) : jw_M l (jw_g G) A f_M_found [jw_a G 41, .int x] M Q := by
  have hrow := hC.2.2.2.2.2.2.2.2.2.2.2.1
  have hle := vs_cnt_le (s_fd σ) 40
  unfold sp_found at hQ
  have no : (∀ u, u < 40 → s_fd σ u = true → ¬ nI (vs_cnt (s_fd σ) u) = x) → Q (-1) M := by
    intro h
    rw [vs_fnd_no h] at hQ
    exact hQ
  refine e_M_found (fun X hR => ⟨fun h0 => hR _ _ (no (fun u hu _ e => ?_)), fun h0 => ⟨fun h1 => hR _ _ (no (fun u hu hf e => ?_)), fun h1 => ?_⟩⟩)
  · have := vs_cnt_le (s_fd σ) u
    rw [← e] at h0
    exact nI_pos (by omega) h0
  · have h2 := vs_cnt_m (s_fd σ) (show u + 1 ≤ 40 by omega)
    have := vs_cnt_le (s_fd σ) u
    rw [vs_cnt_s, hf] at h2
    simp at h2
    rw [hrow.1, ← e, nI_leI (by omega) (by omega)] at h1
    omega
  · obtain ⟨j, hj, rfl⟩ := nI_of h0
    rw [hrow.1, nI_leI (by omega) (by omega)] at h1
    obtain ⟨u, h2, h3, h4⟩ := vs_cnt_ex (show j < vs_cnt (s_fd σ) 40 by omega)
    refine ⟨j, ⟨by omega, rfl⟩, hR _ _ ?_⟩
    rw [← h4, vs_fnd_at (by omega) h2 h3] at hQ
    rw [← h4, hrow.2 u h2 h3]
    exact hQ
