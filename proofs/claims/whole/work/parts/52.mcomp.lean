/-! The reference: compare -/
theorem vs_tk_key {h : Nat → Bool} {ky cl : Nat → Int32} {md v u : Nat} (hk : ¬ ky u = ky v) : vs_tk h ky cl md v u = h u := by
  unfold vs_tk vs_cut
  have e : (ky u == ky v) = false := beq_eq_false_iff_ne.mpr hk
  have e2 : u ≠ v := fun z => hk (by rw [z])
  rw [e, if_neg e2]
  simp
theorem vs_tkA_key {h : Nat → Bool} {ky cl : Nat → Int32} {md u : Nat} {row : Nat → Bool} {x : Int32} (hr : ∀ v, row v = true → ky v = x) (hk : ¬ ky u = x) : ∀ i, vs_tkA h ky cl md row i u = h u
  | 0 => rfl
  | i + 1 => by
    have ih := vs_tkA_key (h := h) (cl := cl) (md := md) hr hk i
    cases e : row i with
    | false =>
      simp only [vs_tkA, e]
      exact ih
    | true =>
      simp only [vs_tkA, e, if_true]
      rw [vs_tk_key (by rw [hr i e]; exact hk)]
      exact ih
theorem co_s {σ : vs_S} {a b k : Nat} : sp_co σ a b (k + 1) = if sp_df (sp_co σ a b k) a b k then sp_ex (sp_co σ a b k) a b k else sp_co σ a b k := rfl
theorem co_mo {σ : vs_S} {a b : Nat} : ∀ k, s_mo (sp_co σ a b k) = s_mo σ
  | 0 => rfl
  | k + 1 => by
    rw [co_s]
    by_cases e : sp_df (sp_co σ a b k) a b k = true
    · rw [if_pos e]; unfold sp_ex; rw [sw_mo_hs]; exact co_mo k
    · rw [if_neg e]; exact co_mo k
theorem co_ow {σ : vs_S} {a b : Nat} : ∀ k, s_ow (sp_co σ a b k) = s_ow σ
  | 0 => rfl
  | k + 1 => by
    rw [co_s]
    by_cases e : sp_df (sp_co σ a b k) a b k = true
    · rw [if_pos e]; unfold sp_ex; rw [sw_ow_hs]; exact co_ow k
    · rw [if_neg e]; exact co_ow k
theorem co_md {σ : vs_S} {a b : Nat} : ∀ k, s_md (sp_co σ a b k) = s_md σ
  | 0 => rfl
  | k + 1 => by
    rw [co_s]
    by_cases e : sp_df (sp_co σ a b k) a b k = true
    · rw [if_pos e]; unfold sp_ex; rw [sw_md_hs]; exact co_md k
    · rw [if_neg e]; exact co_md k
theorem co_ky {σ : vs_S} {a b : Nat} : ∀ k, s_ky (sp_co σ a b k) = s_ky σ
  | 0 => rfl
  | k + 1 => by
    rw [co_s]
    by_cases e : sp_df (sp_co σ a b k) a b k = true
    · rw [if_pos e]; unfold sp_ex; rw [sw_ky_hs]; exact co_ky k
    · rw [if_neg e]; exact co_ky k
theorem vs_hkw_k {σ : vs_S} {a key v : Nat} (h : sp_hkw σ a key v = true) : s_ky σ v = nI key := by
  unfold sp_hkw at h
  simp only [Bool.and_eq_true, beq_iff_eq] at h
  exact h.2
theorem ex_hs {σ : vs_S} {a b key c u : Nat} (hk : ¬ s_ky σ u = nI key) : sp_exh σ a b key c u = s_hs σ c u := by
  unfold sp_exh
  by_cases e1 : c = a
  · rw [if_pos e1, e1]
    exact vs_tkA_key (x := nI key) (ky := s_ky σ) (row := sp_hkw σ b key) (u := u) (fun v hv => vs_hkw_k (a := b) hv) hk _
  · rw [if_neg e1]
    by_cases e2 : c = b
    · rw [if_pos e2, e2]
      exact vs_tkA_key (x := nI key) (ky := s_ky σ) (row := sp_hkw σ a key) (u := u) (fun v hv => vs_hkw_k (a := a) hv) hk _
    · rw [if_neg e2]
theorem co_hs {σ : vs_S} {a b u : Nat} : ∀ k, (∀ j, j < k → ¬ s_ky σ u = nI j) → ∀ c, s_hs (sp_co σ a b k) c u = s_hs σ c u
  | 0, _, c => rfl
  | k + 1, h, c => by
    have ih := co_hs (a := a) (b := b) k (fun j hj => h j (by omega)) c
    rw [co_s]
    by_cases e : sp_df (sp_co σ a b k) a b k = true
    · rw [if_pos e]
      unfold sp_ex
      rw [sw_hs_hs, ex_hs (by rw [co_ky]; exact h k (by omega))]
      exact ih
    · rw [if_neg e]
      exact ih
theorem co_df {σ : vs_S} {a b k : Nat} (hk : k < 32) : sp_cod σ a b k = sp_df σ a b k := by
  unfold sp_cod sp_df sp_sh sp_di
  rw [co_mo, co_ow, co_md, co_ky]
  congr 1
  refine vs_any_c (fun u hu => ?_)
  by_cases e : s_ky σ u = nI k
  · have hh := fun c => co_hs (σ := σ) (a := a) (b := b) (u := u) k (fun j hj z => by
      rw [e] at z
      have := (nI_ne (by omega) (by omega)).mp z
      omega) c
    rw [hh a, hh b]
  · rw [show (s_ky σ u == nI k) = false from beq_eq_false_iff_ne.mpr e, Bool.false_and, Bool.false_and]
theorem c_M_differ {l : Launch} {G : jw_G} {A : Nat → Prop} {M : jw_Mem} {Q : Int32 → jw_Mem → Prop} {σ : vs_S} {a b key : Nat} (hok : vs_ok σ) (hC : vs_M σ M) (ha : a < 5) (hb : b < 5) (hk : key < 32) (hQ : ∀ M' : jw_Mem, vs_sm M M' → Q (bI (sp_df σ a b key)) M') : jw_M l (jw_g G) A f_M_differ [jw_a G 41, .int (nI a), .int (nI b), .int (nI key)] M Q := by
  have hmd := hok.2.2.1
  refine e_M_differ (fun X hR => c_M_isHome hok hC ha hk (fun M1 s1 _ _ _ => ⟨fun h1 => hR _ _ ?_ (Or.inl rfl), fun h1 => c_M_isHome hok (vs_sm_M s1 hC) hb hk (fun M2 s2 _ _ _ => ⟨fun h2 => ?_, fun h2 => hR _ _ ?_ (Or.inl rfl)⟩)⟩))
  · rw [bI_0] at h1
    have := hQ M1 s1
    unfold sp_df sp_sh at this
    rw [h1] at this
    exact this
  · rw [bI_n0] at h1 h2
    have s12 := vs_sm_t s1 s2
    have hC2 := vs_sm_M s12 hC
    have hq := hQ M2 s12
    have hsh : sp_sh σ a b key = true := by unfold sp_sh; rw [h1, h2]; rfl
    unfold sp_df at hq
    rw [hsh, Bool.true_and] at hq
    have loop : ∀ i, i ≤ s_md σ → jw_X l X (jw_g G) A f_M_differ 26 [some (jw_a G 41), some (.int (nI a)), some (.int (nI b)), some (.int (nI key)), some (.int (bI ((List.range i).any (fun u => s_ky σ u == nI key && !(s_hs σ a u == s_hs σ b u))))), some (.int (nI i))] [] M2 := by
      refine vs_up ?_ ?_
      · refine k_M_differ_26 ⟨fun _ => hR _ _ hq (bI_01 _), fun hc => absurd ?_ hc⟩
        rw [hC2.2.2.2.2.1]
        exact nI_le (Nat.le_refl _) (by omega)
      · intro i hi ih
        rw [vs_any_s] at ih
        refine k_M_differ_26 ⟨fun hc => absurd hc ?_, fun _ => ⟨fun g => ?_, fun g => ⟨i, ⟨by omega, rfl⟩, fun g2 => ?_, fun g2 => ⟨40 * a + i, ⟨by omega, nI_lin40 _ _⟩, 40 * b + i, ⟨by omega, nI_lin40 _ _⟩, fun g3 => ?_, fun g3 => ?_⟩⟩⟩⟩
        · rw [hC2.2.2.2.2.1]
          exact nI_ge hi (by omega)
        · rw [bI_n0] at g
          rw [nI_1]
          rw [g] at ih
          exact ih
        · rw [bI_0] at g
          rw [hC2.2.2.2.2.2.1.1 i (by omega)] at g2
          rw [nI_1]
          rw [g, show (s_ky σ i == nI key) = false from beq_eq_false_iff_ne.mpr g2] at ih
          exact ih
        · rw [bI_0] at g
          rw [hC2.2.2.2.2.2.2.1 a i ha (by omega), hC2.2.2.2.2.2.2.1 b i hb (by omega), bI_inj] at g3
          rw [nI_1]
          rw [g, show (!(s_hs σ a i == s_hs σ b i)) = false by simp [g3], Bool.and_false] at ih
          exact ih
        · rw [hC2.2.2.2.2.2.1.1 i (by omega)] at g2
          rw [hC2.2.2.2.2.2.2.1 a i ha (by omega), hC2.2.2.2.2.2.2.1 b i hb (by omega), bI_inj] at g3
          rw [nI_1]
          rw [show (s_ky σ i == nI key && !(s_hs σ a i == s_hs σ b i)) = true by simp [g2, g3], Bool.or_true] at ih
          exact ih
    exact loop 0 (Nat.zero_le _)
  · rw [bI_0] at h2
    have := hQ M2 (vs_sm_t s1 s2)
    unfold sp_df sp_sh at this
    rw [h2, Bool.and_false] at this
    exact this
theorem c_M_exchange {l : Launch} {G : jw_G} {A : Nat → Prop} {M : jw_Mem} {Q : Int32 → jw_Mem → Prop} {σ : vs_S} {a b key : Nat} (hok : vs_ok σ) (hC : vs_M σ M) (ha : a < 5) (hb : b < 5) (hab : a ≠ b) (hQ : ∀ M' : jw_Mem, vs_M (sp_ex σ a b key) M' → (∀ k, k < 41 → M' k = M k) → Q 0 M') : jw_M l (jw_g G) A f_M_exchange [jw_a G 41, .int (nI a), .int (nI b), .int (nI key)] M Q := by
  have hmd := hok.2.2.1
  have c6 := hC.2.2.2.2.1
  have c45 := hC.2.2.2.2.2.1.1
  have c48 := hC.2.2.2.2.2.1.2.2.2
  have c49 := hC.2.2.2.2.2.2.1
  refine e_M_exchange (fun X hR => ?_)
  have swap : ∀ M1 : jw_Mem, (∀ k, k ≠ 51 → M1 k = M k) → (∀ u, u < s_md σ → M1 51 u = bI (sp_hkw σ a key u)) → (∀ u, u < s_md σ → M1 51 (40 + u) = bI (sp_hkw σ b key u)) → ∀ v, v ≤ s_md σ → ∀ M' : jw_Mem, (∀ k, k ≠ 49 → M' k = M1 k) → (∀ c u, c < 5 → u < 40 → M' 49 (40 * c + u) = bI (if c = a then vs_tkA (s_hs σ a) (s_ky σ) (s_cl σ) (s_md σ) (sp_hkw σ b key) v u else if c = b then vs_tkA (s_hs σ b) (s_ky σ) (s_cl σ) (s_md σ) (sp_hkw σ a key) v u else s_hs σ c u)) → jw_X l X (jw_g G) A f_M_exchange 100 [some (jw_a G 41), some (.int (nI a)), some (.int (nI b)), some (.int (nI key)), some (.int (nI v))] [] M' := by
    intro M1 o1 wa wb
    have hC1 : vs_M σ M1 := vs_sm_M ⟨fun k _ k51 _ _ => o1 k k51, fun j _ _ => by rw [o1 41 (by decide)]⟩ hC
    have d6 := hC1.2.2.2.2.1
    have d45 := hC1.2.2.2.2.2.1.1
    have d48 := hC1.2.2.2.2.2.1.2.2.2
    refine vs_up ?_ ?_
    · intro M' ho hr
      refine k_M_exchange_100 ⟨fun _ => hR _ (hQ M' (vs_M_hs hC1 ho hr) (fun k hk => (ho k (by omega)).trans (o1 k (by omega)))), fun hc => absurd ?_ hc⟩
      rw [ho 41 (by decide), d6]
      exact nI_le (Nat.le_refl _) (by omega)
    · intro v hv ih M' ho hr
      have f40 : (40 : Int32) + nI v = nI (40 + v) := by rw [show (40 : Int32) = nI 40 from rfl, nI_add]
      have gb : M' 51 (40 + v) = bI (sp_hkw σ b key v) := by rw [ho 51 (by decide)]; exact wb v hv
      -- the second take
      have second : ∀ M2 : jw_Mem, (∀ k, k ≠ 49 → M2 k = M1 k) → (∀ c u, c < 5 → u < 40 → M2 49 (40 * c + u) = bI (if c = a then vs_tkA (s_hs σ a) (s_ky σ) (s_cl σ) (s_md σ) (sp_hkw σ b key) (v + 1) u else if c = b then vs_tkA (s_hs σ b) (s_ky σ) (s_cl σ) (s_md σ) (sp_hkw σ a key) v u else s_hs σ c u)) → (∃ j2 : Nat, (j2 < 80 ∧ nI v = nI j2) ∧ (((M2 51 j2) = 0 → jw_X l X (jw_g G) A f_M_exchange 100 [some (jw_a G 41), some (.int (nI a)), some (.int (nI b)), some (.int (nI key)), some (.int (nI v + 1))] [] M2) ∧ (¬ (M2 51 j2) = 0 → jw_M l (jw_g G) A f_M_take [jw_a G 41, .int (nI b), .int (nI v)] M2 (fun _ M3 => jw_X l X (jw_g G) A f_M_exchange 100 [some (jw_a G 41), some (.int (nI a)), some (.int (nI b)), some (.int (nI key)), some (.int (nI v + 1))] [] M3)))) := by
        intro M2 ho2 hr2
        have ga : M2 51 v = bI (sp_hkw σ a key v) := by rw [ho2 51 (by decide)]; exact wa v hv
        refine ⟨v, ⟨by omega, rfl⟩, fun g => ?_, fun g => ?_⟩
        · rw [ga, bI_0] at g
          rw [nI_1]
          refine ih M2 ho2 (fun c u hc hu => ?_)
          rw [hr2 c u hc hu]
          have e : vs_tkA (s_hs σ b) (s_ky σ) (s_cl σ) (s_md σ) (sp_hkw σ a key) (v + 1) = vs_tkA (s_hs σ b) (s_ky σ) (s_cl σ) (s_md σ) (sp_hkw σ a key) v := by
            simp only [vs_tkA, g]
            rfl
          rw [e]
        · rw [ga, bI_n0] at g
          refine c_M_take (md := s_md σ) (h := vs_tkA (s_hs σ b) (s_ky σ) (s_cl σ) (s_md σ) (sp_hkw σ a key) v) hb (by omega) (by rw [ho2 41 (by decide)]; exact d6) hmd (fun u hu => by rw [hr2 b u hb hu, if_neg (Ne.symm hab), if_pos rfl]) (fun M3 ho3 hx3 hr3 => ?_)
          rw [nI_1]
          refine ih M3 (fun k hk => (ho3 k hk).trans (ho2 k hk)) (fun c u hc hu => ?_)
          by_cases e : c = b
          · rw [e, hr3 u hu, if_neg (Ne.symm hab), if_pos rfl]
            simp only [vs_tkA, g, if_true]
            congr 1
            exact vs_tk_c (fun u hu => by rw [ho2 45 (by decide)]; exact d45 u hu) (fun u hu => by rw [ho2 48 (by decide)]; exact d48 u hu) hmd (by omega) hu
          · rw [hx3 _ (by omega), hr2 c u hc hu, if_neg e, if_neg e]
      refine k_M_exchange_100 ⟨fun hc => absurd hc ?_, fun _ => ⟨40 + v, ⟨by omega, f40⟩, fun g => second M' ho (fun c u hc hu => ?_), fun g => ?_⟩⟩
      · rw [ho 41 (by decide), d6]
        exact nI_ge hv (by omega)
      · rw [gb, bI_0] at g
        rw [hr c u hc hu]
        have e : vs_tkA (s_hs σ a) (s_ky σ) (s_cl σ) (s_md σ) (sp_hkw σ b key) (v + 1) = vs_tkA (s_hs σ a) (s_ky σ) (s_cl σ) (s_md σ) (sp_hkw σ b key) v := by
          simp only [vs_tkA, g]
          rfl
        rw [e]
      · rw [gb, bI_n0] at g
        refine c_M_take (md := s_md σ) (h := vs_tkA (s_hs σ a) (s_ky σ) (s_cl σ) (s_md σ) (sp_hkw σ b key) v) ha (by omega) (by rw [ho 41 (by decide)]; exact d6) hmd (fun u hu => by rw [hr a u ha hu, if_pos rfl]) (fun M3 ho3 hx3 hr3 => ?_)
        refine second M3 (fun k hk => (ho3 k hk).trans (ho k hk)) (fun c u hc hu => ?_)
        by_cases e : c = a
        · rw [e, hr3 u hu, if_pos rfl]
          simp only [vs_tkA, g, if_true]
          congr 1
          exact vs_tk_c (fun u hu => by rw [ho 45 (by decide)]; exact d45 u hu) (fun u hu => by rw [ho 48 (by decide)]; exact d48 u hu) hmd (by omega) hu
        · rw [hx3 _ (by omega), hr c u hc hu, if_neg e, if_neg e]
  have fill : ∀ i, i ≤ s_md σ → ∀ M1 : jw_Mem, (∀ k, k ≠ 51 → M1 k = M k) → (∀ u, u < i → M1 51 u = bI (sp_hkw σ a key u)) → (∀ u, u < i → M1 51 (40 + u) = bI (sp_hkw σ b key u)) → jw_X l X (jw_g G) A f_M_exchange 3 [some (jw_a G 41), some (.int (nI a)), some (.int (nI b)), some (.int (nI key)), some (.int (nI i))] [] M1 := by
    refine vs_up ?_ ?_
    · intro M1 o1 wa wb
      refine k_M_exchange_3 ⟨fun _ => swap M1 o1 wa wb 0 (Nat.zero_le _) M1 (fun _ _ => rfl) (fun c u hc hu => ?_), fun hc => absurd ?_ hc⟩
      · rw [o1 49 (by decide), c49 c u hc hu]
        by_cases e1 : c = a
        · rw [if_pos e1, e1]; rfl
        · rw [if_neg e1]
          by_cases e2 : c = b
          · rw [if_pos e2, e2]; rfl
          · rw [if_neg e2]
      · rw [o1 41 (by decide), c6]
        exact nI_le (Nat.le_refl _) (by omega)
    · intro i hi ih M1 o1 wa wb
      have f40 : (40 : Int32) + nI i = nI (40 + i) := by rw [show (40 : Int32) = nI 40 from rfl, nI_add]
      have ga : M1 49 (40 * a + i) = bI (s_hs σ a i) := by rw [o1 49 (by decide)]; exact c49 a i ha (by omega)
      have gb : ∀ x, jw_U M1 51 i x 49 (40 * b + i) = bI (s_hs σ b i) := fun x => by rw [jw_Une (by decide), o1 49 (by decide)]; exact c49 b i hb (by omega)
      have gk : M1 45 i = s_ky σ i := by rw [o1 45 (by decide)]; exact c45 i (by omega)
      have gk2 : ∀ x, jw_U M1 51 i x 45 i = s_ky σ i := fun x => by rw [jw_Une (by decide)]; exact gk
      have st : ∀ x y : Bool, sp_hkw σ a key i = x → sp_hkw σ b key i = y → jw_X l X (jw_g G) A f_M_exchange 3 [some (jw_a G 41), some (.int (nI a)), some (.int (nI b)), some (.int (nI key)), some (.int (nI i + 1))] [] (jw_U (jw_U M1 51 i (bI x)) 51 (40 + i) (bI y)) := by
        intro x y hx hy
        rw [nI_1]
        refine ih _ (fun k hk => (jw_Une hk).trans ((jw_Une hk).trans (o1 k hk))) (fun u hu => ?_) (fun u hu => ?_)
        · rw [jw_Uat, if_neg (by omega), jw_Uat]
          by_cases c : u = i
          · rw [if_pos c, c, hx]
          · rw [if_neg c]
            exact wa u (by omega)
        · rw [jw_Uat]
          by_cases c : u = i
          · rw [if_pos (by omega), c, hy]
          · rw [if_neg (by omega), jw_Uat, if_neg (by omega)]
            exact wb u (by omega)
      have snd : ∀ x : Bool, sp_hkw σ a key i = x → (∃ j2 : Nat, (j2 < 80 ∧ nI i = nI j2) ∧ (∃ j3 : Nat, (j3 < 200 ∧ ((40 * nI b) + nI i) = nI j3) ∧ ((((jw_U M1 51 j2 (bI x)) 49 j3) = 0 → (∃ j4 : Nat, (j4 < 80 ∧ (40 + nI i) = nI j4) ∧ jw_X l X (jw_g G) A f_M_exchange 3 [some (jw_a G 41), some (.int (nI a)), some (.int (nI b)), some (.int (nI key)), some (.int (nI i + 1))] [] (jw_U (jw_U M1 51 j2 (bI x)) 51 j4 0))) ∧ (¬ ((jw_U M1 51 j2 (bI x)) 49 j3) = 0 → (∃ j5 : Nat, (j5 < 40 ∧ nI i = nI j5) ∧ ((¬ ((jw_U M1 51 j2 (bI x)) 45 j5) = nI key → (∃ j6 : Nat, (j6 < 80 ∧ (40 + nI i) = nI j6) ∧ jw_X l X (jw_g G) A f_M_exchange 3 [some (jw_a G 41), some (.int (nI a)), some (.int (nI b)), some (.int (nI key)), some (.int (nI i + 1))] [] (jw_U (jw_U M1 51 j2 (bI x)) 51 j6 0))) ∧ (((jw_U M1 51 j2 (bI x)) 45 j5) = nI key → (∃ j7 : Nat, (j7 < 80 ∧ (40 + nI i) = nI j7) ∧ jw_X l X (jw_g G) A f_M_exchange 3 [some (jw_a G 41), some (.int (nI a)), some (.int (nI b)), some (.int (nI key)), some (.int (nI i + 1))] [] (jw_U (jw_U M1 51 j2 (bI x)) 51 j7 1))))))))) := by
        intro x hx
        refine ⟨i, ⟨by omega, rfl⟩, 40 * b + i, ⟨by omega, nI_lin40 _ _⟩, fun g => ⟨40 + i, ⟨by omega, f40⟩, st x false hx ?_⟩, fun g => ⟨i, ⟨by omega, rfl⟩, fun g2 => ⟨40 + i, ⟨by omega, f40⟩, st x false hx ?_⟩, fun g2 => ⟨40 + i, ⟨by omega, f40⟩, st x true hx ?_⟩⟩⟩
        · rw [gb, bI_0] at g
          simp [sp_hkw, g]
        · rw [gk2] at g2
          simp [sp_hkw, g2]
        · rw [gb, bI_n0] at g
          rw [gk2] at g2
          simp [sp_hkw, g, g2]
      refine k_M_exchange_3 ⟨fun hc => absurd hc ?_, fun _ => ⟨40 * a + i, ⟨by omega, nI_lin40 _ _⟩, fun g => snd false ?_, fun g => ⟨i, ⟨by omega, rfl⟩, fun g2 => snd false ?_, fun g2 => snd true ?_⟩⟩⟩
      · rw [o1 41 (by decide), c6]
        exact nI_ge hi (by omega)
      · rw [ga, bI_0] at g
        simp [sp_hkw, g]
      · rw [gk] at g2
        simp [sp_hkw, g2]
      · rw [ga, bI_n0] at g
        rw [gk] at g2
        simp [sp_hkw, g, g2]
  exact fill 0 (Nat.zero_le _) M (fun _ _ => rfl) (fun u hu => absurd hu (Nat.not_lt_zero u)) (fun u hu => absurd hu (Nat.not_lt_zero u))
/-- some key of a part differs -/
def vs_an (d : Nat → Bool) (s p : Nat) : Bool := (List.range s).any (fun i => d (s * p + i))
theorem vs_an_lv (d : Nat → Bool) (s p : Nat) : vs_lv (vs_an d s) p = vs_an d (2 * s) p := by
  have e1 : s * (2 * p) = 2 * s * p := by rw [Nat.mul_comm 2 s, Nat.mul_assoc]
  have e2 : s * (2 * p + 1) = 2 * s * p + s := by rw [Nat.mul_add, e1, Nat.mul_one]
  unfold vs_lv vs_an
  rw [e1, e2, Bool.eq_iff_iff, Bool.or_eq_true, List.any_eq_true, List.any_eq_true, List.any_eq_true]
  constructor
  · rintro (⟨x, hx, e⟩ | ⟨x, hx, e⟩)
    · exact ⟨x, List.mem_range.mpr (by have := List.mem_range.mp hx; omega), e⟩
    · refine ⟨s + x, List.mem_range.mpr (by have := List.mem_range.mp hx; omega), ?_⟩
      rw [← Nat.add_assoc]
      exact e
  · rintro ⟨x, hx, e⟩
    have hx2 := List.mem_range.mp hx
    by_cases c : x < s
    · exact Or.inl ⟨x, List.mem_range.mpr c, e⟩
    · refine Or.inr ⟨x - s, List.mem_range.mpr (by omega), ?_⟩
      rw [show 2 * s * p + s + (x - s) = 2 * s * p + x by omega]
      exact e
theorem vs_lv_c {e f : Nat → Bool} (h : ∀ j, e j = f j) (j : Nat) : vs_lv e j = vs_lv f j := by unfold vs_lv; rw [h, h]
theorem vs_an_1 (d : Nat → Bool) (j : Nat) : d j = vs_an d 1 j := by simp [vs_an]
theorem vs_parts_an (d : Nat → Bool) : vs_parts d = 1 + 2 * vs_cnt (vs_an d 32) 1 + 2 * vs_cnt (vs_an d 16) 2 + 2 * vs_cnt (vs_an d 8) 4 + 2 * vs_cnt (vs_an d 4) 8 + 2 * vs_cnt (vs_an d 2) 16 := by
  have h2 : ∀ j, vs_lv d j = vs_an d 2 j := fun j => (vs_lv_c (vs_an_1 d) j).trans (vs_an_lv d 1 j)
  have h4 : ∀ j, vs_lv (vs_lv d) j = vs_an d 4 j := fun j => (vs_lv_c h2 j).trans (vs_an_lv d 2 j)
  have h8 : ∀ j, vs_lv (vs_lv (vs_lv d)) j = vs_an d 8 j := fun j => (vs_lv_c h4 j).trans (vs_an_lv d 4 j)
  have h16 : ∀ j, vs_lv (vs_lv (vs_lv (vs_lv d))) j = vs_an d 16 j := fun j => (vs_lv_c h8 j).trans (vs_an_lv d 8 j)
  have h32 : ∀ j, vs_lv (vs_lv (vs_lv (vs_lv (vs_lv d)))) j = vs_an d 32 j := fun j => (vs_lv_c h16 j).trans (vs_an_lv d 16 j)
  unfold vs_parts
  rw [vs_cnt_c (n := 16) (fun u _ => h2 u), vs_cnt_c (n := 8) (fun u _ => h4 u), vs_cnt_c (n := 4) (fun u _ => h8 u), vs_cnt_c (n := 2) (fun u _ => h16 u), vs_cnt_c (n := 1) (fun u _ => h32 u)]
  omega
theorem c_M_level {l : Launch} {X : jw_X0} {G : jw_G} {A : Nat → Prop} {M : jw_Mem} {σ : vs_S} {a b s P n : Nat} {x : Int32} (hok : vs_ok σ) (hC : vs_M σ M) (ha : a < 5) (hb : b < 5) (hs : 1 < s) (hsP : s * P = 32) (hs32 : s ≤ 32) (hx : x = nI s) {d : Nat → Bool} (hd : ∀ k, k < 32 → sp_df σ a b k = d k)
    (next : ∀ M' : jw_Mem, vs_sm M M' → jw_X l X (jw_g G) A f_M_compare 39 [some (jw_a G 41), some (.int (nI a)), some (.int (nI b)), some (.int (nI (n + 2 * vs_cnt (vs_an d s) P))), some (.int (nI s / 2)), none, none, none] [] M') : jw_X l X (jw_g G) A f_M_compare 39 [some (jw_a G 41), some (.int (nI a)), some (.int (nI b)), some (.int (nI n)), some (.int x), none, none, none] [] M := by
  have hx1 : ¬ x ≤ 1 := by
    rw [hx]
    exact nI_ge (b := s) (a := 1) hs (by omega)
  refine k_M_compare_39 ⟨fun hc => absurd hc hx1, fun _ => ?_⟩
  rw [hx]
  have parts : ∀ p, p ≤ P → ∀ M' : jw_Mem, vs_sm M M' → jw_X l X (jw_g G) A f_M_compare 48 [some (jw_a G 41), some (.int (nI a)), some (.int (nI b)), some (.int (nI (n + 2 * vs_cnt (vs_an d s) p))), some (.int (nI s)), some (.int (nI (s * p))), none, none] [] M' := by
    refine vs_up ?_ ?_
    · intro M' h1
      refine k_M_compare_48 ⟨fun _ => next M' h1, fun hc => absurd ?_ hc⟩
      rw [hsP]
      exact nI_le (a := 32) (Nat.le_refl _) (by omega)
    · intro p hp ih M' h1
      have hle : s * (p + 1) ≤ 32 := by rw [← hsP]; exact Nat.mul_le_mul_left s hp
      rw [Nat.mul_add, Nat.mul_one] at hle ih
      rw [vs_cnt_s] at ih
      have inner : ∀ i, i ≤ s → ∀ M' : jw_Mem, vs_sm M M' → jw_X l X (jw_g G) A f_M_compare 62 [some (jw_a G 41), some (.int (nI a)), some (.int (nI b)), some (.int (nI (n + 2 * vs_cnt (vs_an d s) p))), some (.int (nI s)), some (.int (nI (s * p))), some (.int (bI ((List.range i).any (fun i => d (s * p + i))))), some (.int (nI (s * p + i)))] [] M' := by
        refine vs_up ?_ ?_
        · intro M' h1
          refine k_M_compare_62 ⟨fun _ => ⟨fun g => ?_, fun g => ?_⟩, fun hc => absurd ?_ hc⟩
          · rw [bI_0] at g
            rw [nI_add]
            rw [show vs_an d s p = false from g] at ih
            exact ih M' h1
          · rw [bI_n0] at g
            rw [nI_add, show (2 : Int32) = nI 2 from rfl, nI_add]
            rw [show vs_an d s p = true from g] at ih
            have := ih M' h1
            rw [show n + 2 * (vs_cnt (vs_an d s) p + if true = true then 1 else 0) = n + 2 * vs_cnt (vs_an d s) p + 2 by simp; omega] at this
            exact this
          · rw [nI_add]
            exact nI_le (Nat.le_refl _) (by omega)
        · intro i hi ih2 M' h1
          rw [vs_any_s] at ih2
          refine k_M_compare_62 ⟨fun hc => absurd hc ?_, fun _ => ⟨fun g => ?_, fun g => c_M_differ hok (vs_sm_M h1 hC) ha hb (by omega) (fun M2 h2 => ⟨fun g2 => ?_, fun g2 => ?_⟩)⟩⟩
          · rw [nI_add]
            exact nI_ge (by omega) (by omega)
          · rw [bI_n0] at g
            rw [nI_1]
            rw [g] at ih2
            exact ih2 M' h1
          · rw [bI_0] at g g2
            rw [hd _ (by omega)] at g2
            rw [nI_1]
            rw [g, g2] at ih2
            exact ih2 M2 (vs_sm_t h1 h2)
          · rw [bI_n0, hd _ (by omega)] at g2
            rw [nI_1]
            rw [g2, Bool.or_true] at ih2
            exact ih2 M2 (vs_sm_t h1 h2)
      refine k_M_compare_48 ⟨fun hc => absurd hc (nI_ge (b := 32) (by omega) (by omega)), fun _ => ?_⟩
      have := inner 0 (Nat.zero_le _) M' h1
      exact this
  exact parts 0 (Nat.zero_le _) M (vs_sm_r M)
theorem c_M_compare_f {l : Launch} {G : jw_G} {A : Nat → Prop} {M : jw_Mem} {Q : Int32 → jw_Mem → Prop} {x1 x2 : Int32} (h : vs_out x1 5 ∨ vs_out x2 5 ∨ x1 = x2) (hQ : Q (-1) M) : jw_M l (jw_g G) A f_M_compare [jw_a G 41, .int x1, .int x2] M Q := by
  refine e_M_compare (fun X hR => ?_)
  rcases vs_io x1 (n := 5) (by decide) with h1 | ⟨a, ha, rfl⟩
  · exact c_M_isNode_f h1 ⟨fun _ => hR _ _ hQ, fun hc => absurd rfl hc⟩
  · refine c_M_isNode_t ha ⟨fun _ => hR _ _ hQ, fun _ => ?_⟩
    rcases vs_io x2 (n := 5) (by decide) with h2 | ⟨b, hb, rfl⟩
    · exact c_M_isNode_f h2 ⟨fun _ => hR _ _ hQ, fun hc => absurd rfl hc⟩
    · exact c_M_isNode_t hb ⟨fun _ => hR _ _ hQ, fun _ => ⟨fun hne => h.elim (fun z => absurd z (vs_out_n ha)) (fun z => z.elim (fun z => absurd z (vs_out_n hb)) (fun z => absurd z hne)), fun _ => hR _ _ hQ⟩⟩
theorem c_M_compare {l : Launch} {G : jw_G} {A : Nat → Prop} {M : jw_Mem} {Q : Int32 → jw_Mem → Prop} {σ : vs_S} {a b : Nat} (hok : vs_ok σ) (hC : vs_M σ M) (ha : a < 5) (hb : b < 5) (hab : a ≠ b) (hQ : ∀ M' : jw_Mem, vs_M (sp_cos σ a b) M' → (∀ k, k < 41 → M' k = M k) → Q (sp_cor σ a b) M') : jw_M l (jw_g G) A f_M_compare [jw_a G 41, .int (nI a), .int (nI b)] M Q := by
  unfold sp_cos sp_cor at hQ
  refine e_M_compare (fun X hR => c_M_isNode_t ha ⟨fun hc => absurd hc (by decide), fun _ => c_M_isNode_t hb ⟨fun hc => absurd hc (by decide), fun _ => ⟨fun _ => c_M_reaches (up := s_up σ) (cu := s_cu σ) ha hb hC.2.2.1 hC.2.2.2.1 ⟨fun h1 => ?_, fun h1 => hR _ _ ?_⟩, fun hc => absurd ((nI_ne (by omega) (by omega)).mp hc) hab⟩⟩⟩)
  · rw [bI_n0] at h1
    rw [h1, if_pos rfl, if_pos rfl] at hQ
    have loop : ∀ k, k ≤ 32 → ∀ M' : jw_Mem, vs_M (sp_co σ a b k) M' → (∀ q, q < 41 → M' q = M q) → jw_X l X (jw_g G) A f_M_compare 136 [some (jw_a G 41), some (.int (nI a)), some (.int (nI b)), some (.int (nI (vs_parts (sp_cod σ a b)))), some (.int (nI k)), none, none, none] [] M' := by
      refine vs_up ?_ ?_
      · intro M' hC' ho
        exact k_M_compare_136 ⟨fun _ => hR _ _ (hQ M' hC' ho), fun hc => absurd (nI_le (a := 32) (Nat.le_refl _) (by omega)) hc⟩
      · intro k hk ih M' hC' ho
        have hok' := vs_ok_co (a := a) (b := b) hok k
        refine k_M_compare_136 ⟨fun hc => absurd hc (nI_ge (b := 32) hk (by omega)), fun _ => c_M_differ hok' hC' ha hb hk (fun M2 s2 => ⟨fun g => ?_, fun g => ?_⟩)⟩
        · rw [bI_0] at g
          rw [nI_1]
          refine ih M2 ?_ (fun q hq => (s2.1 q (by omega) (by omega) (by omega) (by omega)).trans (ho q hq))
          rw [co_s, g, if_neg (by decide)]
          exact vs_sm_M s2 hC'
        · rw [bI_n0] at g
          refine c_M_exchange hok' (vs_sm_M s2 hC') ha hb hab (fun M3 hC3 o3 => ?_)
          rw [nI_1]
          refine ih M3 ?_ (fun q hq => (o3 q hq).trans ((s2.1 q (by omega) (by omega) (by omega) (by omega)).trans (ho q hq)))
          rw [co_s, g, if_pos rfl]
          exact hC3
    have hd : ∀ k, k < 32 → sp_df σ a b k = sp_cod σ a b k := fun k hk => (co_df hk).symm
    refine c_M_level (n := 1) (s := 32) (P := 1) hok hC ha hb (by decide) rfl (by decide) rfl hd (fun M1 s1 => ?_)
    refine c_M_level (s := 16) (P := 2) hok (vs_sm_M s1 hC) ha hb (by decide) rfl (by decide) (by decide) hd (fun M2 s2 => ?_)
    have s12 := vs_sm_t s1 s2
    refine c_M_level (s := 8) (P := 4) hok (vs_sm_M s12 hC) ha hb (by decide) rfl (by decide) (by decide) hd (fun M3 s3 => ?_)
    have s13 := vs_sm_t s12 s3
    refine c_M_level (s := 4) (P := 8) hok (vs_sm_M s13 hC) ha hb (by decide) rfl (by decide) (by decide) hd (fun M4 s4 => ?_)
    have s14 := vs_sm_t s13 s4
    refine c_M_level (s := 2) (P := 16) hok (vs_sm_M s14 hC) ha hb (by decide) rfl (by decide) (by decide) hd (fun M5 s5 => ?_)
    have s15 := vs_sm_t s14 s5
    refine k_M_compare_39 ⟨fun _ => ?_, fun hc => absurd (by decide) hc⟩
    rw [← vs_parts_an]
    exact loop 0 (Nat.zero_le _) M5 (vs_sm_M s15 hC) (fun q hq => s15.1 q (by omega) (by omega) (by omega) (by omega))
  · rw [bI_0] at h1
    rw [h1] at hQ
    exact hQ M hC (fun _ _ => rfl)
