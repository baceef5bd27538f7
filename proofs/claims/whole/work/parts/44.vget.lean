/-! The class: get -/
theorem vs_C_x {σ : vs_S} {M M' : jw_Mem} {f : Nat → Option Nat} {g : Nat → Nat → Int32} (hC : vs_C σ M) (h : ∀ k, (∀ c, c < 4 → k ≠ 26 + 2 * c ∧ k ≠ 27 + 2 * c) → M' k = M k) (hf : ∀ c, c < 4 → M' (26 + 2 * c) 1 = oI (f c)) (hg : ∀ c k, c < 4 → k < 5 → M' (27 + 2 * c) k = g c k) : vs_C (w_xc (w_xk σ f) g) M' := by
  obtain ⟨⟨a1, a2, a3⟩, xow, xup, xcu, xmd, ⟨f1, f2, f3, f4⟩, xhs, xhi, xxk, xxc, xfd, xrp⟩ := hC
  exact ⟨⟨by rw [h 1 (fun z hz => by omega)]; exact a1, by rw [h 0 (fun z hz => by omega)]; exact a2, by rw [h 0 (fun z hz => by omega)]; exact a3⟩, fun p hp => by rw [h 2 (fun z hz => by omega)]; exact xow p hp, fun a ha => by rw [h (10 + 3 * a) (fun z hz => by omega)]; exact xup a ha, fun a b ha hb => by rw [h 34 (fun z hz => by omega)]; exact xcu a b ha hb, by rw [h 4 (fun z hz => by omega)]; exact xmd, ⟨fun u hu => by rw [h 5 (fun z hz => by omega)]; exact f1 u hu, fun u hu => by rw [h 6 (fun z hz => by omega)]; exact f2 u hu, fun u hu => by rw [h 7 (fun z hz => by omega)]; exact f3 u hu, fun u hu => by rw [h 8 (fun z hz => by omega)]; exact f4 u hu⟩, fun a u ha hu => by rw [h (11 + 3 * a) (fun z hz => by omega)]; exact xhs a u ha hu, fun a u ha hu => by rw [h (12 + 3 * a) (fun z hz => by omega)]; exact xhi a u ha hu, hf, hg, fun u hu => by rw [h 35 (fun z hz => by omega)]; exact xfd u hu, by rw [h 0 (fun z hz => by omega)]; exact xrp⟩
theorem vs_C_rp {σ : vs_S} {M M' : jw_Mem} {n : Nat} (hC : vs_C σ M) (h : ∀ k, k ≠ 0 → M' k = M k) (h0 : ∀ j, j ≠ 8 → M' 0 j = M 0 j) (hn : M' 0 8 = nI n) : vs_C (w_rp σ n) M' := by
  obtain ⟨⟨a1, a2, a3⟩, xow, xup, xcu, xmd, ⟨f1, f2, f3, f4⟩, xhs, xhi, xxk, xxc, xfd, xrp⟩ := hC
  exact ⟨⟨by rw [h 1 (by omega)]; exact a1, (h0 5 (by decide)).trans a2, (h0 6 (by decide)).trans a3⟩, fun p hp => by rw [h 2 (by omega)]; exact xow p hp, fun a ha => by rw [h (10 + 3 * a) (by omega)]; exact xup a ha, fun a b ha hb => by rw [h 34 (by omega)]; exact xcu a b ha hb, by rw [h 4 (by omega)]; exact xmd, ⟨fun u hu => by rw [h 5 (by omega)]; exact f1 u hu, fun u hu => by rw [h 6 (by omega)]; exact f2 u hu, fun u hu => by rw [h 7 (by omega)]; exact f3 u hu, fun u hu => by rw [h 8 (by omega)]; exact f4 u hu⟩, fun a u ha hu => by rw [h (11 + 3 * a) (by omega)]; exact xhs a u ha hu, fun a u ha hu => by rw [h (12 + 3 * a) (by omega)]; exact xhi a u ha hu, fun c hc => by rw [h (26 + 2 * c) (by omega)]; exact xxk c hc, fun c z hc hz => by rw [h (27 + 2 * c) (by omega)]; exact xxc c z hc hz, fun u hu => by rw [h 35 (by omega)]; exact xfd u hu, hn⟩
/-- a version lies at some target -/
def vs_sh (hs : Nat → Nat → Bool) (hi : Nat → Nat → Option Nat) (T : List Nat) (u : Nat) : Bool := (List.range T.length).any (fun t => hs (T.getD t 0) u || (hi (T.getD t 0) u).isSome)
/-- seen: of the key, and at some target -/
def vs_se (σ : vs_S) (T : List Nat) (key u : Nat) : Bool := s_ky σ u == nI key && vs_sh (s_hs σ) (s_hi σ) T u
/-- passed by a seen one -/
def vs_ps (σ : vs_S) (T : List Nat) (key u : Nat) : Bool := (List.range (s_md σ)).any (fun w => !(w == u) && vs_se σ T key w && blw (s_cl σ) u w)
def vs_fo (σ : vs_S) (T : List Nat) (key u : Nat) : Bool := decide (u < s_md σ) && (vs_se σ T key u && !vs_ps σ T key u)
theorem c_V_isAtSomeTarget {l : Launch} {G : jw_G} {A : Nat → Prop} {M : jw_Mem} {Q : Int32 → jw_Mem → Prop} {σ : vs_S} {T : List Nat} {hm v : Nat} (hok : vs_ok σ) (hC : vs_C σ M) (hI : vs_AI M T hm) (hT : T.length ≤ 5) (hT5 : ∀ k, k < T.length → T.getD k 0 < 5) (hv : v < 40) (hQ : Q (bI (vs_sh (s_hs σ) (s_hi σ) T v)) M) : jw_M l (jw_g G) A f_V_isAtSomeTarget [jw_a G 0, .int (nI v)] M Q := by
  refine e_V_isAtSomeTarget (fun X hR => ?_)
  have key : ∀ i, i ≤ T.length → (∀ t, t < i → (s_hs σ (T.getD t 0) v || (s_hi σ (T.getD t 0) v).isSome) = false) → jw_X l X (jw_g G) A f_V_isAtSomeTarget 2 [some (jw_a G 0), some (.int (nI v)), some (.int (nI i)), none] [] M := by
    refine vs_up ?_ ?_
    · intro hno
      rw [show vs_sh (s_hs σ) (s_hi σ) T v = false from vs_any_f hno] at hQ
      refine k_V_isAtSomeTarget_2 ⟨fun _ => hR _ _ hQ (Or.inl rfl), fun hc => absurd ?_ hc⟩
      rw [hI.1]
      exact nI_le (Nat.le_refl _) (by omega)
    · intro i hi ih hno
      have ht := hT5 i hi
      have yes : (s_hs σ (T.getD i 0) v || (s_hi σ (T.getD i 0) v).isSome) = true → jw_R l X (jw_g G) A f_V_isAtSomeTarget 1 M := by
        intro e
        rw [show vs_sh (s_hs σ) (s_hi σ) T v = true from vs_any_t hi e] at hQ
        exact hR _ _ hQ (Or.inr rfl)
      refine k_V_isAtSomeTarget_2 ⟨fun hc => absurd hc ?_, fun _ => ⟨i, ⟨by omega, rfl⟩, T.getD i 0, ⟨ht, hI.2.2 i hi⟩, v, ⟨hv, rfl⟩, fun h1 => yes ?_, fun h1 => c_N_hasHintOf ht hv ?_⟩⟩
      · rw [hI.1]
        exact nI_ge hi (by omega)
      · rw [hC.2.2.2.2.2.2.1 _ v ht hv, bI_n0] at h1
        rw [h1]; rfl
      · rw [hC.2.2.2.2.2.2.1 _ v ht hv, bI_0] at h1
        rw [hC.2.2.2.2.2.2.2.1 _ v ht hv, oI_b (hok.2.2.2.2.1 _ v)]
        refine ⟨fun h2 => ?_, fun h2 => yes ?_⟩
        · rw [nI_1]
          exact ih (lt_s hno (by rw [h1, bI_0.mp h2]; rfl))
        · rw [h1, bI_n0.mp h2]; rfl
  exact key 0 (Nat.zero_le _) lt_0
theorem c_V_lookAtTargets {l : Launch} {G : jw_G} {A : Nat → Prop} {M : jw_Mem} {Q : Int32 → jw_Mem → Prop} {σ : vs_S} {T : List Nat} {hm key : Nat} (hok : vs_ok σ) (hC : vs_C σ M) (hI : vs_AI M T hm) (hT : T.length ≤ 5) (hT5 : ∀ k, k < T.length → T.getD k 0 < 5)
    (hQ : ∀ M' : jw_Mem, (∀ k, k ≠ 37 → M' k = M k) → (∀ u, u < s_md σ → M' 37 u = bI (vs_se σ T key u)) → Q 0 M') : jw_M l (jw_g G) A f_V_lookAtTargets [jw_a G 0, .int (nI key)] M Q := by
  have hmd := hok.2.2.1
  refine e_V_lookAtTargets (fun X hR => ?_)
  have key2 : ∀ i, i ≤ s_md σ → ∀ M' : jw_Mem, (∀ k, k ≠ 37 → M' k = M k) → (∀ u, u < i → M' 37 u = bI (vs_se σ T key u)) → jw_X l X (jw_g G) A f_V_lookAtTargets 2 [some (jw_a G 0), some (.int (nI key)), some (.int (nI i))] [] M' := by
    refine vs_up ?_ ?_
    · intro M' ho hr
      refine k_V_lookAtTargets_2 ⟨fun _ => hR _ (hQ M' ho hr), fun hc => absurd ?_ hc⟩
      rw [ho 4 (by decide), hC.2.2.2.2.1]
      exact nI_le (Nat.le_refl _) (by omega)
    · intro i hi ih M' ho hr
      have hC' : vs_C σ M' := vs_same_C ⟨fun k _ _ _ _ k37 _ _ _ => ho k k37, by rw [ho 0 (by decide)], by rw [ho 0 (by decide)], by rw [ho 0 (by decide)], by rw [ho 1 (by decide)]⟩ hC
      have hI' : vs_AI M' T hm := by unfold vs_AI; rw [ho 0 (by decide), ho 36 (by decide)]; exact hI
      have st : ∀ b : Bool, b = vs_se σ T key i → ∀ x, x = bI b → jw_X l X (jw_g G) A f_V_lookAtTargets 2 [some (jw_a G 0), some (.int (nI key)), some (.int (nI i + 1))] [] (jw_U M' 37 i x) := by
        intro b hb x hx
        rw [nI_1]
        refine ih _ (fun k hk => (jw_Une hk).trans (ho k hk)) (fun u hu => ?_)
        rw [jw_Uat]
        by_cases e : u = i
        · rw [if_pos e, hx, hb, e]
        · rw [if_neg e]
          exact hr u (by omega)
      refine k_V_lookAtTargets_2 ⟨fun hc => absurd hc ?_, fun _ => ⟨i, ⟨by omega, rfl⟩, fun h1 => ⟨i, ⟨by omega, rfl⟩, st false ?_ 0 rfl⟩, fun h1 => c_V_isAtSomeTarget hok hC' hI' hT hT5 (by omega) ⟨fun h2 => ⟨i, ⟨by omega, rfl⟩, st false ?_ 0 rfl⟩, fun h2 => ⟨i, ⟨by omega, rfl⟩, st true ?_ 1 rfl⟩⟩⟩⟩
      · rw [ho 4 (by decide), hC.2.2.2.2.1]
        exact nI_ge hi (by omega)
      · rw [hC'.2.2.2.2.2.1.1 i (by omega)] at h1
        simp [vs_se, h1]
      · rw [hC'.2.2.2.2.2.1.1 i (by omega)] at h1
        simp [vs_se, bI_0.mp h2]
      · rw [hC'.2.2.2.2.2.1.1 i (by omega)] at h1
        simp [vs_se, h1, bI_n0.mp h2]
  exact key2 0 (Nat.zero_le _) M (fun _ _ => rfl) (fun u hu => absurd hu (Nat.not_lt_zero u))
theorem c_V_isPassedBySeen {l : Launch} {G : jw_G} {A : Nat → Prop} {M : jw_Mem} {Q : Int32 → jw_Mem → Prop} {md v : Nat} {se : Nat → Bool} {cl : Nat → Int32} (hmd : md ≤ 40) (h4 : M 4 4 = nI md) (hcl : ∀ i, i < 200 → M 8 i = cl i) (hs : ∀ u, u < md → M 37 u = bI (se u)) (hv : v < md) (hQ : Q (bI ((List.range md).any (fun w => !(w == v) && se w && blw cl v w))) M) : jw_M l (jw_g G) A f_V_isPassedBySeen [jw_a G 0, .int (nI v)] M Q := by
  refine e_V_isPassedBySeen (fun X hR => ?_)
  have key : ∀ i, i ≤ md → (∀ w, w < i → (!(w == v) && se w && blw cl v w) = false) → jw_X l X (jw_g G) A f_V_isPassedBySeen 2 [some (jw_a G 0), some (.int (nI v)), some (.int (nI i))] [] M := by
    refine vs_up ?_ ?_
    · intro hno
      rw [vs_any_f hno] at hQ
      refine k_V_isPassedBySeen_2 ⟨fun _ => hR _ _ hQ (Or.inl rfl), fun hc => absurd ?_ hc⟩
      rw [h4]
      exact nI_le (Nat.le_refl _) (by omega)
    · intro i hi ih hno
      have st : (!(i == v) && se i && blw cl v i) = false → jw_X l X (jw_g G) A f_V_isPassedBySeen 2 [some (jw_a G 0), some (.int (nI v)), some (.int (nI i + 1))] [] M := by
        intro e
        rw [nI_1]
        exact ih (lt_s hno e)
      refine k_V_isPassedBySeen_2 ⟨fun hc => absurd hc ?_, fun _ => ⟨fun h1 => st ?_, fun h1 => ⟨i, ⟨by omega, rfl⟩, fun h2 => st ?_, fun h2 => c_G_isAtOrBelow (by omega) (by omega) ⟨fun h3 => st ?_, fun h3 => ?_⟩⟩⟩⟩
      · rw [h4]
        exact nI_ge hi (by omega)
      · rw [nI_ne (by omega) (by omega)] at h1
        simp [h1]
      · rw [hs i hi, bI_0] at h2
        simp [h2]
      · rw [vs_blw_c hcl (by omega) (by omega), bI_0] at h3
        simp [h3]
      · rw [nI_ne (by omega) (by omega)] at h1
        rw [hs i hi, bI_n0] at h2
        rw [vs_blw_c hcl (by omega) (by omega), bI_n0] at h3
        rw [vs_any_t hi (by simp [h1, h2, h3])] at hQ
        exact hR _ _ hQ (Or.inr rfl)
  exact key 0 (Nat.zero_le _) lt_0
theorem c_V_keepLatest {l : Launch} {G : jw_G} {A : Nat → Prop} {M : jw_Mem} {Q : Int32 → jw_Mem → Prop} {σ : vs_S} {T : List Nat} {key : Nat} (hok : vs_ok σ) (h4 : M 4 4 = nI (s_md σ)) (hcl : ∀ i, i < 200 → M 8 i = s_cl σ i) (hs : ∀ u, u < s_md σ → M 37 u = bI (vs_se σ T key u))
    (hQ : ∀ M' : jw_Mem, (∀ k, k ≠ 35 → M' k = M k) → (∀ u, u < s_md σ → M' 35 u = bI (vs_fo σ T key u)) → (∀ u, s_md σ ≤ u → M' 35 u = M 35 u) → Q (nI (vs_cnt (vs_fo σ T key) (s_md σ))) M') : jw_M l (jw_g G) A f_V_keepLatest [jw_a G 0] M Q := by
  have hmd := hok.2.2.1
  refine e_V_keepLatest (fun X hR => ?_)
  have key2 : ∀ i, i ≤ s_md σ → ∀ M' : jw_Mem, (∀ k, k ≠ 35 → M' k = M k) → (∀ u, u < i → M' 35 u = bI (vs_fo σ T key u)) → (∀ u, i ≤ u → M' 35 u = M 35 u) → jw_X l X (jw_g G) A f_V_keepLatest 4 [some (jw_a G 0), some (.int (nI (vs_cnt (vs_fo σ T key) i))), some (.int (nI i))] [] M' := by
    refine vs_up ?_ ?_
    · intro M' ho hr hr2
      refine k_V_keepLatest_4 ⟨fun _ => hR _ _ (hQ M' ho hr hr2), fun hc => absurd ?_ hc⟩
      rw [ho 4 (by decide), h4]
      exact nI_le (Nat.le_refl _) (by omega)
    · intro i hi ih M' ho hr hr2
      rw [vs_cnt_s] at ih
      have upd2 : ∀ x, x = bI (vs_fo σ T key i) → (∀ k, k ≠ 35 → jw_U M' 35 i x k = M k) ∧ (∀ u, u < i + 1 → jw_U M' 35 i x 35 u = bI (vs_fo σ T key u)) ∧ (∀ u, i + 1 ≤ u → jw_U M' 35 i x 35 u = M 35 u) := by
        intro x hx
        refine ⟨fun k hk => (jw_Une hk).trans (ho k hk), fun u hu => ?_, fun u hu => ?_⟩
        · rw [jw_Uat]
          by_cases e : u = i
          · rw [if_pos e, hx, e]
          · rw [if_neg e]
            exact hr u (by omega)
        · rw [jw_Uat, if_neg (by omega)]
          exact hr2 u (by omega)
      have st0 : vs_fo σ T key i = false → jw_X l X (jw_g G) A f_V_keepLatest 4 [some (jw_a G 0), some (.int (nI (vs_cnt (vs_fo σ T key) i))), some (.int (nI i + 1))] [] (jw_U M' 35 i 0) := by
        intro e
        obtain ⟨g1, g2, g3⟩ := upd2 0 (by rw [e]; rfl)
        rw [nI_1]
        rw [e] at ih
        exact ih _ g1 g2 g3
      have st1 : vs_fo σ T key i = true → jw_X l X (jw_g G) A f_V_keepLatest 4 [some (jw_a G 0), some (.int (nI (vs_cnt (vs_fo σ T key) i) + 1)), some (.int (nI i + 1))] [] (jw_U M' 35 i 1) := by
        intro e
        obtain ⟨g1, g2, g3⟩ := upd2 1 (by rw [e]; rfl)
        rw [nI_1, nI_1]
        rw [e] at ih
        exact ih _ g1 g2 g3
      have z0 : jw_U M' 35 i 0 35 i = 0 := by rw [jw_Uat, if_pos rfl]
      have z1 : ¬ jw_U M' 35 i 1 35 i = 0 := by rw [jw_Uat, if_pos rfl]; decide
      refine k_V_keepLatest_4 ⟨fun hc => absurd hc ?_, fun _ => ⟨i, ⟨by omega, rfl⟩, fun h1 => ⟨i, ⟨by omega, rfl⟩, i, ⟨by omega, rfl⟩, fun _ => st0 ?_, fun h9 => absurd z0 h9⟩, fun h1 => c_V_isPassedBySeen (md := s_md σ) (se := vs_se σ T key) (cl := s_cl σ) hmd (by rw [ho 4 (by decide)]; exact h4) (fun i hi => by rw [ho 8 (by decide)]; exact hcl i hi) (fun u hu => by rw [ho 37 (by decide)]; exact hs u hu) hi ⟨fun h2 => ⟨i, ⟨by omega, rfl⟩, i, ⟨by omega, rfl⟩, fun _ => st0 ?_, fun h9 => absurd z0 h9⟩, fun h2 => ⟨i, ⟨by omega, rfl⟩, i, ⟨by omega, rfl⟩, fun h9 => absurd h9 z1, fun _ => st1 ?_⟩⟩⟩⟩
      · rw [ho 4 (by decide), h4]
        exact nI_ge hi (by omega)
      · rw [ho 37 (by decide), hs i hi, bI_0] at h1
        simp [vs_fo, h1]
      · have h3 : vs_ps σ T key i = true := bI_n0.mp h2
        simp [vs_fo, h3]
      · rw [ho 37 (by decide), hs i hi, bI_n0] at h1
        have h3 : vs_ps σ T key i = false := bI_0.mp h2
        simp [vs_fo, h1, h3, hi]
  exact key2 0 (Nat.zero_le _) M (fun _ _ => rfl) (fun u hu => absurd hu (Nat.not_lt_zero u)) (fun _ _ => rfl)
/-- how often versions were brought to nodes -/
def vs_rp (hs : Nat → Nat → Bool) (ky cl : Nat → Int32) (md : Nat) (row : Nat → Bool) (T : List Nat) : Nat → Nat
  | 0 => 0
  | k + 1 => vs_rp hs ky cl md row T k + vs_tkN (vs_sn hs (fun h => vs_tkA h ky cl md row md) T k (T.getD k 0)) ky cl md row md
theorem vs_pas_h {h h' : Nat → Bool} {ky cl : Nat → Int32} (e : ∀ u, u < 40 → h u = h' u) {md v : Nat} (hmd : md ≤ 40) : vs_pas h ky cl md v = vs_pas h' ky cl md v := vs_any_c (fun u hu => by unfold vs_bes; rw [e u (by omega)])
theorem vs_tk_h {h h' : Nat → Bool} {ky cl : Nat → Int32} (e : ∀ u, u < 40 → h u = h' u) {md v u : Nat} (hmd : md ≤ 40) (hv : v < 40) (hu : u < 40) : vs_tk h ky cl md v u = vs_tk h' ky cl md v u := by
  unfold vs_tk vs_cut
  rw [vs_pas_h e hmd, e u hu]
theorem vs_tkA_c {h : Nat → Bool} {ky ky' cl cl' : Nat → Int32} {row : Nat → Bool} (hk : ∀ u, u < 40 → ky u = ky' u) (hc : ∀ i, i < 200 → cl i = cl' i) {md : Nat} (hmd : md ≤ 40) : ∀ i, i ≤ md → ∀ u, u < 40 → vs_tkA h ky cl md row i u = vs_tkA h ky' cl' md row i u
  | 0, _, u, _ => rfl
  | i + 1, hi, u, hu => by
    have ih := vs_tkA_c (h := h) (row := row) hk hc hmd i (by omega)
    show (if row i then vs_tk (vs_tkA h ky cl md row i) ky cl md i else vs_tkA h ky cl md row i) u = (if row i then vs_tk (vs_tkA h ky' cl' md row i) ky' cl' md i else vs_tkA h ky' cl' md row i) u
    cases row i with
    | false => exact ih u hu
    | true =>
      show vs_tk _ ky cl md i u = vs_tk _ ky' cl' md i u
      rw [vs_tk_c hk hc hmd (by omega) hu]
      exact vs_tk_h ih hmd (by omega) hu
theorem vs_tkN_c {h : Nat → Bool} {ky ky' cl cl' : Nat → Int32} {row : Nat → Bool} (hk : ∀ u, u < 40 → ky u = ky' u) (hc : ∀ i, i < 200 → cl i = cl' i) {md : Nat} (hmd : md ≤ 40) : ∀ i, i ≤ md → vs_tkN h ky cl md row i = vs_tkN h ky' cl' md row i
  | 0, _ => rfl
  | i + 1, hi => by
    have ih := vs_tkN_c (h := h) (row := row) hk hc hmd i (by omega)
    have ihA := vs_tkA_c (h := h) (row := row) hk hc hmd i (by omega)
    unfold vs_tkN
    rw [ih, vs_pas_c hk hc hmd (show i < 40 by omega), vs_pas_h ihA hmd]
