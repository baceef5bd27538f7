/-! The reference: shown, isFound, repair -/
theorem vs_any_s (p : Nat → Bool) (i : Nat) : (List.range (i + 1)).any p = ((List.range i).any p || p i) := by simp [List.range_succ]
theorem c_M_shown {l : Launch} {G : jw_G} {A : Nat → Prop} {M : jw_Mem} {Q : Int32 → jw_Mem → Prop} {hs : Nat → Nat → Bool} {hi : Nat → Nat → Option Nat} {T : List Nat} {v : Nat} (hhi : ∀ a u o, hi a u = some o → o < 5) (h49 : ∀ a u, a < 5 → u < 40 → M 49 (40 * a + u) = bI (hs a u)) (h50 : ∀ a u, a < 5 → u < 40 → M 50 (40 * a + u) = oM (hi a u)) (hA : vs_AM M T) (hT : T.length ≤ 5) (hT5 : ∀ k, k < T.length → T.getD k 0 < 5) (hv : v < 40) (hQ : Q (bI (vs_sh hs hi T v)) M) : jw_M l (jw_g G) A f_M_shown [jw_a G 41, .int (nI v)] M Q := by
  refine e_M_shown (fun X hR => ?_)
  have key : ∀ i, i ≤ T.length → jw_X l X (jw_g G) A f_M_shown 4 [some (jw_a G 41), some (.int (nI v)), some (.int (bI ((List.range i).any (fun t => hs (T.getD t 0) v || (hi (T.getD t 0) v).isSome)))), some (.int (nI i))] [] M := by
    refine vs_up ?_ ?_
    · refine k_M_shown_4 ⟨fun _ => hR _ _ hQ (bI_01 _), fun hc => absurd ?_ hc⟩
      rw [hA.1]
      exact nI_le (Nat.le_refl _) (by omega)
    · intro i hi2 ih
      have ht := hT5 i hi2
      rw [vs_any_s] at ih
      refine k_M_shown_4 ⟨fun hc => absurd hc ?_, fun _ => ⟨fun h1 => ?_, fun h1 => ⟨i, ⟨by omega, rfl⟩, 40 * T.getD i 0 + v, ⟨by omega, by rw [hA.2 i hi2]; exact nI_lin40 _ _⟩, fun h2 => ?_, fun h2 => ⟨i, ⟨by omega, rfl⟩, 40 * T.getD i 0 + v, ⟨by omega, by rw [hA.2 i hi2]; exact nI_lin40 _ _⟩, fun h3 => ?_, fun h3 => ?_⟩⟩⟩⟩
      · rw [hA.1]
        exact nI_ge hi2 (by omega)
      · rw [bI_n0] at h1
        rw [nI_1]
        rw [h1] at ih
        exact ih
      · rw [h49 _ v ht hv, bI_n0] at h2
        rw [nI_1]
        rw [h2, Bool.true_or, Bool.or_true] at ih
        exact ih
      · rw [bI_0] at h1
        rw [h49 _ v ht hv, bI_0] at h2
        rw [h50 _ v ht hv, oM_le (hhi _ v)] at h3
        rw [nI_1]
        rw [h1, h2, h3] at ih
        exact ih
      · rw [h50 _ v ht hv, oM_le (hhi _ v)] at h3
        rw [nI_1]
        rw [vs_nf h3, Bool.or_true, Bool.or_true] at ih
        exact ih
  exact key 0 (Nat.zero_le _)
theorem c_M_isFound {l : Launch} {G : jw_G} {A : Nat → Prop} {M : jw_Mem} {Q : Int32 → jw_Mem → Prop} {σ : vs_S} {T : List Nat} {key v : Nat} (hok : vs_ok σ) (h6 : M 41 6 = nI (s_md σ)) (h45 : ∀ u, u < 40 → M 45 u = s_ky σ u) (h48 : ∀ i, i < 200 → M 48 i = s_cl σ i) (h49 : ∀ a u, a < 5 → u < 40 → M 49 (40 * a + u) = bI (s_hs σ a u)) (h50 : ∀ a u, a < 5 → u < 40 → M 50 (40 * a + u) = oM (s_hi σ a u)) (hA : vs_AM M T) (hT : T.length ≤ 5) (hT5 : ∀ k, k < T.length → T.getD k 0 < 5) (hv : v < s_md σ) (hQ : Q (bI (vs_fo σ T key v)) M) : jw_M l (jw_g G) A f_M_isFound [jw_a G 41, .int (nI v), .int (nI key)] M Q := by
  have hmd := hok.2.2.1
  have hsh : ∀ u, u < 40 → ∀ Q' : Int32 → jw_Mem → Prop, Q' (bI (vs_sh (s_hs σ) (s_hi σ) T u)) M → jw_M l (jw_g G) A f_M_shown [jw_a G 41, .int (nI u)] M Q' := fun u hu Q' h => c_M_shown hok.2.2.2.2.1 h49 h50 hA hT hT5 hu h
  refine e_M_isFound (fun X hR => ⟨v, ⟨by omega, rfl⟩, fun h1 => ?_, fun h1 => hsh v (by omega) _ ⟨fun h2 => ?_, fun h2 => ?_⟩⟩)
  · rw [h45 v (by omega)] at h1
    rw [show vs_fo σ T key v = false by simp [vs_fo, vs_se, h1]] at hQ
    exact hR _ _ hQ (Or.inl rfl)
  · rw [h45 v (by omega)] at h1
    rw [bI_n0] at h2
    have hse : vs_se σ T key v = true := by simp [vs_se, h1, h2]
    have key2 : ∀ i, i ≤ s_md σ → (∀ w, w < i → (!(w == v) && vs_se σ T key w && blw (s_cl σ) v w) = false) → jw_X l X (jw_g G) A f_M_isFound 22 [some (jw_a G 41), some (.int (nI v)), some (.int (nI key)), some (.int (nI i))] [] M := by
      refine vs_up ?_ ?_
      · intro hno
        have hps : vs_ps σ T key v = false := vs_any_f hno
        rw [show vs_fo σ T key v = true by simp [vs_fo, hv, hse, hps]] at hQ
        refine k_M_isFound_22 ⟨fun _ => hR _ _ hQ (Or.inr rfl), fun hc => absurd ?_ hc⟩
        rw [h6]
        exact nI_le (Nat.le_refl _) (by omega)
      · intro i hi ih hno
        have st : (!(i == v) && vs_se σ T key i && blw (s_cl σ) v i) = false → jw_X l X (jw_g G) A f_M_isFound 22 [some (jw_a G 41), some (.int (nI v)), some (.int (nI key)), some (.int (nI i + 1))] [] M := by
          intro e
          rw [nI_1]
          exact ih (lt_s hno e)
        refine k_M_isFound_22 ⟨fun hc => absurd hc ?_, fun _ => ⟨fun h3 => st ?_, fun h3 => ⟨i, ⟨by omega, rfl⟩, fun h4 => st ?_, fun h4 => c_M_below (by omega) (by omega) ⟨fun h5 => st ?_, fun h5 => hsh i (by omega) _ ⟨fun h7 => st ?_, fun h7 => ?_⟩⟩⟩⟩⟩
        · rw [h6]
          exact nI_ge hi (by omega)
        · rw [nI_ne (by omega) (by omega)] at h3
          simp [h3]
        · rw [h45 i (by omega)] at h4
          simp [vs_se, h4]
        · rw [vs_blw_c h48 (by omega) (by omega), bI_0] at h5
          simp [h5]
        · rw [bI_0] at h7
          simp [vs_se, h7]
        · rw [nI_ne (by omega) (by omega)] at h3
          rw [h45 i (by omega)] at h4
          rw [vs_blw_c h48 (by omega) (by omega), bI_n0] at h5
          rw [bI_n0] at h7
          have hps : vs_ps σ T key v = true := vs_any_t hi (by simp [h3, vs_se, h4, h7, h5])
          rw [show vs_fo σ T key v = false by simp [vs_fo, hps]] at hQ
          exact hR _ _ hQ (Or.inl rfl)
    exact key2 0 (Nat.zero_le _) lt_0
  · rw [bI_0] at h2
    rw [show vs_fo σ T key v = false by simp [vs_fo, vs_se, h2]] at hQ
    exact hR _ _ hQ (Or.inl rfl)
theorem vs_cnt_md {fd : Nat → Bool} {md : Nat} (h : ∀ u, fd u = true → u < md) : ∀ n, vs_cnt fd (md + n) = vs_cnt fd md
  | 0 => rfl
  | n + 1 => by
    rw [← Nat.add_assoc, vs_cnt_s, vs_cnt_md h n, show fd (md + n) = false from Bool.eq_false_iff.mpr (fun z => by have := h _ z; omega)]
    rfl
theorem vs_cnt_40 {fd : Nat → Bool} {md : Nat} (h : ∀ u, fd u = true → u < md) (hm : md ≤ 40) : vs_cnt fd 40 = vs_cnt fd md := by
  have := vs_cnt_md h (40 - md)
  rwa [show md + (40 - md) = 40 by omega] at this
theorem vs_blw_r (cl : Nat → Int32) (u : Nat) : blw cl u u = true := vs_all_t (fun n _ => by simp)
/-- what it hasn't and then has is what isn't passed -/
theorem vs_new {h : Nat → Bool} {ky cl : Nat → Int32} {md u : Nat} (hu : u < md) : (!h u && vs_tk h ky cl md u u) = !vs_pas h ky cl md u := by
  unfold vs_tk
  cases hp : vs_pas h ky cl md u with
  | true => cases h u <;> simp
  | false =>
    have : h u = false := Bool.eq_false_iff.mpr (fun z => by
      have : vs_pas h ky cl md u = true := vs_any_t hu (by simp [vs_bes, z, vs_blw_r])
      rw [hp] at this
      cases this)
    simp [this]
theorem vs_M_rp {σ : vs_S} {M M' : jw_Mem} {n : Nat} (hC : vs_M σ M) (h : ∀ k, k ≠ 41 → M' k = M k) (h0 : ∀ j, j ≠ 19 → M' 41 j = M 41 j) (hn : M' 41 19 = nI n) : vs_M (w_rp σ n) M' := by
  obtain ⟨⟨a1, a2, a3⟩, xow, xup, xcu, xmd, ⟨f1, f2, f3, f4⟩, xhs, xhi, xs, xk, xc, ⟨xf, xl⟩, xrp⟩ := hC
  exact ⟨⟨(h0 0 (by decide)).trans a1, (h0 1 (by decide)).trans a2, (h0 2 (by decide)).trans a3⟩, fun p hp => by rw [h 44 (by omega)]; exact xow p hp, fun a ha => by rw [h 42 (by omega)]; exact xup a ha, fun a b ha hb => by rw [h 43 (by omega)]; exact xcu a b ha hb, (h0 6 (by decide)).trans xmd, ⟨fun u hu => by rw [h 45 (by omega)]; exact f1 u hu, fun u hu => by rw [h 46 (by omega)]; exact f2 u hu, fun u hu => by rw [h 47 (by omega)]; exact f3 u hu, fun u hu => by rw [h 48 (by omega)]; exact f4 u hu⟩, fun a u ha hu => by rw [h 49 (by omega)]; exact xhs a u ha hu, fun a u ha hu => by rw [h 50 (by omega)]; exact xhi a u ha hu, fun c hc => by rw [h 53 (by omega)]; exact xs c hc, fun c k hc hk => by rw [h 52 (by omega)]; exact xk c k hc hk, fun c k hc hk hx => by rw [h 54 (by omega)]; exact xc c k hc hk hx, ⟨(h0 18 (by decide)).trans xf, fun u hu hx => by rw [h 55 (by omega)]; exact xl u hu hx⟩, hn⟩
theorem c_M_repair {l : Launch} {G : jw_G} {A : Nat → Prop} {M : jw_Mem} {Q : Int32 → jw_Mem → Prop} {σ : vs_S} {mo hm : Nat} {r T : List Nat} {p : Nat → Bool} (hmo : mo ≤ 3) (e0 : s_mo σ = mo) (hmd : s_md σ ≤ 40) (hfd : ∀ u, s_fd σ u = true → u < s_md σ) (hC : vs_M σ M) (hL : vs_LM M r) (hA : vs_AM M T) (eT : vs_tg mo r p = T) (hh : vs_th mo r p = hm) (hrl : r.length ≤ 5) (hr5 : ∀ x, x ∈ r → x < 5) (hnd : r.Nodup)
    (hQ : ∀ M' : jw_Mem, vs_M (w_hs (w_rp σ (vs_rp (s_hs σ) (s_ky σ) (s_cl σ) (s_md σ) (s_fd σ) T hm)) (vs_sn (s_hs σ) (fun h => vs_tkA h (s_ky σ) (s_cl σ) (s_md σ) (s_fd σ) (s_md σ)) T hm)) M' → (∀ k, k < 41 → M' k = M k) → (M' 41 18 = M 41 18) → Q 0 M') : jw_M l (jw_g G) A f_M_repair [jw_a G 41] M Q := by
  have hTm : T.length ≤ mo := by rw [← eT]; exact vs_tg_mo _ _ _
  have hHl : hm ≤ T.length := by rw [← eT, ← hh]; exact vs_th_le _ _ _
  have hTin : ∀ j, j < T.length → T.getD j 0 ∈ r := fun j hj => by
    rw [← eT] at hj ⊢
    exact vs_tg_in hj
  have c45 : ∀ u, u < 40 → M 45 u = s_ky σ u := hC.2.2.2.2.2.1.1
  have c48 : ∀ u, u < 200 → M 48 u = s_cl σ u := hC.2.2.2.2.2.1.2.2.2
  have c49 : ∀ a u, a < 5 → u < 40 → M 49 (40 * a + u) = bI (s_hs σ a u) := hC.2.2.2.2.2.2.1
  have c18 : M 41 18 = nI (vs_cnt (s_fd σ) (s_md σ)) := by
    rw [← vs_cnt_40 hfd hmd]
    exact hC.2.2.2.2.2.2.2.2.2.2.2.1.1
  have c55 : ∀ u, u < 40 → s_fd σ u = true → M 55 (vs_cnt (s_fd σ) u) = nI u := hC.2.2.2.2.2.2.2.2.2.2.2.1.2
  have cle := vs_cnt_le (s_fd σ) (s_md σ)
  refine e_M_repair (fun X hR => ?_)
  -- how the memory may differ
  let S : jw_Mem → Prop := fun M' => (∀ k, k ≠ 41 → k ≠ 49 → M' k = M k) ∧ ∀ j, j ≠ 19 → M' 41 j = M 41 j
  have place : ∀ j, j < T.length → ∀ M' : jw_Mem, S M' → ∀ Q' : Int32 → jw_Mem → Prop, (∀ t, t < r.length → (t < mo ↔ j < hm) → Q' (nI t) M') → jw_M l (jw_g G) A f_M_placeIn [jw_a G 41, .int (M' 57 j)] M' Q' := by
    intro j hj M' hS Q' h
    rw [hS.1 57 (by decide) (by decide), hA.2 j hj]
    refine c_M_placeIn (r := r) (nd := T.getD j 0) hrl (by rw [hS.2 21 (by decide)]; exact hL.1) (fun t ht => ⟨by rw [hS.1 56 (by decide) (by decide)]; exact hL.2 t ht, hr5 _ (vs_getD_mem ht)⟩) (hr5 _ (hTin j hj)) (fun hno => ?_) (fun t ht e => h t ht ?_)
    · obtain ⟨i, hi, ei⟩ := vs_mem_getD (hTin j hj)
      exact absurd ei (hno i hi)
    · rw [← hh]
      refine vs_tg_home hnd (by rw [eT]; exact hj) ht ?_
      rw [eT]
      exact e
  -- one node: the found versions in their order
  have inner : ∀ i, i < T.length → ∀ (h0 : Nat → Nat → Bool) (n0 : Nat), (∀ M' : jw_Mem, S M' → M' 41 19 = nI (n0 + vs_tkN (h0 (T.getD i 0)) (s_ky σ) (s_cl σ) (s_md σ) (s_fd σ) (s_md σ)) → (∀ b u, b < 5 → u < 40 → M' 49 (40 * b + u) = bI (if b = T.getD i 0 then vs_tkA (h0 (T.getD i 0)) (s_ky σ) (s_cl σ) (s_md σ) (s_fd σ) (s_md σ) u else h0 b u)) → jw_X l X (jw_g G) A f_M_repair 7 [some (jw_a G 41), some (.int (nI (i + 1))), none, none] [] M') →
      ∀ w, w ≤ s_md σ → ∀ M' : jw_Mem, S M' → M' 41 19 = nI (n0 + vs_tkN (h0 (T.getD i 0)) (s_ky σ) (s_cl σ) (s_md σ) (s_fd σ) w) → (∀ b u, b < 5 → u < 40 → M' 49 (40 * b + u) = bI (if b = T.getD i 0 then vs_tkA (h0 (T.getD i 0)) (s_ky σ) (s_cl σ) (s_md σ) (s_fd σ) w u else h0 b u)) → jw_X l X (jw_g G) A f_M_repair 34 [some (jw_a G 41), some (.int (nI i)), some (.int (nI (vs_cnt (s_fd σ) w))), none] [] M' := by
    intro i hi h0 n0 next
    have ht : T.getD i 0 < 5 := hr5 _ (hTin i hi)
    generalize hnd2 : T.getD i 0 = nd at next ht
    refine vs_up ?_ ?_
    · intro M' hS h19 h49
      refine k_M_repair_34 ⟨fun _ => ?_, fun hc => absurd ?_ hc⟩
      · rw [nI_1]
        exact next M' hS h19 h49
      · rw [hS.2 18 (by decide), c18]
        exact nI_le (Nat.le_refl _) (by omega)
    · intro w hw ih M' hS h19 h49
      cases hf : s_fd σ w with
      | false =>
        rw [vs_cnt_s, hf] at ih
        simp only [vs_tkA, vs_tkN, hf] at ih
        exact ih M' hS h19 h49
      | true =>
        have hlt : vs_cnt (s_fd σ) w < vs_cnt (s_fd σ) (s_md σ) := by
          have := vs_cnt_m (s_fd σ) (show w + 1 ≤ s_md σ by omega)
          rw [vs_cnt_s, hf] at this
          exact this
        have e57 : M' 57 i = nI nd := by rw [hS.1 57 (by decide) (by decide), hA.2 i hi, hnd2]
        have e55 : M' 55 (vs_cnt (s_fd σ) w) = nI w := by rw [hS.1 55 (by decide) (by decide)]; exact c55 w (by omega) hf
        have hrow : ∀ u, u < 40 → M' 49 (40 * nd + u) = bI (vs_tkA (h0 nd) (s_ky σ) (s_cl σ) (s_md σ) (s_fd σ) w u) := fun u hu => by rw [h49 nd u ht hu, if_pos rfl]
        have hadr : 40 * nI nd + nI w = nI (40 * nd + w) := nI_lin40 _ _
        refine k_M_repair_34 ⟨fun hc => absurd hc ?_, fun _ => ⟨i, ⟨by omega, rfl⟩, vs_cnt (s_fd σ) w, ⟨by omega, rfl⟩, 40 * nd + w, ⟨by omega, by rw [e57, e55]; exact hadr⟩, i, ⟨by omega, rfl⟩, vs_cnt (s_fd σ) w, ⟨by omega, rfl⟩, ?_⟩⟩
        · rw [hS.2 18 (by decide), c18]
          exact nI_ge hlt (by omega)
        · rw [e57, e55]
          refine c_M_take (md := s_md σ) (h := vs_tkA (h0 nd) (s_ky σ) (s_cl σ) (s_md σ) (s_fd σ) w) ht (by omega) (by rw [hS.2 6 (by decide)]; exact hC.2.2.2.2.1) hmd hrow (fun M2 ho2 hx2 hr2 => ?_)
          have hr3 : ∀ u, u < 40 → M2 49 (40 * nd + u) = bI (vs_tk (vs_tkA (h0 nd) (s_ky σ) (s_cl σ) (s_md σ) (s_fd σ) w) (s_ky σ) (s_cl σ) (s_md σ) w u) := by
            intro u hu
            rw [hr2 u hu]
            congr 1
            exact vs_tk_c (fun u hu => by rw [hS.1 45 (by decide) (by decide)]; exact c45 u hu) (fun u hu => by rw [hS.1 48 (by decide) (by decide)]; exact c48 u hu) hmd (by omega) hu
          have hnew := vs_new (h := vs_tkA (h0 nd) (s_ky σ) (s_cl σ) (s_md σ) (s_fd σ) w) (ky := s_ky σ) (cl := s_cl σ) hw
          have fin : ∀ x, x = nI (n0 + vs_tkN (h0 nd) (s_ky σ) (s_cl σ) (s_md σ) (s_fd σ) (w + 1)) → jw_X l X (jw_g G) A f_M_repair 34 [some (jw_a G 41), some (.int (nI i)), some (.int (nI (vs_cnt (s_fd σ) w) + 1)), none] [] (jw_U M2 41 19 x) := by
            intro x hx
            have ec : vs_cnt (s_fd σ) (w + 1) = vs_cnt (s_fd σ) w + 1 := by rw [vs_cnt_s, hf]; rfl
            rw [nI_1, ← ec]
            refine ih _ ⟨fun k k1 k2 => (jw_Une k1).trans ((ho2 k k2).trans (hS.1 k k1 k2)), fun j hj => ?_⟩ ?_ (fun b u hb hu => ?_)
            · rw [jw_Uat, if_neg hj, ho2 41 (by decide)]
              exact hS.2 j hj
            · rw [jw_Uat, if_pos rfl]
              exact hx
            · rw [jw_Une (by decide)]
              by_cases e : b = nd
              · rw [if_pos e, e, hr3 u hu]
                show _ = bI ((if s_fd σ w then vs_tk _ _ _ _ w else _) u)
                rw [hf]
                rfl
              · rw [if_neg e, hx2 _ (by omega), h49 b u hb hu, if_neg e]
          have e19 : M2 41 19 = nI (n0 + vs_tkN (h0 nd) (s_ky σ) (s_cl σ) (s_md σ) (s_fd σ) w) := by rw [ho2 41 (by decide)]; exact h19
          have same : vs_pas (vs_tkA (h0 nd) (s_ky σ) (s_cl σ) (s_md σ) (s_fd σ) w) (s_ky σ) (s_cl σ) (s_md σ) w = true → vs_tkN (h0 nd) (s_ky σ) (s_cl σ) (s_md σ) (s_fd σ) (w + 1) = vs_tkN (h0 nd) (s_ky σ) (s_cl σ) (s_md σ) (s_fd σ) w := by
            intro e
            simp [vs_tkN, e]
          have more : vs_pas (vs_tkA (h0 nd) (s_ky σ) (s_cl σ) (s_md σ) (s_fd σ) w) (s_ky σ) (s_cl σ) (s_md σ) w = false → vs_tkN (h0 nd) (s_ky σ) (s_cl σ) (s_md σ) (s_fd σ) (w + 1) = vs_tkN (h0 nd) (s_ky σ) (s_cl σ) (s_md σ) (s_fd σ) w + 1 := by
            intro e
            simp [vs_tkN, e, hf]
          refine ⟨fun h1 => fin _ ?_, fun h1 => ⟨i, ⟨by omega, rfl⟩, vs_cnt (s_fd σ) w, ⟨by omega, rfl⟩, 40 * nd + w, ⟨by omega, by rw [ho2 57 (by decide), ho2 55 (by decide), e57, e55]; exact hadr⟩, fun h2 => fin _ ?_, fun h2 => fin _ ?_⟩⟩
          · rw [hrow w (by omega), bI_n0] at h1
            rw [h1] at hnew
            rw [e19, same (by simpa using hnew.symm)]
          · rw [hrow w (by omega), bI_0] at h1
            rw [hr3 w (by omega), bI_0] at h2
            rw [h1, h2] at hnew
            rw [e19, same (by simpa using hnew.symm)]
          · rw [hrow w (by omega), bI_0] at h1
            rw [hr3 w (by omega), bI_n0] at h2
            rw [h1, h2] at hnew
            rw [e19, more (by simpa using hnew.symm), nI_1, Nat.add_assoc]
  have outer : ∀ i, i ≤ T.length → ∀ M' : jw_Mem, S M' → M' 41 19 = nI (vs_rp (s_hs σ) (s_ky σ) (s_cl σ) (s_md σ) (s_fd σ) T (min i hm)) → (∀ b u, b < 5 → u < 40 → M' 49 (40 * b + u) = bI (vs_sn (s_hs σ) (fun h => vs_tkA h (s_ky σ) (s_cl σ) (s_md σ) (s_fd σ) (s_md σ)) T (min i hm) b u)) → jw_X l X (jw_g G) A f_M_repair 7 [some (jw_a G 41), some (.int (nI i)), none, none] [] M' := by
    refine vs_up ?_ ?_
    · intro M' hS h19 h49
      rw [Nat.min_eq_right hHl] at h19 h49
      have hC2 : vs_M (w_rp σ (vs_rp (s_hs σ) (s_ky σ) (s_cl σ) (s_md σ) (s_fd σ) T hm)) (fun k => if k = 41 then M' 41 else M k) := vs_M_rp hC (fun k hk => if_neg hk) (fun j hj => hS.2 j hj) h19
      refine k_M_repair_7 ⟨fun _ => hR _ (hQ M' (vs_M_hs hC2 (fun k hk => ?_) h49) (fun k hk => hS.1 k (by omega) (by omega)) (hS.2 18 (by decide))), fun hc => absurd ?_ hc⟩
      · show M' k = if k = 41 then M' 41 else M k
        by_cases e : k = 41
        · rw [if_pos e, e]
        · rw [if_neg e]
          exact hS.1 k e hk
      · rw [hS.2 23 (by decide), hA.1]
        exact nI_le (Nat.le_refl _) (by omega)
    · intro i hi ih M' hS h19 h49
      refine k_M_repair_7 ⟨fun hc => absurd hc ?_, fun _ => ⟨i, ⟨by omega, rfl⟩, place i hi M' hS _ (fun t ht hiff => ⟨fun hc => ?_, fun hc => ?_⟩)⟩⟩
      · rw [hS.2 23 (by decide), hA.1]
        exact nI_ge hi (by omega)
      · rw [hS.2 0 (by decide), hC.1.1, e0, nI_leI (by omega) (by omega)] at hc
        rw [nI_1]
        rw [show min (i + 1) hm = min i hm by omega] at ih
        exact ih M' hS h19 h49
      · rw [hS.2 0 (by decide), hC.1.1, e0, nI_leI (by omega) (by omega)] at hc
        have hlt : i < hm := by omega
        rw [show min (i + 1) hm = i + 1 by omega] at ih
        rw [show min i hm = i by omega] at h19 h49
        refine inner i hi (vs_sn (s_hs σ) (fun h => vs_tkA h (s_ky σ) (s_cl σ) (s_md σ) (s_fd σ) (s_md σ)) T i) (vs_rp (s_hs σ) (s_ky σ) (s_cl σ) (s_md σ) (s_fd σ) T i) (fun M2 hS2 g19 g49 => ih M2 hS2 g19 (fun b u hb hu => ?_)) 0 (Nat.zero_le _) M' hS h19 (fun b u hb hu => ?_)
        · rw [g49 b u hb hu]
          show _ = bI (va_up (α := Nat → Bool) _ (T.getD i 0) _ b u)
          unfold va_up
          by_cases e : b = T.getD i 0
          · rw [if_pos e, if_pos e]
          · rw [if_neg e, if_neg e]
        · rw [h49 b u hb hu]
          by_cases e : b = T.getD i 0
          · rw [if_pos e, e]
            rfl
          · rw [if_neg e]
  refine outer 0 (Nat.zero_le _) _ ⟨fun k k1 _ => jw_Une k1, fun j hj => by rw [jw_Uat, if_neg hj]⟩ ?_ (fun b u hb hu => ?_)
  · rw [Nat.zero_min, jw_Uat, if_pos rfl]
    rfl
  · rw [Nat.zero_min, jw_Une (by decide)]
    exact c49 b u hb hu
