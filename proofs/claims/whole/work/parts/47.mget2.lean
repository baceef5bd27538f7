/-! The reference: get -/
theorem vs_M_fd {σ : vs_S} {M M' : jw_Mem} {f : Nat → Bool} (hC : vs_M σ M) (h : ∀ k, k ≠ 41 → k ≠ 55 → M' k = M k) (h0 : ∀ j, j ≠ 18 → M' 41 j = M 41 j) (h18 : M' 41 18 = nI (vs_cnt f 40)) (h55 : ∀ u, u < 40 → f u = true → M' 55 (vs_cnt f u) = nI u) : vs_M (w_fd σ f) M' := by
  obtain ⟨⟨a1, a2, a3⟩, xow, xup, xcu, xmd, ⟨f1, f2, f3, f4⟩, xhs, xhi, xs, xk, xc, ⟨xf, xl⟩, xrp⟩ := hC
  exact ⟨⟨(h0 0 (by decide)).trans a1, (h0 1 (by decide)).trans a2, (h0 2 (by decide)).trans a3⟩, fun p hp => by rw [h 44 (by omega) (by omega)]; exact xow p hp, fun a ha => by rw [h 42 (by omega) (by omega)]; exact xup a ha, fun a b ha hb => by rw [h 43 (by omega) (by omega)]; exact xcu a b ha hb, (h0 6 (by decide)).trans xmd, ⟨fun u hu => by rw [h 45 (by omega) (by omega)]; exact f1 u hu, fun u hu => by rw [h 46 (by omega) (by omega)]; exact f2 u hu, fun u hu => by rw [h 47 (by omega) (by omega)]; exact f3 u hu, fun u hu => by rw [h 48 (by omega) (by omega)]; exact f4 u hu⟩, fun a u ha hu => by rw [h 49 (by omega) (by omega)]; exact xhs a u ha hu, fun a u ha hu => by rw [h 50 (by omega) (by omega)]; exact xhi a u ha hu, fun c hc => by rw [h 53 (by omega) (by omega)]; exact xs c hc, fun c k hc hk => by rw [h 52 (by omega) (by omega)]; exact xk c k hc hk, fun c k hc hk hx => by rw [h 54 (by omega) (by omega)]; exact xc c k hc hk hx, ⟨h18, h55⟩, (h0 19 (by decide)).trans xrp⟩
theorem vs_M_x {σ : vs_S} {M M' : jw_Mem} {f : Nat → Option Nat} {g : Nat → Nat → Int32} (hC : vs_M σ M) (h : ∀ k, k ≠ 52 → k ≠ 53 → k ≠ 54 → M' k = M k) (h53 : ∀ c, c < 4 → M' 53 c = bI (f c).isSome) (h52 : ∀ c k, c < 4 → f c = some k → M' 52 c = nI k) (h54 : ∀ c k, c < 4 → k < 5 → f c ≠ none → M' 54 (5 * c + k) = g c k) : vs_M (w_xc (w_xk σ f) g) M' := by
  obtain ⟨⟨a1, a2, a3⟩, xow, xup, xcu, xmd, ⟨f1, f2, f3, f4⟩, xhs, xhi, xs, xk, xc, ⟨xf, xl⟩, xrp⟩ := hC
  have h41 : M' 41 = M 41 := h 41 (by decide) (by decide) (by decide)
  exact ⟨⟨by rw [h41]; exact a1, by rw [h41]; exact a2, by rw [h41]; exact a3⟩, fun p hp => by rw [h 44 (by omega) (by omega) (by omega)]; exact xow p hp, fun a ha => by rw [h 42 (by omega) (by omega) (by omega)]; exact xup a ha, fun a b ha hb => by rw [h 43 (by omega) (by omega) (by omega)]; exact xcu a b ha hb, by rw [h41]; exact xmd, ⟨fun u hu => by rw [h 45 (by omega) (by omega) (by omega)]; exact f1 u hu, fun u hu => by rw [h 46 (by omega) (by omega) (by omega)]; exact f2 u hu, fun u hu => by rw [h 47 (by omega) (by omega) (by omega)]; exact f3 u hu, fun u hu => by rw [h 48 (by omega) (by omega) (by omega)]; exact f4 u hu⟩, fun a u ha hu => by rw [h 49 (by omega) (by omega) (by omega)]; exact xhs a u ha hu, fun a u ha hu => by rw [h 50 (by omega) (by omega) (by omega)]; exact xhi a u ha hu, h53, h52, h54, ⟨by rw [h41]; exact xf, fun u hu hx => by rw [h 55 (by omega) (by omega) (by omega)]; exact xl u hu hx⟩, by rw [h41]; exact xrp⟩
theorem get1_mo {σ : vs_S} {a key c : Nat} : s_mo (sp_get1 σ a key c) = s_mo σ := by unfold sp_get1; rw [sw_mo_xc, sw_mo_xk, sw_mo_fd]
theorem get1_md {σ : vs_S} {a key c : Nat} : s_md (sp_get1 σ a key c) = s_md σ := by unfold sp_get1; rw [sw_md_xc, sw_md_xk, sw_md_fd]
theorem get1_ky {σ : vs_S} {a key c : Nat} : s_ky (sp_get1 σ a key c) = s_ky σ := by unfold sp_get1; rw [sw_ky_xc, sw_ky_xk, sw_ky_fd]
theorem get1_cl {σ : vs_S} {a key c : Nat} : s_cl (sp_get1 σ a key c) = s_cl σ := by unfold sp_get1; rw [sw_cl_xc, sw_cl_xk, sw_cl_fd]
theorem get1_hs {σ : vs_S} {a key c : Nat} : s_hs (sp_get1 σ a key c) = s_hs σ := by unfold sp_get1; rw [sw_hs_xc, sw_hs_xk, sw_hs_fd]
theorem get1_fd {σ : vs_S} {a key c : Nat} : s_fd (sp_get1 σ a key c) = sp_fo σ a key := by unfold sp_get1; rw [sw_fd_xc, sw_fd_xk, sw_fd_fd]
theorem sp_fo_lt {σ : vs_S} {a key u : Nat} (h : sp_fo σ a key u = true) : u < s_md σ := by
  unfold sp_fo vs_fo at h
  simp only [Bool.and_eq_true, decide_eq_true_eq] at h
  exact h.1
theorem c_M_get_f {l : Launch} {G : jw_G} {A : Nat → Prop} {M : jw_Mem} {Q : Int32 → jw_Mem → Prop} {x1 x2 x3 : Int32} (h : vs_out x1 5 ∨ vs_out x2 32 ∨ vs_out x3 4) (hQ : Q (-1) M) : jw_M l (jw_g G) A f_M_get [jw_a G 41, .int x1, .int x2, .int x3] M Q := by
  refine e_M_get (fun X hR => ?_)
  rcases vs_io x1 (n := 5) (by decide) with h1 | ⟨a, ha, rfl⟩
  · exact c_M_isNode_f h1 ⟨fun _ => hR _ _ hQ, fun hc => absurd rfl hc⟩
  · refine c_M_isNode_t ha ⟨fun _ => hR _ _ hQ, fun _ => ?_⟩
    rcases vs_io x2 (n := 32) (by decide) with h2 | ⟨p, hp, rfl⟩
    · exact c_M_isKey_f h2 ⟨fun _ => hR _ _ hQ, fun hc => absurd rfl hc⟩
    · refine c_M_isKey_t hp ⟨fun _ => hR _ _ hQ, fun _ => ⟨fun _ => hR _ _ hQ, fun h3 => ⟨fun h4 => ?_, fun _ => hR _ _ hQ⟩⟩⟩
      rcases vs_io x3 (n := 4) (by decide) with h5 | ⟨c, hc, rfl⟩
      · rcases h5 with h5 | h5
        · exact absurd h5 h3
        · exfalso
          have a1 := Int32.le_iff_toInt_le.mp h5
          have a2 := Int32.le_iff_toInt_le.mp h4
          rw [nI_toInt (by decide)] at a1
          have a3 : (3 : Int32).toInt = 3 := by decide
          omega
      · exact absurd h (fun z => z.elim (vs_out_n ha) (fun z => z.elim (vs_out_n hp) (vs_out_n hc)))
theorem c_M_get {l : Launch} {G : jw_G} {A : Nat → Prop} {M : jw_Mem} {Q : Int32 → jw_Mem → Prop} {σ : vs_S} {a key c : Nat} (hok : vs_ok σ) (hC : vs_M σ M) (ha : a < 5) (hk : key < 32) (hc : c < 4)
    (hQ : ∀ M' : jw_Mem, vs_M (sp_gets σ a key c) M' → (∀ k, k < 41 → M' k = M k) → Q (sp_getr σ a key) M') : jw_M l (jw_g G) A f_M_get [jw_a G 41, .int (nI a), .int (nI key), .int (nI c)] M Q := by
  have hmd := hok.2.2.1
  have how := hok.2.2.2.1
  have hup := hC.2.2.1 a ha
  have hrd := hok.1.2.1
  have hmo := hok.2.1
  have hrl := vs_row_len how 16 (key := key)
  have hr5 := vs_row_lt how 16 (key := key)
  have hnd : (vs_row (s_ow σ) key 16).Nodup := vs_row_nd 16
  have hTl : (sp_T σ a key).length ≤ s_mo σ := vs_tg_mo _ _ _
  have hT5 : ∀ k, k < (sp_T σ a key).length → (sp_T σ a key).getD k 0 < 5 := fun k hk => hr5 _ (vs_tg_in hk)
  have cle := vs_cnt_le (sp_fo σ a key) (s_md σ)
  refine e_M_get (fun X hR => c_M_isNode_t ha ⟨fun hc => absurd hc (by decide), fun _ => c_M_isKey_t hk ⟨fun hc => absurd hc (by decide), fun _ => ⟨fun hc => absurd hc (nI_pos (by omega)), fun _ => ⟨fun _ => ⟨a, ⟨ha, rfl⟩, fun hu => ?_, fun hu => hR _ _ ?_⟩, fun hn => absurd (nI_le (a := c) (b := 3) (by omega) (by omega)) hn⟩⟩⟩⟩)
  · rw [hup, bI_0] at hu
    have hu2 : s_up σ a = true := by simpa using hu
    have n1 : ¬ s_up σ a = false := by rw [hu2]; decide
    refine c_M_aim hok hC ha hk (fun M3 hs hL hI => ?_)
    have hC3 := vs_sm_M hs hC
    have h41 : ∀ q, q < 41 → M3 q = M q := fun q hq => hs.1 q (by omega) (by omega) (by omega) (by omega)
    have hI' : vs_AM M3 (sp_T σ a key) := hI
    refine ⟨fun hw => ?_, fun hw => hR _ _ ?_⟩
    · rw [hC3.1.2.1, hI'.1, nI_leI (by omega) (by omega)] at hw
      have e1 : sp_gets σ a key c = sp_get2 σ a key c := by
        unfold sp_gets
        rw [if_neg n1, if_neg (show ¬ (sp_T σ a key).length < s_rd σ by omega)]
      have e2 : sp_getr σ a key = nI (vs_cnt (sp_fo σ a key) (s_md σ)) := by
        unfold sp_getr
        rw [if_neg n1, if_neg (show ¬ (sp_T σ a key).length < s_rd σ by omega)]
      rw [e1, e2] at hQ
      -- the context, and the repair
      have ctx : ∀ M4 : jw_Mem, vs_M (w_fd σ (sp_fo σ a key)) M4 → (∀ q, q < 41 → M4 q = M q) → vs_LM M4 (vs_row (s_ow σ) key 16) → vs_AM M4 (sp_T σ a key) → ∀ k, k ≤ 5 → ∀ M' : jw_Mem, (∀ q, q ≠ 52 → q ≠ 53 → q ≠ 54 → M' q = M4 q) → (∀ j, M' 53 j = if j = c then 1 else M4 53 j) → (∀ j, M' 52 j = if j = c then nI key else M4 52 j) → (∀ i, M' 54 i = if 5 * c ≤ i ∧ i < 5 * c + k then vs_mxr (s_cl σ) (sp_fo σ a key) (s_md σ) (i - 5 * c) else M4 54 i) → jw_X l X (jw_g G) A f_M_get 128 [some (jw_a G 41), some (.int (nI a)), some (.int (nI key)), some (.int (nI c)), some (.int (nI k)), none, none, none] [] M' := by
        intro M4 hC4 h4l hL4 hA4
        have c18 : M4 41 18 = nI (vs_cnt (sp_fo σ a key) (s_md σ)) := by
          rw [← vs_cnt_40 (fun u hu => sp_fo_lt hu) hmd]
          exact hC4.2.2.2.2.2.2.2.2.2.2.2.1.1
        have c55 : ∀ u, u < 40 → sp_fo σ a key u = true → M4 55 (vs_cnt (sp_fo σ a key) u) = nI u := hC4.2.2.2.2.2.2.2.2.2.2.2.1.2
        have c48 : ∀ i, i < 200 → M4 48 i = s_cl σ i := hC4.2.2.2.2.2.1.2.2.2
        have d53 : ∀ j, j < 4 → M4 53 j = bI (s_xk σ j).isSome := hC4.2.2.2.2.2.2.2.2.1
        have d52 : ∀ j k, j < 4 → s_xk σ j = some k → M4 52 j = nI k := hC4.2.2.2.2.2.2.2.2.2.1
        have d54 : ∀ j k, j < 4 → k < 5 → s_xk σ j ≠ none → M4 54 (5 * j + k) = s_xc σ j k := hC4.2.2.2.2.2.2.2.2.2.2.1
        refine vs_up ?_ ?_
        · intro M' ho g53 g52 g54
          have hC5 : vs_M (sp_get1 σ a key c) M' := by
            refine vs_M_x hC4 ho (fun j hj => ?_) (fun j k hj hx => ?_) (fun j k hj hk2 hx => ?_)
            · rw [g53 j]
              unfold va_up
              by_cases e : j = c
              · rw [if_pos e, if_pos e]
                rfl
              · rw [if_neg e, if_neg e]
                exact d53 j hj
            · rw [g52 j]
              unfold va_up at hx
              by_cases e : j = c
              · rw [if_pos e] at hx ⊢
                cases hx
                rfl
              · rw [if_neg e] at hx ⊢
                exact d52 j k hj hx
            · rw [g54]
              show _ = va_up (α := Nat → Int32) _ c _ j k
              unfold va_up at hx ⊢
              by_cases e : j = c
              · rw [if_pos e, if_pos (by omega), e, show 5 * c + k - 5 * c = k by omega]
              · rw [if_neg e] at hx ⊢
                rw [if_neg (by omega)]
                exact d54 j k hj hk2 hx
          have e41 : M' 41 = M4 41 := ho 41 (by decide) (by decide) (by decide)
          refine k_M_get_128 ⟨fun _ => ?_, fun hc => absurd (nI_le (a := 5) (Nat.le_refl _) (by omega)) hc⟩
          refine c_M_repair (σ := sp_get1 σ a key c) (mo := s_mo σ) (hm := sp_H σ a key) (r := vs_row (s_ow σ) key 16) (T := sp_T σ a key) (p := vs_rch (s_up σ) (s_cu σ) a) hmo get1_mo (by rw [get1_md]; exact hmd) (fun u hu => by rw [get1_fd] at hu; rw [get1_md]; exact sp_fo_lt hu) hC5 (by unfold vs_LM; rw [e41, ho 56 (by decide) (by decide) (by decide)]; exact hL4) (by unfold vs_AM; rw [e41, ho 57 (by decide) (by decide) (by decide)]; exact hA4) rfl rfl hrl hr5 hnd (fun M6 hC6 ho6 h18 => ?_)
          rw [h18, e41, c18]
          rw [get1_md, get1_ky, get1_cl, get1_hs, get1_fd] at hC6
          exact hR _ _ (hQ M6 hC6 (fun k hk => by rw [ho6 k hk, ho k (by omega) (by omega) (by omega)]; exact h4l k hk))
        · intro k hk2 ih M' ho g53 g52 g54
          refine k_M_get_128 ⟨fun hc => absurd hc (nI_ge (b := 5) hk2 (by omega)), fun _ => ?_⟩
          have e41 : M' 41 = M4 41 := ho 41 (by decide) (by decide) (by decide)
          have e48 : M' 48 = M4 48 := ho 48 (by decide) (by decide) (by decide)
          have e55 : M' 55 = M4 55 := ho 55 (by decide) (by decide) (by decide)
          have mxl : ∀ w, w ≤ s_md σ → jw_X l X (jw_g G) A f_M_get 140 [some (jw_a G 41), some (.int (nI a)), some (.int (nI key)), some (.int (nI c)), some (.int (nI k)), some (.int (vs_mxr (s_cl σ) (sp_fo σ a key) w k)), some (.int (nI (vs_cnt (sp_fo σ a key) w))), none] [] M' := by
            refine vs_up ?_ ?_
            · refine k_M_get_140 ⟨fun _ => ⟨5 * c + k, ⟨by omega, nI_lin5 _ _⟩, ?_⟩, fun hc => absurd ?_ hc⟩
              · rw [nI_1]
                refine ih _ (fun q q1 q2 q3 => (jw_Une q3).trans (ho q q1 q2 q3)) (fun j => by rw [jw_Une (by decide)]; exact g53 j) (fun j => by rw [jw_Une (by decide)]; exact g52 j) (fun i => ?_)
                rw [jw_Uat, g54 i]
                by_cases e : i = 5 * c + k
                · rw [if_pos e, if_pos (by omega), show i - 5 * c = k by omega]
                · rw [if_neg e]
                  by_cases e2 : 5 * c ≤ i ∧ i < 5 * c + k
                  · rw [if_pos e2, if_pos (by omega)]
                  · rw [if_neg e2, if_neg (by omega)]
              · rw [e41, c18]
                exact nI_le (Nat.le_refl _) (by omega)
            · intro w hw ih2
              cases hf : sp_fo σ a key w with
              | false =>
                rw [vs_cnt_s, hf] at ih2
                simp only [vs_mxr, hf] at ih2
                exact ih2
              | true =>
                have hlt : vs_cnt (sp_fo σ a key) w < vs_cnt (sp_fo σ a key) (s_md σ) := by
                  have := vs_cnt_m (sp_fo σ a key) (show w + 1 ≤ s_md σ by omega)
                  rw [vs_cnt_s, hf] at this
                  exact this
                rw [vs_cnt_s, hf] at ih2
                simp only [vs_mxr, hf, if_true, vs_mx] at ih2
                have e8 : M' 48 (5 * w + k) = s_cl σ (5 * w + k) := by rw [e48]; exact c48 _ (by omega)
                refine k_M_get_140 ⟨fun hc => absurd hc ?_, fun _ => ⟨vs_cnt (sp_fo σ a key) w, ⟨by omega, rfl⟩, 5 * w + k, ⟨by omega, by rw [e55, c55 w (by omega) hf]; exact nI_lin5 _ _⟩, fun h1 => ?_, fun h1 => ?_⟩⟩
                · rw [e41, c18]
                  exact nI_ge hlt (by omega)
                · rw [e8] at h1
                  rw [nI_1]
                  rw [if_neg (Int32.not_lt.mpr h1)] at ih2
                  exact ih2
                · rw [e8] at h1 ⊢
                  rw [nI_1]
                  rw [if_pos (Int32.not_le.mp h1)] at ih2
                  exact ih2
          exact mxl 0 (Nat.zero_le _)
      have find : ∀ i, i ≤ s_md σ → ∀ M' : jw_Mem, (∀ q, q ≠ 41 → q ≠ 55 → M' q = M3 q) → (∀ j, j ≠ 18 → M' 41 j = M3 41 j) → M' 41 18 = nI (vs_cnt (sp_fo σ a key) i) → (∀ u, u < i → sp_fo σ a key u = true → M' 55 (vs_cnt (sp_fo σ a key) u) = nI u) → jw_X l X (jw_g G) A f_M_get 65 [some (jw_a G 41), some (.int (nI a)), some (.int (nI key)), some (.int (nI c)), some (.int (nI i)), none, none, none] [] M' := by
        refine vs_up ?_ ?_
        · intro M' ho h0 h18 h55
          have hC4 : vs_M (w_fd σ (sp_fo σ a key)) M' := by
            refine vs_M_fd hC3 ho h0 ?_ (fun u hu hx => h55 u (sp_fo_lt hx) hx)
            rw [vs_cnt_40 (fun u hu => sp_fo_lt hu) hmd]
            exact h18
          refine k_M_get_65 ⟨fun _ => ⟨c, ⟨hc, rfl⟩, c, ⟨hc, rfl⟩, ?_⟩, fun hc => absurd ?_ hc⟩
          · refine ctx M' hC4 (fun q hq => (ho q (by omega) (by omega)).trans (h41 q hq)) (by unfold vs_LM; rw [h0 21 (by decide), ho 56 (by decide) (by decide)]; exact hL) (by unfold vs_AM; rw [h0 23 (by decide), ho 57 (by decide) (by decide)]; exact hI') 0 (Nat.zero_le _) _ (fun q q1 q2 q3 => (jw_Une q1).trans (jw_Une q2)) (fun j => ?_) (fun j => ?_) (fun i => ?_)
            · rw [jw_Une (by decide), jw_Uat]
            · rw [jw_Uat, jw_Une (by decide)]
            · rw [jw_Une (by decide), jw_Une (by decide), if_neg (by omega)]
          · rw [h0 6 (by decide), hC3.2.2.2.2.1]
            exact nI_le (Nat.le_refl _) (by omega)
        · intro i hi ih M' ho h0 h18 h55
          have e45 : M' 45 = M3 45 := ho 45 (by decide) (by decide)
          have e48 : M' 48 = M3 48 := ho 48 (by decide) (by decide)
          have e49 : M' 49 = M3 49 := ho 49 (by decide) (by decide)
          have e50 : M' 50 = M3 50 := ho 50 (by decide) (by decide)
          have cl2 := vs_cnt_le (sp_fo σ a key) i
          refine k_M_get_65 ⟨fun hc => absurd hc ?_, fun _ => c_M_isFound (σ := σ) (T := sp_T σ a key) hok (by rw [h0 6 (by decide)]; exact hC3.2.2.2.2.1) (by rw [e45]; exact hC3.2.2.2.2.2.1.1) (by rw [e48]; exact hC3.2.2.2.2.2.1.2.2.2) (by rw [e49]; exact hC3.2.2.2.2.2.2.1) (by rw [e50]; exact hC3.2.2.2.2.2.2.2.1) (by unfold vs_AM; rw [h0 23 (by decide), ho 57 (by decide) (by decide)]; exact hI') (by omega) hT5 hi ⟨fun h1 => ?_, fun h1 => ⟨vs_cnt (sp_fo σ a key) i, ⟨by omega, h18⟩, ?_⟩⟩⟩
          · rw [h0 6 (by decide), hC3.2.2.2.2.1]
            exact nI_ge hi (by omega)
          · have hf : sp_fo σ a key i = false := bI_0.mp h1
            rw [nI_1]
            rw [vs_cnt_s, hf] at ih
            refine ih M' ho h0 h18 (fun u hu hx => h55 u ?_ hx)
            have : u ≠ i := fun e => by rw [e, hf] at hx; cases hx
            omega
          · have hf : sp_fo σ a key i = true := bI_n0.mp h1
            rw [nI_1]
            rw [vs_cnt_s, hf] at ih
            refine ih _ (fun q q1 q2 => (jw_Une q1).trans ((jw_Une q2).trans (ho q q1 q2))) (fun j hj => ?_) ?_ (fun u hu hx => ?_)
            · rw [jw_Uat, if_neg hj, jw_Une (by decide)]
              exact h0 j hj
            · rw [jw_Uat, if_pos rfl, jw_Une (by decide), h18, nI_1]
              rfl
            · rw [jw_Une (by decide), jw_Uat]
              by_cases e : u = i
              · rw [if_pos (by rw [e]), e]
              · have hlt : vs_cnt (sp_fo σ a key) u < vs_cnt (sp_fo σ a key) i := by
                  have := vs_cnt_m (sp_fo σ a key) (show u + 1 ≤ i by omega)
                  rw [vs_cnt_s, hx] at this
                  exact this
                rw [if_neg (by omega)]
                exact h55 u (by omega) hx
      exact find 0 (Nat.zero_le _) _ (fun q q1 _ => jw_Une q1) (fun j hj => by rw [jw_Uat, if_neg hj]) (by rw [jw_Uat, if_pos rfl]; rfl) (fun u hu => absurd hu (Nat.not_lt_zero u))
    · rw [hC3.1.2.1, hI'.1, nI_leI (by omega) (by omega)] at hw
      have e1 : sp_gets σ a key c = σ := by
        unfold sp_gets
        rw [if_neg n1, if_pos (show (sp_T σ a key).length < s_rd σ by omega)]
      have e2 : sp_getr σ a key = -3 := by
        unfold sp_getr
        rw [if_neg n1, if_pos (show (sp_T σ a key).length < s_rd σ by omega)]
      rw [e1, e2] at hQ
      exact hQ M3 hC3 h41
  · rw [hup, bI_n0] at hu
    have hu2 : s_up σ a = false := by simpa using hu
    have e1 : sp_gets σ a key c = σ := by
      unfold sp_gets
      rw [if_pos hu2]
    have e2 : sp_getr σ a key = -2 := by
      unfold sp_getr
      rw [if_pos hu2]
    rw [e1, e2] at hQ
    exact hQ M hC (fun _ _ => rfl)
