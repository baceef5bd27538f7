/-! The reference: standsFor, put -/
theorem c_M_standsFor {l : Launch} {G : jw_G} {A : Nat → Prop} {M : jw_Mem} {Q : Int32 → jw_Mem → Prop} {mo a k : Nat} {r T : List Nat} {p : Nat → Bool} {up : Nat → Bool} {cu : Nat → Nat → Bool} (h0 : M 41 0 = nI mo) (hmo : mo ≤ 3) (hL : vs_LM M r) (hA : vs_AM M T) (eT : vs_tg mo r p = T) (ep : vs_rch up cu a = p) (hup : ∀ a, a < 5 → M 42 a = bI (!up a)) (hcu : ∀ a b, a < 5 → b < 5 → M 43 (5 * a + b) = bI (cu a b)) (hrl : r.length ≤ 5) (hr5 : ∀ x, x ∈ r → x < 5) (hnd : r.Nodup) (ha : a < 5) (hk : k < T.length)
    (hQ1 : k < vs_th mo r p → Q (-1) M) (hQ2 : vs_th mo r p ≤ k → Q (nI ((vs_ul mo r p).getD (k - vs_th mo r p) 0)) M) : jw_M l (jw_g G) A f_M_standsFor [jw_a G 41, .int (nI a), .int (nI k)] M Q := by
  refine e_M_standsFor (fun X hR => ?_)
  have hTm : T.length ≤ mo := by rw [← eT]; exact vs_tg_mo _ _ _
  have hST : T.length ≤ vs_th mo r p + (vs_ul mo r p).length := by rw [← eT]; exact vs_str_le _ _ _
  generalize hh : vs_th mo r p = hm at hQ1 hQ2 hST
  have hTin : ∀ j, j < T.length → T.getD j 0 ∈ r := fun j hj => by
    rw [← eT] at hj ⊢
    exact vs_tg_in hj
  have place : ∀ j, j < T.length → ∀ Q' : Int32 → jw_Mem → Prop, (∀ t, t < r.length → (t < mo ↔ j < hm) → Q' (nI t) M) → jw_M l (jw_g G) A f_M_placeIn [jw_a G 41, .int (M 57 j)] M Q' := by
    intro j hj Q' h
    rw [hA.2 j hj]
    refine c_M_placeIn (r := r) (nd := T.getD j 0) hrl hL.1 (fun t ht => ⟨hL.2 t ht, hr5 _ (vs_getD_mem ht)⟩) (hr5 _ (hTin j hj)) (fun hno => ?_) (fun t ht e => h t ht ?_)
    · obtain ⟨i, hi, ei⟩ := vs_mem_getD (hTin j hj)
      exact absurd ei (hno i hi)
    · rw [← hh]
      refine vs_tg_home hnd (by rw [eT]; exact hj) ht ?_
      rw [eT]
      exact e
  have key2 : hm ≤ k → ∀ h, h ≤ min mo r.length → ((r.take h).filter (fun x => !p x)).length < k + 1 - hm → jw_X l X (jw_g G) A f_M_standsFor 65 [some (jw_a G 41), some (.int (nI a)), some (.int (nI k)), some (.int (nI (k + 1 - hm - ((r.take h).filter (fun x => !p x)).length))), some (.int (nI h))] [] M := by
    intro hmk
    refine vs_up ?_ ?_
    · intro hlt
      rw [vs_un_all] at hlt
      omega
    · intro h hh2 ih hlt
      have hun := vs_un_s (p := p) (show h < r.length by omega)
      obtain ⟨n, hn⟩ : ∃ n, k + 1 - hm - ((r.take h).filter (fun x => !p x)).length = n + 1 := ⟨k + 1 - hm - ((r.take h).filter (fun x => !p x)).length - 1, by omega⟩
      rw [hn]
      refine k_M_standsFor_65 (c_M_homes h0 hmo hL hrl ⟨fun hc => absurd hc (nI_ge hh2 (by omega)), fun _ => ⟨h, ⟨by omega, rfl⟩, ?_⟩⟩)
      rw [hL.2 h (by omega)]
      refine c_M_reaches (up := up) (cu := cu) ha (hr5 _ (vs_getD_mem (by omega))) hup hcu ?_
      rw [ep]
      refine ⟨fun h2 => ⟨fun hne => ?_, fun he => ⟨h, ⟨by omega, rfl⟩, hR _ _ ?_⟩⟩, fun h2 => ⟨fun _ => ?_, fun he => absurd he (nI_ne0 (by omega) (by omega))⟩⟩
      · rw [bI_0] at h2
        rw [nI_pred] at hne ⊢
        rw [nI_1]
        rw [h2] at hun
        have hn0 : n ≠ 0 := fun e => hne (by rw [e]; rfl)
        have hun2 : ((r.take (h + 1)).filter (fun x => !p x)).length = ((r.take h).filter (fun x => !p x)).length + 1 := hun
        have := ih (by omega)
        rw [hun2, show k + 1 - hm - (((r.take h).filter (fun x => !p x)).length + 1) = n by omega] at this
        exact this
      · rw [bI_0] at h2
        rw [nI_pred] at he
        have hn0 : n = 0 := (nI_ne (b := 0) (by omega) (by omega)).mp he
        have hq := hQ2 hmk
        have e1 : k - hm = ((r.take h).filter (fun x => !p x)).length := by omega
        rw [e1, vs_ul_at (by omega) (by omega) h2] at hq
        rw [hL.2 h (by omega)]
        exact hq
      · rw [bI_n0] at h2
        rw [h2] at hun
        have hun2 : ((r.take (h + 1)).filter (fun x => !p x)).length = ((r.take h).filter (fun x => !p x)).length := hun
        rw [nI_1]
        have := ih (by omega)
        rw [hun2, hn] at this
        exact this
  have key1 : ∀ j, j ≤ k + 1 → jw_X l X (jw_g G) A f_M_standsFor 5 [some (jw_a G 41), some (.int (nI a)), some (.int (nI k)), some (.int (nI (j - hm))), some (.int (nI j))] [] M := by
    refine vs_up ?_ ?_
    · refine k_M_standsFor_5 ⟨fun _ => ⟨k, ⟨by omega, rfl⟩, place k hk _ (fun t ht hi => ⟨fun hc => ?_, fun hc => ?_⟩)⟩, fun hc => absurd (nI_lt (Nat.lt_succ_self k) (by omega)) hc⟩
      · rw [h0, nI_leI (by omega) (by omega)] at hc
        have hmk : hm ≤ k := by omega
        have := key2 hmk 0 (Nat.zero_le _) (by simp; omega)
        exact this
      · rw [h0, nI_leI (by omega) (by omega)] at hc
        exact hR _ _ (hQ1 (by omega))
    · intro j hj ih
      refine k_M_standsFor_5 ⟨fun hc => absurd hc (nI_nlt (by omega) (by omega)), fun _ => ⟨j, ⟨by omega, rfl⟩, place j (by omega) _ (fun t ht hi => ⟨fun hc => ?_, fun hc => ?_⟩)⟩⟩
      · rw [h0, nI_leI (by omega) (by omega)] at hc
        rw [nI_1, nI_1]
        rw [show j - hm + 1 = j + 1 - hm by omega]
        exact ih
      · rw [h0, nI_leI (by omega) (by omega)] at hc
        rw [nI_1]
        rw [show j - hm = j + 1 - hm by omega]
        exact ih
  have h9 := key1 0 (Nat.zero_le _)
  rw [Nat.zero_sub] at h9
  exact h9
theorem vs_M_add {σ : vs_S} {M M' : jw_Mem} {a : Nat} {kx vx : Int32} {kn : Nat → Int32} (hC : vs_M σ M) (ho : ∀ k, k ≠ 41 → k ≠ 45 → k ≠ 46 → k ≠ 47 → k ≠ 48 → M' k = M k) (h41 : ∀ j, j ≠ 6 → M' 41 j = M 41 j) (h4 : M' 41 6 = nI (s_md σ + 1)) (h5 : ∀ u, u < 40 → M' 45 u = if u = s_md σ then kx else M 45 u) (h6 : ∀ u, u < 40 → M' 46 u = if u = s_md σ then vx else M 46 u) (h7 : ∀ u, u < 40 → M' 47 u = if u = s_md σ then nI a else M 47 u)
    (h8 : ∀ i, i < 200 → M' 48 i = if i = 5 * s_md σ + a then 1 + nI (vs_cnt (fun u => s_au σ u == nI a && s_ky σ u == kx) (s_md σ)) else if 5 * s_md σ ≤ i ∧ i < 5 * s_md σ + 5 then kn (i - 5 * s_md σ) else M 48 i) (ha : a < 5) : vs_M (sp_add σ a kx vx kn) M' := by
  unfold vs_M
  rw [add_mo, add_rd, add_wr, add_ow, add_up, add_cu, add_md, add_ky, add_vl, add_au, add_cl, add_hs, add_hi, add_xk, add_xc, add_fd, add_rp]
  obtain ⟨⟨a1, a2, a3⟩, xow, xup, xcu, xmd, ⟨f1, f2, f3, f4⟩, xhs, xhi, xs, xk, xc, ⟨xf, xl⟩, xrp⟩ := hC
  have q : ∀ k, k ≠ 41 ∧ k ≠ 45 ∧ k ≠ 46 ∧ k ≠ 47 ∧ k ≠ 48 → M' k = M k := fun k h => ho k h.1 h.2.1 h.2.2.1 h.2.2.2.1 h.2.2.2.2
  refine ⟨⟨(h41 0 (by decide)).trans a1, (h41 1 (by decide)).trans a2, (h41 2 (by decide)).trans a3⟩, fun p hp => by rw [q 44 (by omega)]; exact xow p hp, fun a ha => by rw [q 42 (by omega)]; exact xup a ha, fun a b ha hb => by rw [q 43 (by omega)]; exact xcu a b ha hb, h4, ⟨fun u hu => ?_, fun u hu => ?_, fun u hu => ?_, fun i hi => ?_⟩, fun a u ha hu => by rw [q 49 (by omega)]; exact xhs a u ha hu, fun a u ha hu => by rw [q 50 (by omega)]; exact xhi a u ha hu, fun c hc => by rw [q 53 (by omega)]; exact xs c hc, fun c z hc hz => by rw [q 52 (by omega)]; exact xk c z hc hz, fun c z hc hz hx => by rw [q 54 (by omega)]; exact xc c z hc hz hx, ⟨(h41 18 (by decide)).trans xf, fun u hu hx => by rw [q 55 (by omega)]; exact xl u hu hx⟩, (h41 19 (by decide)).trans xrp⟩
  · rw [h5 u hu]
    unfold va_up
    rw [f1 u hu]
  · rw [h6 u hu]
    unfold va_up
    rw [f2 u hu]
  · rw [h7 u hu]
    unfold va_up
    rw [f3 u hu]
  · rw [h8 i hi]
    show _ = (if 5 * s_md σ ≤ i ∧ i < 5 * s_md σ + 5 then (if i = 5 * s_md σ + a then 1 + nI (vs_cnt (fun u => s_au σ u == nI a && s_ky σ u == kx) (s_md σ)) else kn (i - 5 * s_md σ)) else s_cl σ i)
    by_cases e : i = 5 * s_md σ + a
    · rw [if_pos e, if_pos (by omega), if_pos e]
    · rw [if_neg e]
      by_cases e2 : 5 * s_md σ ≤ i ∧ i < 5 * s_md σ + 5
      · rw [if_pos e2, if_pos e2, if_neg e]
      · rw [if_neg e2, if_neg e2, f4 i hi]
theorem ww_1 {σ : vs_S} {x z : Nat → Nat → Bool} {y : Nat → Nat → Option Nat} : w_hs (w_hi (w_hs σ x) y) z = w_hi (w_hs σ z) y := rfl
theorem ww_2 {σ : vs_S} {x y : Nat → Nat → Option Nat} : w_hi (w_hi σ x) y = w_hi σ y := rfl
theorem w_hs_id {σ : vs_S} : w_hs σ (s_hs σ) = σ := rfl
theorem w_hi_id {σ : vs_S} : w_hi σ (s_hi σ) = σ := rfl
theorem c_M_put_f {l : Launch} {G : jw_G} {A : Nat → Prop} {M : jw_Mem} {Q : Int32 → jw_Mem → Prop} {x1 x2 x3 x4 : Int32} (h : vs_out x1 5 ∨ vs_out x2 32) (hQ : Q (-1) M) : jw_M l (jw_g G) A f_M_put [jw_a G 41, .int x1, .int x2, .int x3, .int x4] M Q := by
  refine e_M_put (fun X hR => ?_)
  rcases vs_io x1 (n := 5) (by decide) with h1 | ⟨a, ha, rfl⟩
  · exact c_M_isNode_f h1 ⟨fun _ => hR _ _ hQ, fun hc => absurd rfl hc⟩
  · refine c_M_isNode_t ha ⟨fun _ => hR _ _ hQ, fun _ => ?_⟩
    rcases vs_io x2 (n := 32) (by decide) with h2 | ⟨p, hp, rfl⟩
    · exact c_M_isKey_f h2 ⟨fun _ => hR _ _ hQ, fun hc => absurd rfl hc⟩
    · exact absurd h (fun z => z.elim (vs_out_n ha) (vs_out_n hp))
theorem vs_m1 {x : Int32} (h : x < 0) (h1 : ¬ x < -1) : x = -1 := by
  have a := Int32.lt_iff_toInt_lt.mp h
  have b : ¬ x.toInt < ((-1 : Int32)).toInt := fun z => h1 (Int32.lt_iff_toInt_lt.mpr z)
  have c : ((-1 : Int32)).toInt = -1 := by decide
  have d : (0 : Int32).toInt = 0 := by decide
  refine Int32.toInt_inj.mp ?_
  omega
theorem c_M_put_x {l : Launch} {G : jw_G} {A : Nat → Prop} {M : jw_Mem} {Q : Int32 → jw_Mem → Prop} {σ : vs_S} {a key : Nat} {x3 x4 : Int32} (hok : vs_ok σ) (hC : vs_M σ M) (ha : a < 5) (hk : key < 32) (h : (vs_out x4 4 ∧ ¬ x4 = -1) ∨ ∃ c, c < 4 ∧ x4 = nI c ∧ sp_may σ c key = false) (hQ : Q (-1) M) : jw_M l (jw_g G) A f_M_put [jw_a G 41, .int (nI a), .int (nI key), .int x3, .int x4] M Q := by
  refine e_M_put (fun X hR => c_M_isNode_t ha ⟨fun hc => absurd hc (by decide), fun _ => c_M_isKey_t hk ⟨fun hc => absurd hc (by decide), fun _ => ⟨fun _ => hR _ _ hQ, fun g1 => ⟨fun _ => hR _ _ hQ, fun g2 => ?_⟩⟩⟩⟩)
  rcases h with ⟨h1, h2⟩ | ⟨c, hc, rfl, hm⟩
  · rcases h1 with h1 | h1
    · exact absurd (vs_m1 h1 g1) h2
    · exact absurd (vs_gt4 h1) g2
  · refine ⟨fun hneg => absurd hneg (nI_pos (by omega)), fun _ => ⟨c, ⟨hc, rfl⟩, fun h1 => ?_, fun h1 => ⟨c, ⟨hc, rfl⟩, fun h2 => ?_, fun _ => hR _ _ hQ⟩⟩⟩
    · unfold sp_may at hm
      rw [hC.2.2.2.2.2.2.2.2.1 c hc] at h1
      cases hz : s_xk σ c with
      | none => rw [hz] at hm; cases hm
      | some k => rw [hz] at h1; exact absurd h1 (show ¬ bI true = 0 by decide)
    · unfold sp_may at hm
      cases hz : s_xk σ c with
      | none => rw [hz] at hm; cases hm
      | some k =>
        rw [hz] at hm
        have hm2 : (k == key) = false := hm
        have hk2 := hok.2.2.2.2.2.1 c k hz
        rw [hC.2.2.2.2.2.2.2.2.2.1 c k hc hz, nI_ne (by omega) (by omega)] at h2
        rw [h2] at hm2
        simp at hm2
theorem c_M_put {l : Launch} {G : jw_G} {A : Nat → Prop} {M : jw_Mem} {Q : Int32 → jw_Mem → Prop} {σ : vs_S} {a key : Nat} {vx x4 : Int32} {kn : Nat → Int32} (hok : vs_ok σ) (hC : vs_M σ M) (ha : a < 5) (hk : key < 32) (hx : sp_kn σ key x4 kn) (hQ : ∀ M' : jw_Mem, vs_M (sp_puts σ a key vx kn) M' → (∀ k, k < 41 → M' k = M k) → Q (sp_putr σ a key) M') : jw_M l (jw_g G) A f_M_put [jw_a G 41, .int (nI a), .int (nI key), .int vx, .int x4] M Q := by
  have hmd40 := hok.2.2.1
  have how := hok.2.2.2.1
  have hmo := hok.2.1
  have hup := hC.2.2.1 a ha
  have h4 := hC.2.2.2.2.1
  have hwr := hok.1.2.2
  have hrl := vs_row_len how 16 (key := key)
  have hr5 := vs_row_lt how 16 (key := key)
  have hnd : (vs_row (s_ow σ) key 16).Nodup := vs_row_nd 16
  have hTl : (sp_T σ a key).length ≤ s_mo σ := vs_tg_mo _ _ _
  have hTH : sp_H σ a key ≤ (sp_T σ a key).length := vs_th_le _ _ _
  have hT5 : ∀ k, k < (sp_T σ a key).length → (sp_T σ a key).getD k 0 < 5 := fun k hk => hr5 _ (vs_tg_in hk)
  have hU5 : ∀ k, k < (sp_U σ a key).length → (sp_U σ a key).getD k 0 < 5 := fun k hk => hr5 _ (List.mem_of_mem_take (List.mem_filter.mp (vs_getD_mem hk)).1)
  have hST : (sp_T σ a key).length ≤ sp_H σ a key + (sp_U σ a key).length := vs_str_le _ _ _
  refine e_M_put (fun X hR => ?_)
  -- the loop over the targets
  have loop3 : ¬ s_up σ a = false → s_md σ < 40 → s_wr σ ≤ (sp_T σ a key).length → ∀ x5 : Int32, ∀ k, k ≤ (sp_T σ a key).length → ∀ M' : jw_Mem, (∀ q, q < 41 → M' q = M q) → vs_M (w_hi (w_hs (sp_add σ a (nI key) vx kn) (vs_sn (s_hs (sp_add σ a (nI key) vx kn)) (fun h => vs_tk h (s_ky (sp_add σ a (nI key) vx kn)) (s_cl (sp_add σ a (nI key) vx kn)) (s_md (sp_add σ a (nI key) vx kn)) (s_md σ)) (sp_T σ a key) (min k (sp_H σ a key)))) (vs_hn (s_hi (sp_put0 σ a key vx kn)) (s_md σ) (sp_T σ a key) (sp_H σ a key) (sp_U σ a key) (k - sp_H σ a key))) M' → vs_LM M' (vs_row (s_ow σ) key 16) → vs_AM M' (sp_T σ a key) → jw_X l X (jw_g G) A f_M_put 266 [some (jw_a G 41), some (.int (nI a)), some (.int (nI key)), some (.int vx), some (.int x4), some (.int x5), some (.int (nI (s_md σ))), some (.int (nI k)), none] [] M' := by
    intro n1 hmd hw x5
    have n2 : ¬ 40 ≤ s_md σ := by omega
    have n3 : ¬ (sp_T σ a key).length < s_wr σ := by omega
    refine vs_up ?_ ?_
    · intro M' h41 hCM hL hA
      refine k_M_put_266 ⟨fun _ => hR _ _ ?_, fun hc => absurd ?_ hc⟩
      · have e1 : sp_puts σ a key vx kn = sp_put1 σ a key vx kn := by
          unfold sp_puts
          rw [if_neg n1, if_neg n2, if_neg n3]
        have e2 : sp_putr σ a key = nI (s_md σ) := by
          unfold sp_putr
          rw [if_neg n1, if_neg n2, if_neg n3]
        rw [e1, e2] at hQ
        rw [Nat.min_eq_right hTH] at hCM
        exact hQ M' hCM h41
      · rw [hA.1]
        exact nI_le (Nat.le_refl _) (by omega)
    · intro k hk2 ih M' h41 hCM hL hA
      have hkT := hT5 k hk2
      have f0 : M' 41 0 = nI (s_mo σ) := by rw [hCM.1.1, sw_mo_hi, sw_mo_hs, add_mo]
      have fup : ∀ a, a < 5 → M' 42 a = bI (!s_up σ a) := fun a ha => by rw [hCM.2.2.1 a ha, sw_up_hi, sw_up_hs, add_up]
      have fcu : ∀ a b, a < 5 → b < 5 → M' 43 (5 * a + b) = bI (s_cu σ a b) := fun a b ha hb => by rw [hCM.2.2.2.1 a b ha hb, sw_cu_hi, sw_cu_hs, add_cu]
      have fmd : M' 41 6 = nI (s_md (sp_add σ a (nI key) vx kn)) := by rw [hCM.2.2.2.2.1, sw_md_hi, sw_md_hs]
      have fky : ∀ u, u < 40 → M' 45 u = s_ky (sp_add σ a (nI key) vx kn) u := fun u hu => by rw [hCM.2.2.2.2.2.1.1 u hu, sw_ky_hi, sw_ky_hs]
      have fcl : ∀ i, i < 200 → M' 48 i = s_cl (sp_add σ a (nI key) vx kn) i := fun i hi => by rw [hCM.2.2.2.2.2.1.2.2.2 i hi, sw_cl_hi, sw_cl_hs]
      have fhs : ∀ b u, b < 5 → u < 40 → M' 49 (40 * b + u) = bI (vs_sn (s_hs (sp_add σ a (nI key) vx kn)) (fun h => vs_tk h (s_ky (sp_add σ a (nI key) vx kn)) (s_cl (sp_add σ a (nI key) vx kn)) (s_md (sp_add σ a (nI key) vx kn)) (s_md σ)) (sp_T σ a key) (min k (sp_H σ a key)) b u) := fun b u hb hu => by rw [hCM.2.2.2.2.2.2.1 b u hb hu, sw_hs_hi, sw_hs_hs]
      have fhi : ∀ b u, b < 5 → u < 40 → M' 50 (40 * b + u) = oM (vs_hn (s_hi (sp_put0 σ a key vx kn)) (s_md σ) (sp_T σ a key) (sp_H σ a key) (sp_U σ a key) (k - sp_H σ a key) b u) := fun b u hb hu => by rw [hCM.2.2.2.2.2.2.2.1 b u hb hu, sw_hi_hi]
      refine k_M_put_266 ⟨fun hc => absurd hc ?_, fun _ => c_M_standsFor (mo := s_mo σ) (r := vs_row (s_ow σ) key 16) (T := sp_T σ a key) (p := vs_rch (s_up σ) (s_cu σ) a) (up := s_up σ) (cu := s_cu σ) f0 hmo hL hA rfl rfl fup fcu hrl hr5 hnd ha hk2 (fun hlt => ⟨fun hc => absurd hc (by decide), fun _ => ⟨k, ⟨by omega, rfl⟩, ?_⟩⟩) (fun hge => ?_)⟩
      · rw [hA.1]
        exact nI_ge hk2 (by omega)
      · have hlt2 : k < sp_H σ a key := hlt
        rw [hA.2 k hk2]
        refine c_M_take (h := vs_sn (s_hs (sp_add σ a (nI key) vx kn)) (fun h => vs_tk h (s_ky (sp_add σ a (nI key) vx kn)) (s_cl (sp_add σ a (nI key) vx kn)) (s_md (sp_add σ a (nI key) vx kn)) (s_md σ)) (sp_T σ a key) (min k (sp_H σ a key)) ((sp_T σ a key).getD k 0)) hkT (by omega) fmd (by rw [add_md]; omega) (fun u hu => fhs _ u hkT hu) (fun M2 ho2 hx2 hr2 => ?_)
        rw [nI_1]
        refine ih M2 (fun q hq => (ho2 q (by omega)).trans (h41 q hq)) ?_ (by unfold vs_LM; rw [ho2 41 (by decide), ho2 56 (by decide)]; exact hL) (by unfold vs_AM; rw [ho2 41 (by decide), ho2 57 (by decide)]; exact hA)
        have em : min (k + 1) (sp_H σ a key) = min k (sp_H σ a key) + 1 := by omega
        have ek : min k (sp_H σ a key) = k := by omega
        have e0 : k + 1 - sp_H σ a key = k - sp_H σ a key := by omega
        rw [e0, em]
        have hnew : vs_M (w_hs (w_hi (w_hs (sp_add σ a (nI key) vx kn) (vs_sn (s_hs (sp_add σ a (nI key) vx kn)) (fun h => vs_tk h (s_ky (sp_add σ a (nI key) vx kn)) (s_cl (sp_add σ a (nI key) vx kn)) (s_md (sp_add σ a (nI key) vx kn)) (s_md σ)) (sp_T σ a key) (min k (sp_H σ a key)))) (vs_hn (s_hi (sp_put0 σ a key vx kn)) (s_md σ) (sp_T σ a key) (sp_H σ a key) (sp_U σ a key) (k - sp_H σ a key))) (vs_sn (s_hs (sp_add σ a (nI key) vx kn)) (fun h => vs_tk h (s_ky (sp_add σ a (nI key) vx kn)) (s_cl (sp_add σ a (nI key) vx kn)) (s_md (sp_add σ a (nI key) vx kn)) (s_md σ)) (sp_T σ a key) (min k (sp_H σ a key) + 1))) M2 := by
          refine vs_M_hs hCM (fun q hq => ho2 q hq) (fun b u hb hu => ?_)
          show _ = bI (va_up (α := Nat → Bool) _ ((sp_T σ a key).getD (min k (sp_H σ a key)) 0) _ b u)
          rw [ek]
          unfold va_up
          by_cases e : b = (sp_T σ a key).getD k 0
          · rw [if_pos e, e, hr2 u hu, ek]
            congr 1
            exact vs_tk_c fky fcl (by rw [add_md]; omega) (by omega) hu
          · rw [if_neg e, hx2 _ (by omega), fhs b u hb hu, ek]
        rw [ww_1] at hnew
        exact hnew
      · have hge2 : sp_H σ a key ≤ k := hge
        have hu5 := hU5 (k - sp_H σ a key) (by omega)
        refine ⟨fun _ => ⟨k, ⟨by omega, rfl⟩, 40 * (sp_T σ a key).getD k 0 + s_md σ, ⟨by omega, by rw [hA.2 k hk2]; exact nI_lin40 _ _⟩, ?_⟩, fun hc => absurd (nI_pos' (Nat.lt_of_lt_of_le hu5 (by decide))) hc⟩
        rw [nI_1]
        refine ih _ (fun q hq => (jw_Une (by omega)).trans (h41 q hq)) ?_ (by unfold vs_LM; rw [jw_Une (by decide), jw_Une (by decide)]; exact hL) (by unfold vs_AM; rw [jw_Une (by decide), jw_Une (by decide)]; exact hA)
        have em : min (k + 1) (sp_H σ a key) = min k (sp_H σ a key) := by omega
        have e0 : k + 1 - sp_H σ a key = k - sp_H σ a key + 1 := by omega
        have ek : sp_H σ a key + (k - sp_H σ a key) = k := by omega
        rw [e0, em]
        have hnew : vs_M (w_hi (w_hi (w_hs (sp_add σ a (nI key) vx kn) (vs_sn (s_hs (sp_add σ a (nI key) vx kn)) (fun h => vs_tk h (s_ky (sp_add σ a (nI key) vx kn)) (s_cl (sp_add σ a (nI key) vx kn)) (s_md (sp_add σ a (nI key) vx kn)) (s_md σ)) (sp_T σ a key) (min k (sp_H σ a key)))) (vs_hn (s_hi (sp_put0 σ a key vx kn)) (s_md σ) (sp_T σ a key) (sp_H σ a key) (sp_U σ a key) (k - sp_H σ a key))) (vs_hn (s_hi (sp_put0 σ a key vx kn)) (s_md σ) (sp_T σ a key) (sp_H σ a key) (sp_U σ a key) (k - sp_H σ a key + 1))) (jw_U M' 50 (40 * (sp_T σ a key).getD k 0 + s_md σ) (nI ((sp_U σ a key).getD (k - sp_H σ a key) 0) + 1)) := by
          refine vs_M_hi hCM (fun q hq => jw_Une hq) (fun b u hb hu => ?_)
          show _ = oM (if b = (sp_T σ a key).getD (sp_H σ a key + (k - sp_H σ a key)) 0 ∧ u = s_md σ then some ((sp_U σ a key).getD (k - sp_H σ a key) 0) else vs_hn (s_hi (sp_put0 σ a key vx kn)) (s_md σ) (sp_T σ a key) (sp_H σ a key) (sp_U σ a key) (k - sp_H σ a key) b u)
          rw [ek, jw_Uat]
          by_cases e : b = (sp_T σ a key).getD k 0 ∧ u = s_md σ
          · rw [if_pos e, if_pos (by omega), nI_1]
            rfl
          · rw [if_neg e, if_neg (fun z => e (by omega)), fhi b u hb hu]
        rw [ww_2] at hnew
        exact hnew
  have loop2 : ¬ s_up σ a = false → s_md σ < 40 → s_wr σ ≤ (sp_T σ a key).length → ∀ M3 : jw_Mem, vs_M σ M3 → (∀ q, q < 41 → M3 q = M q) → vs_LM M3 (vs_row (s_ow σ) key 16) → vs_AM M3 (sp_T σ a key) → ∀ k, k ≤ 5 → ∀ M' : jw_Mem, (∀ q, q ≠ 41 → q ≠ 45 → q ≠ 46 → q ≠ 47 → q ≠ 48 → M' q = M3 q) → (∀ j, j ≠ 6 → M' 41 j = M3 41 j) → M' 41 6 = nI (s_md σ + 1) → (∀ u, M' 45 u = if u = s_md σ then nI key else M3 45 u) → (∀ u, M' 46 u = if u = s_md σ then vx else M3 46 u) → (∀ u, M' 47 u = if u = s_md σ then nI a else M3 47 u) → (∀ i, M' 48 i = if 5 * s_md σ ≤ i ∧ i < 5 * s_md σ + k then kn (i - 5 * s_md σ) else M3 48 i) → jw_X l X (jw_g G) A f_M_put 195 [some (jw_a G 41), some (.int (nI a)), some (.int (nI key)), some (.int vx), some (.int x4), some (.int (1 + nI (vs_cnt (fun u => s_au σ u == nI a && s_ky σ u == nI key) (s_md σ)))), some (.int (nI (s_md σ))), some (.int (nI k)), none] [] M' := by
    intro n1 hmd hw M3 hC3 h41 hL hA
    refine vs_up ?_ ?_
    · intro M' ho h6 g6 g5 g46 g47 g48
      refine k_M_put_195 ⟨fun _ => ⟨5 * s_md σ + a, ⟨by omega, nI_lin5 _ _⟩, ?_⟩, fun hc => absurd (nI_le (a := 5) (Nat.le_refl _) (by omega)) hc⟩
      refine loop3 n1 hmd hw _ 0 (Nat.zero_le _) _ (fun q hq => (jw_Une (by omega)).trans ((ho q (by omega) (by omega) (by omega) (by omega) (by omega)).trans (h41 q hq))) ?_ ?_ ?_
      · have hz : vs_M (sp_add σ a (nI key) vx kn) (jw_U M' 48 (5 * s_md σ + a) (1 + nI (vs_cnt (fun u => s_au σ u == nI a && s_ky σ u == nI key) (s_md σ)))) := by
          refine vs_M_add hC3 (fun q q1 q2 q3 q4 q5 => (jw_Une q5).trans (ho q q1 q2 q3 q4 q5)) (fun j hj => by rw [jw_Une (by decide)]; exact h6 j hj) (by rw [jw_Une (by decide)]; exact g6) (fun u _ => by rw [jw_Une (by decide)]; exact g5 u) (fun u _ => by rw [jw_Une (by decide)]; exact g46 u) (fun u _ => by rw [jw_Une (by decide)]; exact g47 u) (fun i _ => ?_) ha
          rw [jw_Uat, g48 i]
        rw [Nat.zero_min, Nat.zero_sub]
        show vs_M (w_hi (w_hs (sp_add σ a (nI key) vx kn) (s_hs (sp_add σ a (nI key) vx kn))) (s_hi (sp_put0 σ a key vx kn))) _
        rw [w_hs_id]
        have e9 : s_hi (sp_put0 σ a key vx kn) = s_hi (sp_add σ a (nI key) vx kn) := by
          unfold sp_put0
          rw [sw_hi_hs]
        rw [e9, w_hi_id]
        exact hz
      · unfold vs_LM
        rw [jw_Une (by decide), jw_Une (by decide), h6 21 (by decide), ho 56 (by decide) (by decide) (by decide) (by decide) (by decide)]
        exact hL
      · unfold vs_AM
        rw [jw_Une (by decide), jw_Une (by decide), h6 23 (by decide), ho 57 (by decide) (by decide) (by decide) (by decide) (by decide)]
        exact hA
    · intro k hk2 ih M' ho h6 g6 g5 g46 g47 g48
      have st : ∀ val, val = kn k → jw_X l X (jw_g G) A f_M_put 195 [some (jw_a G 41), some (.int (nI a)), some (.int (nI key)), some (.int vx), some (.int x4), some (.int (1 + nI (vs_cnt (fun u => s_au σ u == nI a && s_ky σ u == nI key) (s_md σ)))), some (.int (nI (s_md σ))), some (.int (nI k + 1)), none] [] (jw_U M' 48 (5 * s_md σ + k) val) := by
        intro val hval
        rw [nI_1]
        refine ih _ (fun q q1 q2 q3 q4 q5 => (jw_Une q5).trans (ho q q1 q2 q3 q4 q5)) (fun j hj => by rw [jw_Une (by decide)]; exact h6 j hj) (by rw [jw_Une (by decide)]; exact g6) (fun u => by rw [jw_Une (by decide)]; exact g5 u) (fun u => by rw [jw_Une (by decide)]; exact g46 u) (fun u => by rw [jw_Une (by decide)]; exact g47 u) (fun i => ?_)
        rw [jw_Uat, g48 i]
        by_cases e : i = 5 * s_md σ + k
        · rw [if_pos e, if_pos (by omega), hval, show i - 5 * s_md σ = k by omega]
        · rw [if_neg e]
          by_cases e2 : 5 * s_md σ ≤ i ∧ i < 5 * s_md σ + k
          · rw [if_pos e2, if_pos (by omega)]
          · rw [if_neg e2, if_neg (by omega)]
      refine k_M_put_195 ⟨fun hc => absurd hc (nI_ge (b := 5) hk2 (by omega)), fun _ => ?_⟩
      rcases hx with ⟨rfl, rfl⟩ | ⟨c, hc, rfl, hm, rfl⟩
      · exact ⟨fun _ => ⟨5 * s_md σ + k, ⟨by omega, nI_lin5 _ _⟩, st 0 rfl⟩, fun hc => absurd (show (-1 : Int32) < 0 by decide) hc⟩
      · refine ⟨fun hneg => absurd hneg (nI_pos (by omega)), fun _ => ⟨c, ⟨hc, rfl⟩, fun h1 => ⟨5 * s_md σ + k, ⟨by omega, nI_lin5 _ _⟩, st 0 ?_⟩, fun h1 => ⟨5 * c + k, ⟨by omega, nI_lin5 _ _⟩, 5 * s_md σ + k, ⟨by omega, nI_lin5 _ _⟩, st _ ?_⟩⟩⟩
        · rw [ho 53 (by decide) (by decide) (by decide) (by decide) (by decide), hC3.2.2.2.2.2.2.2.2.1 c hc, bI_0] at h1
          have hz : s_xk σ c = none := by simpa using h1
          exact (hok.2.2.2.2.2.2.1 c k hz).symm
        · rw [ho 53 (by decide) (by decide) (by decide) (by decide) (by decide), hC3.2.2.2.2.2.2.2.2.1 c hc, bI_n0] at h1
          rw [ho 54 (by decide) (by decide) (by decide) (by decide) (by decide)]
          exact hC3.2.2.2.2.2.2.2.2.2.2.1 c k hc hk2 (by intro e; rw [e] at h1; cases h1)
  have loop1 : ¬ s_up σ a = false → s_md σ < 40 → s_wr σ ≤ (sp_T σ a key).length → ∀ M3 : jw_Mem, vs_M σ M3 → (∀ q, q < 41 → M3 q = M q) → vs_LM M3 (vs_row (s_ow σ) key 16) → vs_AM M3 (sp_T σ a key) → ∀ i, i ≤ s_md σ → jw_X l X (jw_g G) A f_M_put 104 [some (jw_a G 41), some (.int (nI a)), some (.int (nI key)), some (.int vx), some (.int x4), some (.int (nI (1 + vs_cnt (fun u => s_au σ u == nI a && s_ky σ u == nI key) i))), some (.int (nI i)), none, none] [] M3 := by
    intro n1 hmd hw M3 hC3 h41 hL hA
    have h43 := hC3.2.2.2.2.1
    refine vs_up ?_ ?_
    · refine k_M_put_104 ⟨fun _ => ⟨s_md σ, ⟨hmd, h43⟩, s_md σ, ⟨hmd, h43⟩, s_md σ, ⟨hmd, h43⟩, ?_⟩, fun hc => absurd ?_ hc⟩
      · rw [h43]
        have e1 : nI (1 + vs_cnt (fun u => s_au σ u == nI a && s_ky σ u == nI key) (s_md σ)) = 1 + nI (vs_cnt (fun u => s_au σ u == nI a && s_ky σ u == nI key) (s_md σ)) := by rw [show (1 : Int32) = nI 1 from rfl, nI_add]
        rw [e1]
        refine loop2 n1 hmd hw M3 hC3 h41 hL hA 0 (Nat.zero_le _) _ (fun q q1 q2 q3 q4 q5 => (jw_Une q4).trans ((jw_Une q3).trans ((jw_Une q2).trans (jw_Une q1)))) (fun j hj => ?_) ?_ (fun u => ?_) (fun u => ?_) (fun u => ?_) (fun i => ?_)
        · rw [jw_Une (by decide), jw_Une (by decide), jw_Une (by decide), jw_Uat, if_neg hj]
        · rw [jw_Une (by decide), jw_Une (by decide), jw_Une (by decide), jw_Uat, if_pos rfl, nI_1]
        · rw [jw_Une (by decide), jw_Une (by decide), jw_Uat, jw_Une (by decide)]
        · rw [jw_Une (by decide), jw_Uat, jw_Une (by decide), jw_Une (by decide)]
        · rw [jw_Uat, jw_Une (by decide), jw_Une (by decide), jw_Une (by decide)]
        · rw [jw_Une (by decide), jw_Une (by decide), jw_Une (by decide), jw_Une (by decide), if_neg (by omega)]
      · rw [h43]
        exact nI_le (Nat.le_refl _) (by omega)
    · intro i hi ih
      rw [vs_cnt_s] at ih
      have st0 : (s_au σ i == nI a && s_ky σ i == nI key) = false → jw_X l X (jw_g G) A f_M_put 104 [some (jw_a G 41), some (.int (nI a)), some (.int (nI key)), some (.int vx), some (.int x4), some (.int (nI (1 + vs_cnt (fun u => s_au σ u == nI a && s_ky σ u == nI key) i))), some (.int (nI i + 1)), none, none] [] M3 := by
        intro e
        rw [nI_1]
        rw [e] at ih
        exact ih
      refine k_M_put_104 ⟨fun hc => absurd hc ?_, fun _ => ⟨i, ⟨by omega, rfl⟩, fun h1 => st0 ?_, fun h1 => ⟨i, ⟨by omega, rfl⟩, fun h2 => st0 ?_, fun h2 => ?_⟩⟩⟩
      · rw [h43]
        exact nI_ge hi (by omega)
      · rw [hC3.2.2.2.2.2.1.1 i (by omega)] at h1
        simp [h1]
      · rw [hC3.2.2.2.2.2.1.2.2.1 i (by omega)] at h2
        simp [h2]
      · rw [hC3.2.2.2.2.2.1.1 i (by omega)] at h1
        rw [hC3.2.2.2.2.2.1.2.2.1 i (by omega)] at h2
        rw [nI_1, nI_1]
        rw [show (s_au σ i == nI a && s_ky σ i == nI key) = true by simp [h1, h2]] at ih
        exact ih
  have cont : ∃ j1 : Nat, (j1 < 5 ∧ nI a = nI j1) ∧ (((M 42 j1) = 0 → ((¬ (M 41 6) = 40 → jw_M l (jw_g G) A f_M_aim [jw_a G 41, .int (nI a), .int (nI key)] M (fun _ M3 => (((M3 41 2) ≤ (M3 41 23) → jw_X l X (jw_g G) A f_M_put 104 [some (jw_a G 41), some (.int (nI a)), some (.int (nI key)), some (.int vx), some (.int x4), some (.int 1), some (.int 0), none, none] [] M3) ∧ (¬ (M3 41 2) ≤ (M3 41 23) → jw_R l X (jw_g G) A f_M_put (-4) M3)))) ∧ ((M 41 6) = 40 → jw_R l X (jw_g G) A f_M_put (-3) M))) ∧ (¬ (M 42 j1) = 0 → jw_R l X (jw_g G) A f_M_put (-2) M)) := by
    refine ⟨a, ⟨ha, rfl⟩, fun hu => ⟨fun hmd => ?_, fun hmd => hR _ _ ?_⟩, fun hu => hR _ _ ?_⟩
    · rw [hup, bI_0] at hu
      have hu2 : s_up σ a = true := by simpa using hu
      have n1 : ¬ s_up σ a = false := by rw [hu2]; decide
      rw [h4] at hmd
      have hmd2 : s_md σ < 40 := by
        have : s_md σ ≠ 40 := fun e => hmd (by rw [e]; rfl)
        omega
      refine c_M_aim hok hC ha hk (fun M3 hs hL hI => ?_)
      have hC3 := vs_sm_M hs hC
      have h41 : ∀ q, q < 41 → M3 q = M q := fun q hq => hs.1 q (by omega) (by omega) (by omega) (by omega)
      have hI' : vs_AM M3 (sp_T σ a key) := hI
      refine ⟨fun hw => ?_, fun hw => hR _ _ ?_⟩
      · rw [hC3.1.2.2, hI'.1, nI_leI (by omega) (by omega)] at hw
        exact loop1 n1 hmd2 hw M3 hC3 h41 hL hI' 0 (Nat.zero_le _)
      · rw [hC3.1.2.2, hI'.1, nI_leI (by omega) (by omega)] at hw
        have e1 : sp_puts σ a key vx kn = σ := by
          unfold sp_puts
          rw [if_neg n1, if_neg (show ¬ 40 ≤ s_md σ by omega), if_pos (show (sp_T σ a key).length < s_wr σ by omega)]
        have e2 : sp_putr σ a key = -4 := by
          unfold sp_putr
          rw [if_neg n1, if_neg (show ¬ 40 ≤ s_md σ by omega), if_pos (show (sp_T σ a key).length < s_wr σ by omega)]
        rw [e1, e2] at hQ
        exact hQ M3 hC3 h41
    · rw [hup, bI_0] at hu
      have hu2 : s_up σ a = true := by simpa using hu
      have n1 : ¬ s_up σ a = false := by rw [hu2]; decide
      rw [h4] at hmd
      have hmd2 : 40 ≤ s_md σ := by
        have := (nI_ne (b := 40) (by omega) (by omega)).mp hmd
        omega
      have e1 : sp_puts σ a key vx kn = σ := by
        unfold sp_puts
        rw [if_neg n1, if_pos hmd2]
      have e2 : sp_putr σ a key = -3 := by
        unfold sp_putr
        rw [if_neg n1, if_pos hmd2]
      rw [e1, e2] at hQ
      exact hQ M hC (fun _ _ => rfl)
    · rw [hup, bI_n0] at hu
      have hu2 : s_up σ a = false := by simpa using hu
      have e1 : sp_puts σ a key vx kn = σ := by
        unfold sp_puts
        rw [if_pos hu2]
      have e2 : sp_putr σ a key = -2 := by
        unfold sp_putr
        rw [if_pos hu2]
      rw [e1, e2] at hQ
      exact hQ M hC (fun _ _ => rfl)
  refine c_M_isNode_t ha ⟨fun hc => absurd hc (by decide), fun _ => c_M_isKey_t hk ⟨fun hc => absurd hc (by decide), fun _ => ⟨fun g1 => ?_, fun g1 => ⟨fun g2 => ?_, fun g2 => ⟨fun g3 => cont, fun g3 => ?_⟩⟩⟩⟩⟩
  · rcases hx with ⟨rfl, _⟩ | ⟨c, hc, rfl, _⟩
    · exact absurd g1 (by decide)
    · have := Int32.lt_iff_toInt_lt.mp g1
      rw [nI_toInt (by omega)] at this
      have e : ((-1 : Int32)).toInt = -1 := by decide
      omega
  · rcases hx with ⟨rfl, _⟩ | ⟨c, hc, rfl, _⟩
    · exact absurd g2 (by decide)
    · exact absurd g2 (nI_nlt (a := 3) (by omega) (by omega))
  · have hx2 := hx
    rcases hx2 with ⟨rfl, _⟩ | ⟨c, hc, rfl, hm, _⟩
    · exact absurd (show (-1 : Int32) < 0 by decide) g3
    · refine ⟨c, ⟨hc, rfl⟩, fun h1 => cont, fun h1 => ⟨c, ⟨hc, rfl⟩, fun h2 => cont, fun h2 => ?_⟩⟩
      rw [hC.2.2.2.2.2.2.2.2.1 c hc, bI_n0] at h1
      unfold sp_may at hm
      cases hz : s_xk σ c with
      | none => rw [hz] at h1; cases h1
      | some k =>
        rw [hz] at hm
        have hm2 : (k == key) = true := hm
        rw [hC.2.2.2.2.2.2.2.2.2.1 c k hc hz] at h2
        exact absurd (by rw [show k = key by simpa using hm2]) h2
