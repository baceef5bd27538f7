/-! cut; the reference's aim; home, targets -/
theorem c_V_areTwoNodes_t {l : Launch} {G : jw_G} {A : Nat → Prop} {M : jw_Mem} {Q : Int32 → jw_Mem → Prop} {a b : Nat} (ha : a < 5) (hb : b < 5) (hab : a ≠ b) (hQ : Q 1 M) : jw_M l (jw_g G) A f_V_areTwoNodes [.int (nI a), .int (nI b)] M Q :=
  e_V_areTwoNodes (fun X hR => c_V_isNode_t ha ⟨fun hc => absurd hc (by decide), fun _ => c_V_isNode_t hb ⟨fun hc => absurd hc (by decide), fun _ => ⟨fun h => absurd ((nI_ne (by omega) (by omega)).mp h) hab, fun _ => hR _ _ hQ (Or.inr rfl)⟩⟩⟩)
theorem c_V_areTwoNodes_f {l : Launch} {G : jw_G} {A : Nat → Prop} {M : jw_Mem} {Q : Int32 → jw_Mem → Prop} {x1 x2 : Int32} (h : vs_out x1 5 ∨ vs_out x2 5 ∨ x1 = x2) (hQ : Q 0 M) : jw_M l (jw_g G) A f_V_areTwoNodes [.int x1, .int x2] M Q := by
  refine e_V_areTwoNodes (fun X hR => ?_)
  rcases vs_io x1 (n := 5) (by decide) with h1 | ⟨a, ha, rfl⟩
  · exact c_V_isNode_f h1 ⟨fun _ => hR _ _ hQ (Or.inl rfl), fun hc => absurd rfl hc⟩
  · refine c_V_isNode_t ha ⟨fun _ => hR _ _ hQ (Or.inl rfl), fun _ => ?_⟩
    rcases vs_io x2 (n := 5) (by decide) with h2 | ⟨p, hp, rfl⟩
    · exact c_V_isNode_f h2 ⟨fun _ => hR _ _ hQ (Or.inl rfl), fun hc => absurd rfl hc⟩
    · refine c_V_isNode_t hp ⟨fun _ => hR _ _ hQ (Or.inl rfl), fun _ => ⟨fun _ => hR _ _ hQ (Or.inl rfl), fun hne => ?_⟩⟩
      rcases h with h | h | h
      · exact absurd h (vs_out_n ha)
      · exact absurd h (vs_out_n hp)
      · exact absurd h hne
def sp_cut (σ : vs_S) (a b : Nat) (v : Bool) : vs_S := w_cu σ (fun x y => if (x = a ∧ y = b) ∨ (x = b ∧ y = a) then v else s_cu σ x y)
theorem vs_mmi {x y a b : Nat} (hx : x < 5) (hy : y < 5) (ha : a < 5) (hb : b < 5) : 5 * min x y + max x y = 5 * min a b + max a b ↔ (x = a ∧ y = b) ∨ (x = b ∧ y = a) := by omega
theorem c_V_cut_f {l : Launch} {G : jw_G} {A : Nat → Prop} {M : jw_Mem} {Q : Int32 → jw_Mem → Prop} {x1 x2 x3 : Int32} (h : vs_out x1 5 ∨ vs_out x2 5 ∨ x1 = x2) (hQ : Q 0 M) : jw_M l (jw_g G) A f_V_cut [jw_a G 0, .int x1, .int x2, .int x3] M Q :=
  e_V_cut (fun X hR => c_V_areTwoNodes_f h ⟨fun _ => hR _ _ hQ (Or.inl rfl), fun hc => absurd rfl hc⟩)
theorem c_V_cut {l : Launch} {G : jw_G} {A : Nat → Prop} {M : jw_Mem} {Q : Int32 → jw_Mem → Prop} {σ : vs_S} {a b : Nat} {v : Bool} (hC : vs_C σ M) (ha : a < 5) (hb : b < 5) (hab : a ≠ b) (hQ : ∀ M' : jw_Mem, vs_C (sp_cut σ a b v) M' → (∀ k, 41 ≤ k → M' k = M k) → Q (bI (!(s_cu σ a b == v))) M') : jw_M l (jw_g G) A f_V_cut [jw_a G 0, .int (nI a), .int (nI b), .int (bI v)] M Q := by
  have hcu := hC.2.2.2.1
  refine e_V_cut (fun X hR => c_V_areTwoNodes_t ha hb hab ⟨fun hc => absurd hc (by decide), fun _ => c_V_line ha hb ⟨5 * min a b + max a b, ⟨vs_mm ha hb, rfl⟩, fun h => c_V_line ha hb ⟨5 * min a b + max a b, ⟨vs_mm ha hb, rfl⟩, bI_01 v, ?_⟩, fun h => ?_⟩⟩)
  · rw [hcu a b ha hb, bI_inj] at h
    have := hQ (jw_U M 34 (5 * min a b + max a b) (bI v)) ?_ (fun k hk => jw_Une (by omega))
    · rw [show (s_cu σ a b == v) = false by simpa using h] at this
      exact hR _ _ this (Or.inr rfl)
    · refine vs_C_cu hC (fun k hk => jw_Une hk) (fun x y hx hy => ?_)
      rw [jw_Uat]
      by_cases e : (x = a ∧ y = b) ∨ (x = b ∧ y = a)
      · rw [if_pos ((vs_mmi hx hy ha hb).mpr e), if_pos e]
      · rw [if_neg (fun z => e ((vs_mmi hx hy ha hb).mp z)), if_neg e, hcu x y hx hy]
  · rw [hcu a b ha hb, bI_inj] at h
    have := hQ M ?_ (fun _ _ => rfl)
    · rw [show (s_cu σ a b == v) = true by simpa using h] at this
      exact hR _ _ this (Or.inl rfl)
    · refine vs_C_cu hC (fun _ _ => rfl) (fun x y hx hy => ?_)
      by_cases e : (x = a ∧ y = b) ∨ (x = b ∧ y = a)
      · rw [if_pos e, (vs_mmi hx hy ha hb).mpr e, hcu a b ha hb, h]
      · rw [if_neg e, hcu x y hx hy]
theorem c_M_cut_f {l : Launch} {G : jw_G} {A : Nat → Prop} {M : jw_Mem} {Q : Int32 → jw_Mem → Prop} {x1 x2 x3 : Int32} (h : vs_out x1 5 ∨ vs_out x2 5 ∨ x1 = x2) (hQ : Q 0 M) : jw_M l (jw_g G) A f_M_cut [jw_a G 41, .int x1, .int x2, .int x3] M Q := by
  refine e_M_cut (fun X hR => ?_)
  rcases vs_io x1 (n := 5) (by decide) with h1 | ⟨a, ha, rfl⟩
  · exact c_M_isNode_f h1 ⟨fun _ => hR _ _ hQ (Or.inl rfl), fun hc => absurd rfl hc⟩
  · refine c_M_isNode_t ha ⟨fun _ => hR _ _ hQ (Or.inl rfl), fun _ => ?_⟩
    rcases vs_io x2 (n := 5) (by decide) with h2 | ⟨p, hp, rfl⟩
    · exact c_M_isNode_f h2 ⟨fun _ => hR _ _ hQ (Or.inl rfl), fun hc => absurd rfl hc⟩
    · refine c_M_isNode_t hp ⟨fun _ => hR _ _ hQ (Or.inl rfl), fun _ => ⟨fun _ => hR _ _ hQ (Or.inl rfl), fun hne => ?_⟩⟩
      rcases h with h | h | h
      · exact absurd h (vs_out_n ha)
      · exact absurd h (vs_out_n hp)
      · exact absurd h hne
theorem c_M_cut {l : Launch} {G : jw_G} {A : Nat → Prop} {M : jw_Mem} {Q : Int32 → jw_Mem → Prop} {σ : vs_S} {a b : Nat} {v : Bool} (hC : vs_M σ M) (hsy : s_cu σ a b = s_cu σ b a) (ha : a < 5) (hb : b < 5) (hab : a ≠ b) (hQ : ∀ M' : jw_Mem, vs_M (sp_cut σ a b v) M' → (∀ k, k < 41 → M' k = M k) → Q (bI (!(s_cu σ a b == v))) M') : jw_M l (jw_g G) A f_M_cut [jw_a G 41, .int (nI a), .int (nI b), .int (bI v)] M Q := by
  have hcu := hC.2.2.2.1
  refine e_M_cut (fun X hR => c_M_isNode_t ha ⟨fun hc => absurd hc (by decide), fun _ => c_M_isNode_t hb ⟨fun hc => absurd hc (by decide), fun _ => ⟨fun hc => absurd ((nI_ne (by omega) (by omega)).mp hc) hab, fun _ => ⟨5 * a + b, ⟨by omega, nI_lin5 a b⟩, fun h => ⟨5 * a + b, ⟨by omega, nI_lin5 a b⟩, bI_01 v, 5 * b + a, ⟨by omega, nI_lin5 b a⟩, bI_01 v, ?_⟩, fun h => ?_⟩⟩⟩⟩)
  · rw [hcu a b ha hb, bI_inj] at h
    have := hQ (jw_U (jw_U M 43 (5 * a + b) (bI v)) 43 (5 * b + a) (bI v)) ?_ (fun k hk => (jw_Une (by omega)).trans (jw_Une (by omega)))
    · rw [show (s_cu σ a b == v) = false by simpa using h] at this
      exact hR _ _ this (Or.inr rfl)
    · refine vs_M_cu hC (fun k hk => (jw_Une hk).trans (jw_Une hk)) (fun x y hx hy => ?_)
      rw [jw_Uat, jw_Uat]
      by_cases e : x = b ∧ y = a
      · rw [if_pos (by omega), if_pos (Or.inr e)]
      · rw [if_neg (by omega)]
        by_cases e2 : x = a ∧ y = b
        · rw [if_pos (by omega), if_pos (Or.inl e2)]
        · rw [if_neg (by omega), if_neg (fun z => z.elim e2 e), hcu x y hx hy]
  · rw [hcu a b ha hb, bI_inj] at h
    have := hQ M ?_ (fun _ _ => rfl)
    · rw [show (s_cu σ a b == v) = true by simpa using h] at this
      exact hR _ _ this (Or.inl rfl)
    · refine vs_M_cu hC (fun _ _ => rfl) (fun x y hx hy => ?_)
      by_cases e : (x = a ∧ y = b) ∨ (x = b ∧ y = a)
      · rw [if_pos e]
        rcases e with ⟨rfl, rfl⟩ | ⟨rfl, rfl⟩
        · rw [hcu x y hx hy, h]
        · rw [hcu x y hx hy, ← hsy, h]
      · rw [if_neg e, hcu x y hx hy]
/-- the reference: work space alone has changed -/
def vs_sm (M M' : jw_Mem) : Prop := (∀ k, k ≠ 41 → k ≠ 51 → k ≠ 56 → k ≠ 57 → M' k = M k) ∧ ∀ j, j ≠ 21 → j ≠ 23 → M' 41 j = M 41 j
theorem vs_sm_r (M : jw_Mem) : vs_sm M M := ⟨fun _ _ _ _ _ => rfl, fun _ _ _ => rfl⟩
theorem vs_sm_t {M M' M'' : jw_Mem} (h : vs_sm M M') (h' : vs_sm M' M'') : vs_sm M M'' := ⟨fun k a b c d => (h'.1 k a b c d).trans (h.1 k a b c d), fun j a b => (h'.2 j a b).trans (h.2 j a b)⟩
theorem vs_sm_M {σ : vs_S} {M M' : jw_Mem} (h : vs_sm M M') (hC : vs_M σ M) : vs_M σ M' := by
  obtain ⟨⟨a1, a2, a3⟩, xow, xup, xcu, xmd, ⟨f1, f2, f3, f4⟩, xhs, xhi, xs, xk, xc, ⟨xf, xl⟩, xrp⟩ := hC
  obtain ⟨q, q2⟩ := h
  refine ⟨⟨(q2 0 (by decide) (by decide)).trans a1, (q2 1 (by decide) (by decide)).trans a2, (q2 2 (by decide) (by decide)).trans a3⟩, fun p hp => ?_, fun a ha => ?_, fun a b ha hb => ?_, (q2 6 (by decide) (by decide)).trans xmd, ⟨fun u hu => ?_, fun u hu => ?_, fun u hu => ?_, fun u hu => ?_⟩, fun a u ha hu => ?_, fun a u ha hu => ?_, fun c hc => ?_, fun c k hc hk => ?_, fun c k hc hk hx => ?_, ⟨(q2 18 (by decide) (by decide)).trans xf, fun u hu hx => ?_⟩, (q2 19 (by decide) (by decide)).trans xrp⟩
  · rw [q 44 (by decide) (by decide) (by decide) (by decide)]; exact xow p hp
  · rw [q 42 (by decide) (by decide) (by decide) (by decide)]; exact xup a ha
  · rw [q 43 (by decide) (by decide) (by decide) (by decide)]; exact xcu a b ha hb
  · rw [q 45 (by decide) (by decide) (by decide) (by decide)]; exact f1 u hu
  · rw [q 46 (by decide) (by decide) (by decide) (by decide)]; exact f2 u hu
  · rw [q 47 (by decide) (by decide) (by decide) (by decide)]; exact f3 u hu
  · rw [q 48 (by decide) (by decide) (by decide) (by decide)]; exact f4 u hu
  · rw [q 49 (by decide) (by decide) (by decide) (by decide)]; exact xhs a u ha hu
  · rw [q 50 (by decide) (by decide) (by decide) (by decide)]; exact xhi a u ha hu
  · rw [q 53 (by decide) (by decide) (by decide) (by decide)]; exact xs c hc
  · rw [q 52 (by decide) (by decide) (by decide) (by decide)]; exact xk c k hc hk
  · rw [q 54 (by decide) (by decide) (by decide) (by decide)]; exact xc c k hc hk hx
  · rw [q 55 (by decide) (by decide) (by decide) (by decide)]; exact xl u hu hx
def vs_AM (M : jw_Mem) (T : List Nat) : Prop := M 41 23 = nI T.length ∧ ∀ t, t < T.length → M 57 t = nI (T.getD t 0)
theorem c_M_aim {l : Launch} {G : jw_G} {A : Nat → Prop} {M : jw_Mem} {Q : Int32 → jw_Mem → Prop} {σ : vs_S} {a key : Nat} (hok : vs_ok σ) (hC : vs_M σ M) (ha : a < 5) (hk : key < 32)
    (hQ : ∀ M' : jw_Mem, vs_sm M M' → vs_LM M' (vs_row (s_ow σ) key 16) → vs_AM M' (vs_tg (s_mo σ) (vs_row (s_ow σ) key 16) (vs_rch (s_up σ) (s_cu σ) a)) → Q 0 M') : jw_M l (jw_g G) A f_M_aim [jw_a G 41, .int (nI a), .int (nI key)] M Q := by
  have hmo := hok.2.1
  have how := hok.2.2.2.1
  refine e_M_aim (fun X hR => c_M_list (ow := s_ow σ) hk hC.2.1 how (fun M1 ho1 h41 hL1 => ?_))
  generalize hr : vs_row (s_ow σ) key 16 = r at hQ hL1
  generalize hp : vs_rch (s_up σ) (s_cu σ) a = p at hQ
  have hrl : r.length ≤ 5 := by rw [← hr]; exact vs_row_len how 16
  have hr5 : ∀ x, x ∈ r → x < 5 := by rw [← hr]; exact vs_row_lt how 16
  have s1 : vs_sm M M1 := ⟨fun k k41 _ k56 _ => ho1 k k41 k56, fun j j21 _ => h41 j j21⟩
  have key2 : ∀ i, i ≤ r.length → ∀ M' : jw_Mem, vs_sm M M' → vs_LM M' r → vs_AM M' (vs_tg (s_mo σ) (r.take i) p) → jw_X l X (jw_g G) A f_M_aim 12 [some (jw_a G 41), some (.int (nI a)), some (.int (nI key)), some (.int (nI i))] [] M' := by
    refine vs_up ?_ ?_
    · intro M' hs hL hI
      rw [List.take_length] at hI
      refine k_M_aim_12 ⟨fun _ => hR _ (hQ M' hs hL hI), fun hc => absurd ?_ hc⟩
      rw [hL.1]
      exact nI_le (Nat.le_refl _) (by omega)
    · intro i hi ih M' hs hL hI
      have hCM := vs_sm_M hs hC
      have hx5 : r.getD i 0 < 5 := by
        rw [List.getD_eq_getElem?_getD, List.getElem?_eq_getElem hi]
        exact hr5 _ (List.getElem_mem hi)
      have hTl : (vs_tg (s_mo σ) (r.take i) p).length ≤ s_mo σ := by unfold vs_tg; rw [List.length_take]; omega
      have skip : ¬ ((vs_tg (s_mo σ) (r.take i) p).length < s_mo σ ∧ p (r.getD i 0) = true) → jw_X l X (jw_g G) A f_M_aim 12 [some (jw_a G 41), some (.int (nI a)), some (.int (nI key)), some (.int (nI i + 1))] [] M' := by
        intro hno
        rw [nI_1]
        refine ih M' hs hL ?_
        rw [vs_tg_s hi, if_neg hno]
        exact hI
      refine k_M_aim_12 ⟨fun hc => absurd hc ?_, fun _ => ⟨i, ⟨by omega, rfl⟩, ?_⟩⟩
      · rw [hL.1]
        exact nI_ge hi (by omega)
      · rw [hL.2 i hi]
        refine c_M_reaches (up := s_up σ) (cu := s_cu σ) ha hx5 hCM.2.2.1 hCM.2.2.2.1 ?_
        rw [hp]
        refine ⟨fun h1 => skip ?_, fun h1 => ⟨fun hc => skip ?_, fun hc => ⟨i, ⟨by omega, rfl⟩, (vs_tg (s_mo σ) (r.take i) p).length, ⟨by omega, hI.1⟩, ?_⟩⟩⟩
        · rw [bI_0] at h1
          intro z
          rw [z.2] at h1
          cases h1
        · rw [hCM.1.1, hI.1, nI_leI (by omega) (by omega)] at hc
          intro z
          omega
        · rw [bI_n0] at h1
          have hlt : (vs_tg (s_mo σ) (r.take i) p).length < s_mo σ := by
            rw [hCM.1.1, hI.1, nI_leI (by omega) (by omega)] at hc
            omega
          have eT : vs_tg (s_mo σ) (r.take (i + 1)) p = vs_tg (s_mo σ) (r.take i) p ++ [r.getD i 0] := by rw [vs_tg_s hi, if_pos ⟨hlt, h1⟩]
          rw [nI_1]
          refine ih _ (vs_sm_t hs ⟨fun k k41 _ _ k57 => (jw_Une k41).trans (jw_Une k57), fun j _ j23 => by rw [jw_Uat, if_neg j23, jw_Une (by decide)]⟩) ?_ ?_
          · unfold vs_LM
            rw [jw_Uat, if_neg (by decide), jw_Une (k := 57) (by decide), jw_Une (by decide), jw_Une (by decide)]
            exact hL
          · refine ⟨?_, fun t ht => ?_⟩
            · rw [jw_Uat, if_pos rfl, jw_Une (by decide), hI.1, nI_1, eT]
              simp
            · rw [jw_Une (by decide), jw_Uat]
              rw [eT] at ht ⊢
              simp at ht
              by_cases e : t = (vs_tg (s_mo σ) (r.take i) p).length
              · rw [if_pos e, hL.2 i hi, e]
                simp
              · rw [if_neg e, hI.2 t (by omega)]
                rw [List.getD_eq_getElem?_getD, List.getD_eq_getElem?_getD, List.getElem?_append_left (by omega)]
  refine key2 0 (Nat.zero_le _) _ (vs_sm_t s1 ⟨fun k k41 _ _ _ => jw_Une k41, fun j _ j23 => by rw [jw_Uat, if_neg j23]⟩) ?_ ?_
  · unfold vs_LM
    rw [jw_Uat, if_neg (by decide), jw_Une (by decide)]
    exact hL1
  · refine ⟨?_, fun t ht => ?_⟩
    · rw [jw_Uat, if_pos rfl]
      simp [vs_tg, nI_0]
    · simp [vs_tg] at ht
