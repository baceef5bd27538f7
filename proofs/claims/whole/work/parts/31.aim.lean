/-! The class: work space alone has changed; aim -/
def vs_same (M M' : jw_Mem) : Prop := (∀ k, k ≠ 0 → k ≠ 1 → k ≠ 3 → k ≠ 36 → k ≠ 37 → k ≠ 38 → k ≠ 39 → k ≠ 40 → M' k = M k) ∧ M' 0 5 = M 0 5 ∧ M' 0 6 = M 0 6 ∧ M' 0 8 = M 0 8 ∧ M' 1 0 = M 1 0
theorem vs_same_r (M : jw_Mem) : vs_same M M := ⟨fun _ _ _ _ _ _ _ _ _ => rfl, rfl, rfl, rfl, rfl⟩
theorem vs_same_t {M M' M'' : jw_Mem} (h : vs_same M M') (h' : vs_same M' M'') : vs_same M M'' := ⟨fun k a b c d e f g i => (h'.1 k a b c d e f g i).trans (h.1 k a b c d e f g i), h'.2.1.trans h.2.1, h'.2.2.1.trans h.2.2.1, h'.2.2.2.1.trans h.2.2.2.1, h'.2.2.2.2.trans h.2.2.2.2⟩
theorem vs_same_C {σ : vs_S} {M M' : jw_Mem} (h : vs_same M M') (hC : vs_C σ M) : vs_C σ M' := by
  obtain ⟨⟨a1, a2, a3⟩, b, c, d, e, ⟨f1, f2, f3, f4⟩, g, i, j, k, n, m⟩ := hC
  have q : ∀ k, k ≠ 0 → k ≠ 1 → k ≠ 3 → k ≠ 36 → k ≠ 37 → k ≠ 38 → k ≠ 39 → k ≠ 40 → M' k = M k := h.1
  refine ⟨⟨h.2.2.2.2.trans a1, h.2.1.trans a2, h.2.2.1.trans a3⟩, fun p hp => ?_, fun a ha => ?_, fun a b ha hb => ?_, ?_, ⟨fun u hu => ?_, fun u hu => ?_, fun u hu => ?_, fun u hu => ?_⟩, fun a u ha hu => ?_, fun a u ha hu => ?_, fun x hx => ?_, fun x y hx hy => ?_, fun u hu => ?_, h.2.2.2.1.trans m⟩
  · rw [q 2 (by omega) (by omega) (by omega) (by omega) (by omega) (by omega) (by omega) (by omega)]; exact b p hp
  · rw [q (10 + 3 * a) (by omega) (by omega) (by omega) (by omega) (by omega) (by omega) (by omega) (by omega)]; exact c a ha
  · rw [q 34 (by omega) (by omega) (by omega) (by omega) (by omega) (by omega) (by omega) (by omega)]; exact d a b ha hb
  · rw [q 4 (by omega) (by omega) (by omega) (by omega) (by omega) (by omega) (by omega) (by omega)]; exact e
  · rw [q 5 (by omega) (by omega) (by omega) (by omega) (by omega) (by omega) (by omega) (by omega)]; exact f1 u hu
  · rw [q 6 (by omega) (by omega) (by omega) (by omega) (by omega) (by omega) (by omega) (by omega)]; exact f2 u hu
  · rw [q 7 (by omega) (by omega) (by omega) (by omega) (by omega) (by omega) (by omega) (by omega)]; exact f3 u hu
  · rw [q 8 (by omega) (by omega) (by omega) (by omega) (by omega) (by omega) (by omega) (by omega)]; exact f4 u hu
  · rw [q (11 + 3 * a) (by omega) (by omega) (by omega) (by omega) (by omega) (by omega) (by omega) (by omega)]; exact g a u ha hu
  · rw [q (12 + 3 * a) (by omega) (by omega) (by omega) (by omega) (by omega) (by omega) (by omega) (by omega)]; exact i a u ha hu
  · rw [q (26 + 2 * x) (by omega) (by omega) (by omega) (by omega) (by omega) (by omega) (by omega) (by omega)]; exact j x hx
  · rw [q (27 + 2 * x) (by omega) (by omega) (by omega) (by omega) (by omega) (by omega) (by omega) (by omega)]; exact k x y hx hy
  · rw [q 35 (by omega) (by omega) (by omega) (by omega) (by omega) (by omega) (by omega) (by omega)]; exact n u hu
theorem vs_take_s {r : List Nat} {i : Nat} (h : i < r.length) : r.take (i + 1) = r.take i ++ [r.getD i 0] := by
  rw [List.take_succ, List.getElem?_eq_getElem h, List.getD_eq_getElem?_getD, List.getElem?_eq_getElem h]
  rfl
/-- the targets: the first 'most' of the list that can be reached -/
def vs_tg (mo : Nat) (r : List Nat) (p : Nat → Bool) : List Nat := (r.filter p).take mo
/-- how many of them are homes -/
def vs_th (mo : Nat) (r : List Nat) (p : Nat → Bool) : Nat := ((r.take mo).filter p).length
def vs_AI (M : jw_Mem) (T : List Nat) (hm : Nat) : Prop := M 0 10 = nI T.length ∧ M 0 11 = nI hm ∧ ∀ t, t < T.length → M 36 t = nI (T.getD t 0)
theorem vs_tg_s {mo i : Nat} {r : List Nat} {p : Nat → Bool} (h : i < r.length) : vs_tg mo (r.take (i + 1)) p = if (vs_tg mo (r.take i) p).length < mo ∧ p (r.getD i 0) = true then vs_tg mo (r.take i) p ++ [r.getD i 0] else vs_tg mo (r.take i) p := by
  unfold vs_tg
  rw [vs_take_s h, List.filter_append]
  rw [List.length_take]
  generalize r.getD i 0 = x
  generalize (r.take i).filter p = F
  by_cases hp : p x = true
  · have e : List.filter p [x] = [x] := by simp [hp]
    rw [e]
    by_cases hl : min mo F.length < mo
    · rw [if_pos ⟨hl, hp⟩]
      have h1 : F.length < mo := by omega
      rw [List.take_of_length_le (l := F ++ [x]) (by simp; omega), List.take_of_length_le (l := F) (by omega)]
    · rw [if_neg (fun z => hl z.1), List.take_append_of_le_length (by omega)]
  · have e : List.filter p [x] = [] := by simp [hp]
    rw [e, List.append_nil, if_neg (fun z => hp z.2)]
theorem vs_th_s {mo i : Nat} {r : List Nat} {p : Nat → Bool} (h : i < r.length) : ((r.take (min (i + 1) mo)).filter p).length = ((r.take (min i mo)).filter p).length + (if i < mo ∧ p (r.getD i 0) = true then 1 else 0) := by
  by_cases c : i < mo
  · rw [Nat.min_eq_left (by omega), Nat.min_eq_left (by omega), vs_take_s h, List.filter_append, List.length_append]
    generalize r.getD i 0 = x
    by_cases hp : p x = true
    · simp [hp, c]
    · simp [hp]
  · rw [Nat.min_eq_right (by omega), Nat.min_eq_right (by omega), if_neg (fun z => c z.1)]
    rfl
theorem c_V_aim {l : Launch} {G : jw_G} {A : Nat → Prop} {M : jw_Mem} {Q : Int32 → jw_Mem → Prop} {σ : vs_S} {a key : Nat} (hok : vs_ok σ) (hC : vs_C σ M) (ha : a < 5) (hk : key < 32)
    (hQ : ∀ M' : jw_Mem, vs_same M M' → vs_LU M' (s_mo σ) (vs_row (s_ow σ) key 16) → vs_AI M' (vs_tg (s_mo σ) (vs_row (s_ow σ) key 16) (vs_rch (s_up σ) (s_cu σ) a)) (vs_th (s_mo σ) (vs_row (s_ow σ) key 16) (vs_rch (s_up σ) (s_cu σ) a)) → Q 0 M') : jw_M l (jw_g G) A f_V_aim [jw_a G 0, .int (nI a), .int (nI key)] M Q := by
  have hmo := hok.2.1
  have how := hok.2.2.2.1
  refine e_V_aim (fun X hR => c_R_lookUp (ow := s_ow σ) (mo := s_mo σ) hk hmo hC.1.1 hC.2.1 how (fun M1 ho1 hL1 => ?_))
  generalize hr : vs_row (s_ow σ) key 16 = r at hQ hL1
  generalize hp : vs_rch (s_up σ) (s_cu σ) a = p at hQ
  have hrl : r.length ≤ 5 := by rw [← hr]; exact vs_row_len how 16
  have hr5 : ∀ x, x ∈ r → x < 5 := by rw [← hr]; exact vs_row_lt how 16
  have s1 : vs_same M M1 := ⟨fun k _ k1 k3 _ _ _ _ _ => ho1 k k1 k3, by rw [ho1 0 (by decide) (by decide)], by rw [ho1 0 (by decide) (by decide)], by rw [ho1 0 (by decide) (by decide)], hL1.1.trans hC.1.1.symm⟩
  have key2 : ∀ i, i ≤ r.length → ∀ M' : jw_Mem, vs_same M M' → vs_LU M' (s_mo σ) r → vs_AI M' (vs_tg (s_mo σ) (r.take i) p) ((r.take (min i (s_mo σ))).filter p).length → jw_X l X (jw_g G) A f_V_aim 20 [some (jw_a G 0), some (.int (nI a)), some (.int (nI key)), some (.int (nI i))] [] M' := by
    refine vs_up ?_ ?_
    · intro M' hs hL hI
      refine k_V_aim_20 ⟨fun _ => hR _ (hQ M' hs hL ?_), fun hc => absurd ?_ hc⟩
      · rw [List.take_length] at hI
        have e : (r.take (min r.length (s_mo σ))) = r.take (s_mo σ) := by
          by_cases c : r.length ≤ s_mo σ
          · rw [Nat.min_eq_left c, List.take_length, List.take_of_length_le c]
          · rw [Nat.min_eq_right (by omega)]
        rw [e] at hI
        exact hI
      · rw [hL.2.1]
        exact nI_le (Nat.le_refl _) (by omega)
    · intro i hi ih M' hs hL hI
      have hCM := vs_same_C hs hC
      have hx5 : r.getD i 0 < 5 := by
        rw [List.getD_eq_getElem?_getD, List.getElem?_eq_getElem hi]
        exact hr5 _ (List.getElem_mem hi)
      have hTl : (vs_tg (s_mo σ) (r.take i) p).length ≤ s_mo σ := by unfold vs_tg; rw [List.length_take]; omega
      have skip : ¬ ((vs_tg (s_mo σ) (r.take i) p).length < s_mo σ ∧ p (r.getD i 0) = true) → jw_X l X (jw_g G) A f_V_aim 20 [some (jw_a G 0), some (.int (nI a)), some (.int (nI key)), some (.int (nI i + 1))] [] M' := by
        intro hno
        rw [nI_1]
        refine ih M' hs hL ?_
        rw [vs_tg_s hi, if_neg hno, vs_th_s hi, if_neg ?_]
        · exact hI
        · intro z
          refine hno ⟨?_, z.2⟩
          have h1 : (vs_tg (s_mo σ) (r.take i) p).length ≤ ((r.take i).filter p).length := by unfold vs_tg; rw [List.length_take]; omega
          have h2 : ((r.take i).filter p).length ≤ (r.take i).length := List.length_filter_le _ _
          have h3 : (r.take i).length ≤ i := by rw [List.length_take]; omega
          omega
      refine k_V_aim_20 ⟨fun hc => absurd hc ?_, fun _ => ⟨fun hc => skip ?_, fun hc => ⟨i, ⟨by omega, rfl⟩, ?_⟩⟩⟩
      · rw [hL.2.1]
        exact nI_ge hi (by omega)
      · rw [hL.1, hI.1, nI_leI (by omega) (by omega)] at hc
        intro z
        omega
      · have hlt : (vs_tg (s_mo σ) (r.take i) p).length < s_mo σ := by
          rw [hL.1, hI.1, nI_leI (by omega) (by omega)] at hc
          omega
        rw [hL.2.2.2 i hi]
        refine c_V_reaches (up := s_up σ) (cu := s_cu σ) ha hx5 hCM.2.2.1 hCM.2.2.2.1 ?_
        rw [hp]
        refine ⟨fun h1 => skip ?_, fun h1 => ⟨i, ⟨by omega, rfl⟩, (vs_tg (s_mo σ) (r.take i) p).length, ⟨by omega, hI.1⟩, ?_⟩⟩
        · rw [bI_0] at h1
          intro z
          rw [z.2] at h1
          cases h1
        · rw [bI_n0] at h1
          have eT : vs_tg (s_mo σ) (r.take (i + 1)) p = vs_tg (s_mo σ) (r.take i) p ++ [r.getD i 0] := by rw [vs_tg_s hi, if_pos ⟨hlt, h1⟩]
          have hnew : ∀ M2 : jw_Mem, (∀ k, k ≠ 0 → k ≠ 36 → M2 k = M' k) → (∀ j, j ≠ 10 → j ≠ 11 → M2 0 j = M' 0 j) → M2 0 10 = M' 0 10 + 1 → M2 0 11 = nI ((r.take (min (i + 1) (s_mo σ))).filter p).length → (∀ t, M2 36 t = if t = (vs_tg (s_mo σ) (r.take i) p).length then M' 3 i else M' 36 t) → jw_X l X (jw_g G) A f_V_aim 20 [some (jw_a G 0), some (.int (nI a)), some (.int (nI key)), some (.int (nI i + 1))] [] M2 := by
            intro M2 g1 g2 g3 g4 g5
            rw [nI_1]
            refine ih M2 (vs_same_t hs ⟨fun k k0 _ _ k36 _ _ _ _ => g1 k k0 k36, g2 5 (by decide) (by decide), g2 6 (by decide) (by decide), g2 8 (by decide) (by decide), by rw [g1 1 (by decide) (by decide)]⟩) ?_ ?_
            · unfold vs_LU
              rw [g1 1 (by decide) (by decide), g1 3 (by decide) (by decide)]
              exact hL
            · refine ⟨?_, g4, fun t ht => ?_⟩
              · rw [g3, hI.1, nI_1, eT]
                simp
              · rw [g5]
                rw [eT] at ht ⊢
                simp at ht
                by_cases e : t = (vs_tg (s_mo σ) (r.take i) p).length
                · rw [if_pos e, hL.2.2.2 i hi, e]
                  simp
                · rw [if_neg e, hI.2.2 t (by omega)]
                  rw [List.getD_eq_getElem?_getD, List.getD_eq_getElem?_getD, List.getElem?_append_left (by omega)]
          have u10 : ∀ (x : Int32) (q : Nat), q ≠ 0 → jw_U (jw_U M' 36 (vs_tg (s_mo σ) (r.take i) p).length (M' 3 i)) 0 10 x q = jw_U M' 36 (vs_tg (s_mo σ) (r.take i) p).length (M' 3 i) q := fun x q hq => jw_Une hq
          refine ⟨fun h2 => ?_, fun h2 => ?_⟩
          · rw [jw_Une (by decide), jw_Une (by decide), hL.2.2.1, nI_leI (by omega) (by omega)] at h2
            refine hnew _ (fun k k0 k36 => (jw_Une k0).trans (jw_Une k36)) (fun j j1 j2 => by rw [jw_Uat, if_neg j1, jw_Une (by decide)]) ?_ ?_ ?_
            · rw [jw_Uat, if_pos rfl, jw_Une (by decide)]
            · rw [jw_Uat, if_neg (by decide), jw_Une (by decide), hI.2.1, vs_th_s hi, if_neg (fun z => by omega)]
              rfl
            · intro t
              rw [jw_Une (by decide), jw_Uat]
          · rw [jw_Une (by decide), jw_Une (by decide), hL.2.2.1, nI_leI (by omega) (by omega)] at h2
            refine hnew _ (fun k k0 k36 => (jw_Une k0).trans ((jw_Une k0).trans (jw_Une k36))) (fun j j1 j2 => by rw [jw_Uat, if_neg j2, jw_Uat, if_neg j1, jw_Une (by decide)]) ?_ ?_ ?_
            · rw [jw_Uat, if_neg (by decide), jw_Uat, if_pos rfl, jw_Une (by decide)]
            · rw [jw_Uat, if_pos rfl, jw_Uat, if_neg (by decide), jw_Une (by decide), hI.2.1, nI_1, vs_th_s hi, if_pos ⟨by omega, h1⟩]
            · intro t
              rw [jw_Une (by decide), jw_Une (by decide), jw_Uat]
  refine key2 0 (Nat.zero_le _) _ (vs_same_t s1 ⟨fun k k0 _ _ _ _ _ _ _ => (jw_Une k0).trans (jw_Une k0), by rw [jw_Uat, if_neg (by decide), jw_Uat, if_neg (by decide)], by rw [jw_Uat, if_neg (by decide), jw_Uat, if_neg (by decide)], by rw [jw_Uat, if_neg (by decide), jw_Uat, if_neg (by decide)], by rw [jw_Une (by decide), jw_Une (by decide)]⟩) ?_ ?_
  · unfold vs_LU
    rw [jw_Une (by decide), jw_Une (by decide), jw_Une (by decide), jw_Une (by decide)]
    exact hL1
  · refine ⟨?_, ?_, fun t ht => ?_⟩
    · rw [jw_Uat, if_neg (by decide), jw_Uat, if_pos rfl]
      simp [vs_tg, nI_0]
    · rw [jw_Uat, if_pos rfl]
      simp [nI_0]
    · simp [vs_tg] at ht
