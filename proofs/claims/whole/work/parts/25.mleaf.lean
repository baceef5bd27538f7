/-! The reference: below, placeIn, list, reaches, take -/
theorem c_M_below {l : Launch} {G : jw_G} {A : Nat → Prop} {M : jw_Mem} {Q : Int32 → jw_Mem → Prop} {u v : Nat} (hu : u < 40) (hv : v < 40) (hQ : Q (bI (blw (M 48) u v)) M) : jw_M l (jw_g G) A f_M_below [jw_a G 41, .int (nI u), .int (nI v)] M Q := by
  refine e_M_below (fun X hR => ?_)
  have key : ∀ i, i ≤ 5 → jw_X l X (jw_g G) A f_M_below 5 [some (jw_a G 41), some (.int (nI u)), some (.int (nI v)), some (.int (bI ((List.range i).all (fun n => decide (M 48 (5 * u + n) ≤ M 48 (5 * v + n)))))), some (.int (nI i))] [] M := by
    refine vs_up ?_ ?_
    · exact k_M_below_5 ⟨fun _ => hR _ _ hQ (bI_01 _), fun hc => absurd (nI_le (a := 5) (Nat.le_refl _) (by omega)) hc⟩
    · intro i hi ih
      rw [vs_all_s] at ih
      refine k_M_below_5 ⟨fun hc => absurd hc (nI_ge (b := 5) hi (by omega)), fun _ => ⟨fun h1 => ?_, fun h1 => ⟨5 * u + i, ⟨by omega, nI_lin5 u i⟩, 5 * v + i, ⟨by omega, nI_lin5 v i⟩, fun h2 => ?_, fun h2 => ?_⟩⟩⟩
      · rw [nI_1]
        rw [bI_0.mp h1] at ih
        exact ih
      · rw [nI_1]
        rw [show decide (M 48 (5 * u + i) ≤ M 48 (5 * v + i)) = false from decide_eq_false (Int32.not_le.mpr h2), Bool.and_false] at ih
        exact ih
      · rw [nI_1]
        rw [bI_n0.mp h1, show decide (M 48 (5 * u + i) ≤ M 48 (5 * v + i)) = true from decide_eq_true (Int32.not_lt.mp h2)] at ih
        exact ih
  exact key 0 (Nat.zero_le _)
theorem c_M_placeIn {l : Launch} {G : jw_G} {A : Nat → Prop} {M : jw_Mem} {Q : Int32 → jw_Mem → Prop} {r : List Nat} {nd : Nat} (hl : r.length ≤ 5) (h1 : M 41 21 = nI r.length) (hr : ∀ t, t < r.length → M 56 t = nI (r.getD t 0) ∧ r.getD t 0 < 5) (hd : nd < 5)
    (hQ : (∀ t, t < r.length → ¬ r.getD t 0 = nd) → Q (-1) M) (hQ2 : ∀ t, t < r.length → r.getD t 0 = nd → Q (nI t) M) : jw_M l (jw_g G) A f_M_placeIn [jw_a G 41, .int (nI nd)] M Q := by
  refine e_M_placeIn (fun X hR => ?_)
  have key : ∀ i, i ≤ r.length → (∀ t, t < i → ¬ r.getD t 0 = nd) → jw_X l X (jw_g G) A f_M_placeIn 2 [some (jw_a G 41), some (.int (nI nd)), some (.int (nI i))] [] M := by
    refine vs_up ?_ ?_
    · intro hu
      refine k_M_placeIn_2 ⟨fun _ => hR _ _ (hQ hu), fun hc => absurd ?_ hc⟩
      rw [h1]
      exact nI_le (Nat.le_refl _) (by omega)
    · intro i hi ih hu
      refine k_M_placeIn_2 ⟨fun hc => absurd hc ?_, fun _ => ⟨i, ⟨by omega, rfl⟩, fun h2 => ?_, fun h2 => ?_⟩⟩
      · rw [h1]
        exact nI_ge hi (by omega)
      · rw [nI_1]
        refine ih (lt_s hu (fun e => h2 ?_))
        rw [(hr i hi).1, e]
      · rw [(hr i hi).1, nI_ne (by have := (hr i hi).2; omega) (by omega)] at h2
        exact hR _ _ (hQ2 i hi h2)
  exact key 0 (Nat.zero_le _) lt_0
def oM : Option Nat → Int32
  | none => 0
  | some o => nI (o + 1)
/-- the list of a key, as the reference keeps it -/
def vs_LM (M : jw_Mem) (r : List Nat) : Prop := M 41 21 = nI r.length ∧ ∀ t, t < r.length → M 56 t = nI (r.getD t 0)
theorem c_M_list {l : Launch} {G : jw_G} {A : Nat → Prop} {M : jw_Mem} {Q : Int32 → jw_Mem → Prop} {key : Nat} {ow : Nat → Option Nat} (hk : key < 32) (hw : ∀ p, p < 16 → M 44 p = oM (ow p)) (ho : ∀ p o, ow p = some o → o < 5)
    (hQ : ∀ M' : jw_Mem, (∀ k, k ≠ 41 → k ≠ 56 → M' k = M k) → (∀ j, j ≠ 21 → M' 41 j = M 41 j) → vs_LM M' (vs_row ow key 16) → Q 0 M') : jw_M l (jw_g G) A f_M_list [jw_a G 41, .int (nI key)] M Q := by
  refine e_M_list (fun X hR => ?_)
  have e53 : (5 * nI key) + 3 = nI (5 * key + 3) := by
    rw [show (5 : Int32) = nI 5 from rfl, show (3 : Int32) = nI 3 from rfl, pk_mul, nI_add]
  have key2 : ∀ i, i ≤ 16 → ∀ M' : jw_Mem, (∀ k, k ≠ 41 → k ≠ 56 → M' k = M k) → (∀ j, j ≠ 21 → M' 41 j = M 41 j) → M' 41 21 = nI (vs_row ow key i).length → (∀ t, t < (vs_row ow key i).length → M' 56 t = nI ((vs_row ow key i).getD t 0)) → jw_X l X (jw_g G) A f_M_list 7 [some (jw_a G 41), some (.int (nI key)), some (.int (nI i)), none] [] M' := by
    refine vs_up ?_ ?_
    · intro M' hof h41 h3 hr
      exact k_M_list_7 ⟨fun _ => hR _ (hQ _ hof h41 ⟨h3, hr⟩), fun hc => absurd (nI_le (a := 16) (Nat.le_refl _) (by omega)) hc⟩
    · intro i hi ih M' hof h41 h3 hr
      have hl := vs_row_len ho i (key := key)
      have e2 : M' 44 = M 44 := hof 44 (by decide) (by decide)
      have em : (5 * key + 3 + i) % 16 < 16 := Nat.mod_lt _ (by decide)
      refine k_M_list_7 ⟨fun hc => absurd hc (nI_ge (b := 16) hi (by omega)), fun _ => ⟨(5 * key + 3 + i) % 16, ⟨em, by rw [e53, nI_add]; exact nI_rem16 (by omega)⟩, ?_⟩⟩
      rw [e2, hw _ em]
      cases hp : ow ((5 * key + 3 + i) % 16) with
      | none =>
        refine ⟨fun _ => ?_, fun hc => absurd (show oM none - 1 < 0 by decide) hc⟩
        rw [nI_1]
        refine ih M' hof h41 ?_ ?_
        · rw [h3]; simp only [vs_row, hp]
        · simp only [vs_row, hp]; exact hr
      | some o =>
        have ho5 := ho _ o hp
        have eo : oM (some o) - 1 = nI o := nI_pred o
        rw [eo]
        refine ⟨fun hc => absurd hc (nI_pos (by omega)), fun _ => ?_⟩
        refine c_M_placeIn (r := vs_row ow key i) (nd := o) hl h3 (fun t ht => ⟨hr t ht, ?_⟩) ho5 (fun hno => ?_) (fun t ht he => ?_)
        · rw [List.getD_eq_getElem?_getD, List.getElem?_eq_getElem ht]
          exact vs_row_lt ho i _ (List.getElem_mem ht)
        · have hc2 : (vs_row ow key i).contains o = false := by
            rw [← vs_has_any]
            exact vs_any_f (fun t ht => by simpa using hno t ht)
          refine ⟨fun hc => absurd hc (by decide), fun _ => ?_⟩
          have hlt : (vs_row ow key i).length < 5 := by
            have h9 := vs_row_len ho (i + 1) (key := key)
            simp only [vs_row, hp, hc2] at h9
            simp at h9
            omega
          have ei : vs_row ow key (i + 1) = vs_row ow key i ++ [o] := by simp only [vs_row, hp, hc2]; rfl
          refine ⟨(vs_row ow key i).length, ⟨hlt, h3⟩, ?_⟩
          rw [nI_1]
          refine ih _ (fun k k1 k3 => (jw_Une k1).trans ((jw_Une k3).trans (hof k k1 k3))) (fun j hj => ?_) ?_ ?_
          · rw [jw_Uat, if_neg hj, jw_Une (by decide)]; exact h41 j hj
          · rw [jw_Uat, if_pos rfl, jw_Une (by decide), h3, nI_1, ei]; simp
          · intro t ht
            rw [jw_Une (by decide), jw_Uat]
            rw [ei] at ht ⊢
            simp at ht
            by_cases e : t = (vs_row ow key i).length
            · rw [if_pos e, e]
              simp
            · have ht2 : t < (vs_row ow key i).length := by omega
              rw [if_neg e, hr t ht2]
              simp [List.getElem?_append_left ht2]
        · have hc2 : (vs_row ow key i).contains o = true := by
            rw [← vs_has_any]
            exact vs_any_t ht (by simpa using he)
          refine ⟨fun _ => ?_, fun hc => absurd (nI_pos' (by omega)) hc⟩
          rw [nI_1]
          refine ih M' hof h41 ?_ ?_
          · rw [h3]; simp only [vs_row, hp, hc2, if_true]
          · simp only [vs_row, hp, hc2, if_true]; exact hr
  refine key2 0 (Nat.zero_le _) _ (fun k k1 k3 => jw_Une k1) (fun j hj => by rw [jw_Uat, if_neg hj]) ?_ (fun t ht => absurd ht (by simp [vs_row]))
  rw [jw_Uat, if_pos rfl]; rfl
theorem c_M_take {l : Launch} {G : jw_G} {A : Nat → Prop} {M : jw_Mem} {Q : Int32 → jw_Mem → Prop} {a v md : Nat} {h : Nat → Bool} (ha : a < 5) (hv : v < 40) (hm : M 41 6 = nI md) (hmd : md ≤ 40) (hh : ∀ u, u < 40 → M 49 (40 * a + u) = bI (h u))
    (hQ : ∀ M' : jw_Mem, (∀ k, k ≠ 49 → M' k = M k) → (∀ i, (i < 40 * a ∨ 40 * a + 40 ≤ i) → M' 49 i = M 49 i) → (∀ u, u < 40 → M' 49 (40 * a + u) = bI (vs_tk h (M 45) (M 48) md v u)) → Q 0 M') : jw_M l (jw_g G) A f_M_take [jw_a G 41, .int (nI a), .int (nI v)] M Q := by
  refine e_M_take (fun X hR => ?_)
  -- the second loop
  have key2 : vs_pas h (M 45) (M 48) md v = false → ∀ i, i ≤ md → ∀ M' : jw_Mem, (∀ k, k ≠ 49 → M' k = M k) → (∀ i, (i < 40 * a ∨ 40 * a + 40 ≤ i) → M' 49 i = M 49 i) → (∀ u, u < 40 → M' 49 (40 * a + u) = bI (vs_cut h (M 45) (M 48) i v u)) → jw_X l X (jw_g G) A f_M_take 57 [some (jw_a G 41), some (.int (nI a)), some (.int (nI v)), some (.int (nI i))] [] M' := by
    intro hp
    refine vs_up ?_ ?_
    · intro M' ho hx hr
      refine k_M_take_57 ⟨fun _ => ⟨40 * a + v, ⟨by omega, nI_lin40 a v⟩, hR _ (hQ _ (fun k hk => (jw_Une hk).trans (ho k hk)) (fun i hi => ?_) (fun u hu => ?_))⟩, fun hc => absurd ?_ hc⟩
      · rw [jw_Uat, if_neg (by omega)]
        exact hx i hi
      · rw [jw_Uat]
        unfold vs_tk
        rw [hp]
        by_cases e : u = v
        · simp [e, bI]
        · rw [if_neg (by omega), hr u hu]
          simp [e]
      · rw [ho 41 (by decide), hm]
        exact nI_le (Nat.le_refl _) (by omega)
    · intro i hi ih M' ho hx hr
      have e41 : M' 41 = M 41 := ho 41 (by decide)
      have e45 : M' 45 = M 45 := ho 45 (by decide)
      have e48 : M' 48 = M 48 := ho 48 (by decide)
      have e3 : ∀ u, u ≠ i → decide (u < i) = decide (u < i + 1) := by
        intro u hu
        simp only [decide_eq_decide]
        omega
      have same : (M 45 i == M 45 v && blw (M 48) i v) = false → jw_X l X (jw_g G) A f_M_take 57 [some (jw_a G 41), some (.int (nI a)), some (.int (nI v)), some (.int (nI i + 1))] [] M' := by
        intro e
        rw [nI_1]
        refine ih M' ho hx (fun u hu => ?_)
        rw [hr u hu]
        by_cases hu2 : u = i
        · subst hu2
          simp [vs_cut, e]
        · simp [vs_cut, e3 u hu2]
      refine k_M_take_57 ⟨fun hc => absurd hc ?_, fun _ => ⟨i, ⟨by omega, rfl⟩, v, ⟨hv, rfl⟩, fun h1 => ?_, fun h1 => c_M_below (by omega) hv ⟨fun h2 => ?_, fun h2 => ⟨40 * a + i, ⟨by omega, nI_lin40 a i⟩, ?_⟩⟩⟩⟩
      · rw [e41, hm]
        exact nI_ge hi (by omega)
      · rw [e45] at h1
        exact same (by simp [h1])
      · rw [e48] at h2
        exact same (by rw [bI_0.mp h2]; simp)
      · rw [e45] at h1
        rw [e48] at h2
        rw [nI_1]
        refine ih _ (fun k hk => (jw_Une hk).trans (ho k hk)) (fun j hj => ?_) (fun u hu => ?_)
        · rw [jw_Uat, if_neg (by omega)]
          exact hx j hj
        · rw [jw_Uat]
          by_cases hu2 : u = i
          · subst hu2
            simp [vs_cut, h1, bI_n0.mp h2, bI]
          · rw [if_neg (by omega), hr u hu]
            simp [vs_cut, e3 u hu2]
  have key : ∀ i, i ≤ md → (∀ u, u < i → (vs_bes h (M 45) u v && blw (M 48) v u) = false) → jw_X l X (jw_g G) A f_M_take 2 [some (jw_a G 41), some (.int (nI a)), some (.int (nI v)), some (.int (nI i))] [] M := by
    refine vs_up ?_ ?_
    · intro hu
      have hp : vs_pas h (M 45) (M 48) md v = false := vs_any_f hu
      refine k_M_take_2 ⟨fun _ => key2 hp 0 (Nat.zero_le _) M (fun _ _ => rfl) (fun _ _ => rfl) (fun u hu => by rw [hh u hu]; simp [vs_cut]), fun hc => absurd ?_ hc⟩
      rw [hm]
      exact nI_le (Nat.le_refl _) (by omega)
    · intro i hi ih hu
      have step : (vs_bes h (M 45) i v && blw (M 48) v i) = false → jw_X l X (jw_g G) A f_M_take 2 [some (jw_a G 41), some (.int (nI a)), some (.int (nI v)), some (.int (nI i + 1))] [] M := by
        intro e
        rw [nI_1]
        exact ih (lt_s hu e)
      refine k_M_take_2 ⟨fun hc => absurd hc ?_, fun _ => ⟨40 * a + i, ⟨by omega, nI_lin40 a i⟩, fun h1 => ?_, fun h1 => ⟨i, ⟨by omega, rfl⟩, v, ⟨hv, rfl⟩, fun h2 => ?_, fun h2 => c_M_below hv (by omega) ⟨fun h3 => ?_, fun h3 => ?_⟩⟩⟩⟩
      · rw [hm]
        exact nI_ge hi (by omega)
      · rw [hh i (by omega), bI_0] at h1
        exact step (by simp [vs_bes, h1])
      · exact step (by simp [vs_bes, h2])
      · exact step (by rw [bI_0.mp h3]; simp)
      · rw [hh i (by omega), bI_n0] at h1
        have hp : vs_pas h (M 45) (M 48) md v = true := vs_any_t hi (by rw [bI_n0.mp h3]; simp [vs_bes, h1, h2])
        refine hR _ (hQ M (fun _ _ => rfl) (fun _ _ => rfl) (fun u hu => ?_))
        rw [hh u hu]
        simp [vs_tk, hp]
  exact key 0 (Nat.zero_le _) lt_0
