/-! Ring: isAmongFirst, lookUp, hasHome -/
def oI : Option Nat → Int32
  | none => -1
  | some o => nI o
def vs_row (ow : Nat → Option Nat) (key : Nat) : Nat → List Nat
  | 0 => []
  | n + 1 => match ow ((5 * key + 3 + n) % 16) with
    | none => vs_row ow key n
    | some o => if (vs_row ow key n).contains o then vs_row ow key n else vs_row ow key n ++ [o]
theorem c_R_isAmongFirst {l : Launch} {G : jw_G} {A : Nat → Prop} {M : jw_Mem} {Q : Int32 → jw_Mem → Prop} {g : Nat → Nat} {num nd : Nat} (hn : num ≤ 5) (hg : ∀ i, i < num → M 3 i = nI (g i) ∧ g i < 5) (hd : nd < 5)
    (hQ : Q (bI ((List.range num).any (fun i => g i == nd))) M) : jw_M l (jw_g G) A f_R_isAmongFirst [jw_a G 1, .int (nI num), .int (nI nd)] M Q := by
  refine e_R_isAmongFirst (fun X hR => ?_)
  have key : ∀ i, i ≤ num → (∀ u, u < i → ¬ g u = nd) → jw_X l X (jw_g G) A f_R_isAmongFirst 2 [some (jw_a G 1), some (.int (nI num)), some (.int (nI nd)), some (.int (nI i))] [] M := by
    refine vs_up ?_ ?_
    · intro hu
      have e : (List.range num).any (fun i => g i == nd) = false := vs_any_f (fun u h => by simpa using hu u h)
      rw [e] at hQ
      exact k_R_isAmongFirst_2 ⟨fun _ => hR _ _ hQ (Or.inl rfl), fun hc => absurd (nI_le (Nat.le_refl _) (by omega)) hc⟩
    · intro i hi ih hu
      refine k_R_isAmongFirst_2 ⟨fun hc => absurd hc (nI_ge hi (by omega)), fun _ => ⟨i, ⟨by omega, rfl⟩, fun hne => ?_, fun he => ?_⟩⟩
      · rw [nI_1]
        refine ih (fun u h => ?_)
        by_cases e : u = i
        · subst e
          intro e2
          rw [(hg u hi).1, e2] at hne
          exact hne rfl
        · exact hu u (by omega)
      · have e : (List.range num).any (fun i => g i == nd) = true := by
          refine vs_any_t hi ?_
          rw [(hg i hi).1, nI_ne (by have := (hg i hi).2; omega) (by omega)] at he
          simpa using he
        rw [e] at hQ
        exact hR _ _ hQ (Or.inr rfl)
  exact key 0 (Nat.zero_le _) (fun u h => absurd h (Nat.not_lt_zero u))
theorem vs_pig : ∀ (n : Nat) (l : List Nat), l.Nodup → (∀ x, x ∈ l → x < n) → l.length ≤ n
  | 0, l, _, h => by
    cases l with
    | nil => exact Nat.le_refl 0
    | cons a t => exact absurd (h a List.mem_cons_self) (Nat.not_lt_zero a)
  | n + 1, l, hn, h => by
    have h1 := vs_pig n (l.erase n) (hn.erase n) (fun x hx => by
      have hx2 := (hn.mem_erase_iff).mp hx
      have := h x hx2.2
      have := hx2.1
      omega)
    have h2 : l.length ≤ (l.erase n).length + 1 := by
      rw [List.length_erase]
      split <;> omega
    omega
theorem vs_row_lt {ow : Nat → Option Nat} {key : Nat} (ho : ∀ p o, ow p = some o → o < 5) : ∀ n x, x ∈ vs_row ow key n → x < 5
  | 0, x, h => by simp [vs_row] at h
  | n + 1, x, h => by
    unfold vs_row at h
    split at h
    · exact vs_row_lt ho n x h
    · rename_i o hp
      split at h
      · exact vs_row_lt ho n x h
      · rcases List.mem_append.mp h with h | h
        · exact vs_row_lt ho n x h
        · rw [List.mem_singleton.mp h]
          exact ho _ o hp
theorem vs_row_nd {ow : Nat → Option Nat} {key : Nat} : ∀ n, (vs_row ow key n).Nodup
  | 0 => by simp [vs_row]
  | n + 1 => by
    unfold vs_row
    split
    · exact vs_row_nd n
    · rename_i o hp
      split
      · exact vs_row_nd n
      · rename_i hc
        refine List.nodup_append.mpr ⟨vs_row_nd n, by simp, fun a ha b hb e => hc ?_⟩
        rw [List.mem_singleton.mp hb] at e
        rw [← e]
        simpa using ha
theorem vs_row_len {ow : Nat → Option Nat} {key : Nat} (ho : ∀ p o, ow p = some o → o < 5) (n : Nat) : (vs_row ow key n).length ≤ 5 := vs_pig 5 _ (vs_row_nd n) (vs_row_lt ho n)
theorem vs_has_any (l : List Nat) (o : Nat) : (List.range l.length).any (fun i => l.getD i 0 == o) = l.contains o := by
  rw [Bool.eq_iff_iff, List.any_eq_true, List.contains_iff_mem]
  constructor
  · rintro ⟨i, hi, e⟩
    have hi2 := List.mem_range.mp hi
    rw [List.getD_eq_getElem?_getD, List.getElem?_eq_getElem hi2] at e
    have e2 : l[i] = o := by simpa using e
    rw [← e2]
    exact List.getElem_mem hi2
  · intro h
    obtain ⟨i, hi, e⟩ := List.getElem_of_mem h
    refine ⟨i, List.mem_range.mpr hi, ?_⟩
    rw [List.getD_eq_getElem?_getD, List.getElem?_eq_getElem hi]
    simpa using e
theorem nI_rem16 {n : Nat} (h : n < 2147483648) : nI n - nI n / 16 * 16 = nI (n % 16) := pk_rem (d := 16) (by omega) (by decide) (by decide)
/-- the list of a key, as Ring keeps it -/
def vs_LU (M : jw_Mem) (mo : Nat) (r : List Nat) : Prop := M 1 0 = nI mo ∧ M 1 3 = nI r.length ∧ M 1 4 = nI (min mo r.length) ∧ ∀ t, t < r.length → M 3 t = nI (r.getD t 0)
theorem c_R_lookUp {l : Launch} {G : jw_G} {A : Nat → Prop} {M : jw_Mem} {Q : Int32 → jw_Mem → Prop} {key mo : Nat} {ow : Nat → Option Nat} (hk : key < 32) (hmo : mo ≤ 3) (h0 : M 1 0 = nI mo) (hw : ∀ p, p < 16 → M 2 p = oI (ow p)) (ho : ∀ p o, ow p = some o → o < 5)
    (hQ : ∀ M' : jw_Mem, (∀ k, k ≠ 1 → k ≠ 3 → M' k = M k) → vs_LU M' mo (vs_row ow key 16) → Q 0 M') : jw_M l (jw_g G) A f_R_lookUp [jw_a G 1, .int (nI key)] M Q := by
  refine e_R_lookUp (fun X hR => ?_)
  have e53 : (5 * nI key) + 3 = nI (5 * key + 3) := by
    rw [show (5 : Int32) = nI 5 from rfl, show (3 : Int32) = nI 3 from rfl, pk_mul, nI_add]
  rw [e53]
  have key2 : ∀ i, i ≤ 16 → ∀ M' : jw_Mem, (∀ k, k ≠ 1 → k ≠ 3 → M' k = M k) → M' 1 0 = nI mo → M' 1 3 = nI (vs_row ow key i).length → (∀ t, t < (vs_row ow key i).length → M' 3 t = nI ((vs_row ow key i).getD t 0)) → jw_X l X (jw_g G) A f_R_lookUp 13 [some (jw_a G 1), some (.int (nI key)), some (.int (nI (5 * key + 3))), some (.int (nI i)), none] [] M' := by
    refine vs_up ?_ ?_
    · intro M' hof h1 h3 hr
      refine k_R_lookUp_13 ⟨fun _ => hR _ (hQ _ (fun k k1 k3 => (jw_Une k1).trans (hof k k1 k3)) ⟨?_, ?_, ?_, ?_⟩), fun hc => absurd (nI_le (a := 16) (Nat.le_refl _) (by omega)) hc⟩
      · rw [jw_Uat, if_neg (by decide)]; exact h1
      · rw [jw_Uat, if_neg (by decide)]; exact h3
      · rw [jw_Uat, if_pos rfl, h1, h3]
        have hl := vs_row_len ho 16 (key := key)
        by_cases c : (vs_row ow key 16).length < mo
        · rw [if_pos (nI_lt c (by omega)), Nat.min_eq_right (by omega)]
        · rw [if_neg (nI_nlt (by omega) (by omega)), Nat.min_eq_left (by omega)]
      · intro t ht
        rw [jw_Une (by decide)]
        exact hr t ht
    · intro i hi ih M' hof h1 h3 hr
      have hl := vs_row_len ho i (key := key)
      have e2 : M' 2 = M 2 := hof 2 (by decide) (by decide)
      have em : (5 * key + 3 + i) % 16 < 16 := Nat.mod_lt _ (by decide)
      refine k_R_lookUp_13 ⟨fun hc => absurd hc (nI_ge (b := 16) hi (by omega)), fun _ => ⟨(5 * key + 3 + i) % 16, ⟨em, by rw [nI_add]; exact nI_rem16 (by omega)⟩, ?_⟩⟩
      rw [e2, hw _ em]
      cases hp : ow ((5 * key + 3 + i) % 16) with
      | none =>
        refine ⟨fun _ => ?_, fun hc => absurd rfl hc⟩
        rw [nI_1]
        refine ih M' hof h1 ?_ ?_
        · rw [h3]; simp only [vs_row, hp]
        · simp only [vs_row, hp]; exact hr
      | some o =>
        have ho5 := ho _ o hp
        refine ⟨fun hc => absurd hc (nI_m1 (by omega)), fun _ => ?_⟩
        rw [h3]
        refine c_R_isAmongFirst (g := fun t => (vs_row ow key i).getD t 0) (nd := o) hl (fun t ht => ⟨hr t ht, ?_⟩) ho5 ?_
        · rw [List.getD_eq_getElem?_getD, List.getElem?_eq_getElem ht]
          exact vs_row_lt ho i _ (List.getElem_mem ht)
        · rw [vs_has_any]
          refine ⟨fun hc => ?_, fun hc => ?_⟩
          · have hc2 := bI_n0.mp hc
            rw [nI_1]
            refine ih M' hof h1 ?_ ?_
            · rw [h3]; simp only [vs_row, hp, hc2, if_true]
            · simp only [vs_row, hp, hc2, if_true]; exact hr
          · have hc2 := bI_0.mp hc
            have hlt : (vs_row ow key i).length < 5 := by
              have h9 := vs_row_len ho (i + 1) (key := key)
              simp only [vs_row, hp, hc2] at h9
              simp at h9
              omega
            have ei : vs_row ow key (i + 1) = vs_row ow key i ++ [o] := by simp only [vs_row, hp, hc2]; rfl
            refine ⟨(vs_row ow key i).length, ⟨hlt, h3⟩, ?_⟩
            rw [nI_1]
            refine ih _ (fun k k1 k3 => (jw_Une k1).trans ((jw_Une k3).trans (hof k k1 k3))) ?_ ?_ ?_
            · rw [jw_Uat, if_neg (by decide), jw_Une (by decide)]; exact h1
            · rw [jw_Uat, if_pos rfl, jw_Une (by decide), h3, nI_1, ei]; simp
            · intro t ht
              rw [jw_Une (by decide), jw_Uat]
              rw [ei] at ht ⊢
              simp at ht
              by_cases e : t = (vs_row ow key i).length
              · rw [if_pos e, e]
                simp [oI]
              · have ht2 : t < (vs_row ow key i).length := by omega
                rw [if_neg e, hr t ht2]
                simp [List.getElem?_append_left ht2]
  have h9 : ∀ t, t < (vs_row ow key 0).length → (jw_U M 1 3 0) 3 t = nI ((vs_row ow key 0).getD t 0) := fun t ht => absurd ht (by simp [vs_row])
  refine key2 0 (Nat.zero_le _) _ (fun k k1 k3 => jw_Une k1) ?_ ?_ h9
  · rw [jw_Uat, if_neg (by decide)]; exact h0
  · rw [jw_Uat, if_pos rfl]; rfl
theorem c_R_hasHome {l : Launch} {G : jw_G} {A : Nat → Prop} {M : jw_Mem} {Q : Int32 → jw_Mem → Prop} {mo nd : Nat} {r : List Nat} (hL : vs_LU M mo r) (hl : r.length ≤ 5) (hr : ∀ x, x ∈ r → x < 5) (hd : nd < 5) (hQ : Q (bI ((r.take mo).contains nd)) M) : jw_M l (jw_g G) A f_R_hasHome [jw_a G 1, .int (nI nd)] M Q := by
  refine e_R_hasHome (fun X hR => ?_)
  rw [hL.2.2.1]
  have hmin : min mo r.length ≤ r.length := Nat.min_le_right _ _
  have e : (List.range (min mo r.length)).any (fun i => r.getD i 0 == nd) = (r.take mo).contains nd := by
    rw [← vs_has_any, List.length_take]
    refine vs_any_c (fun u hu => ?_)
    rw [List.getD_eq_getElem?_getD, List.getD_eq_getElem?_getD, List.getElem?_take_of_lt (by omega)]
  refine c_R_isAmongFirst (g := fun t => r.getD t 0) (by omega) (fun i hi => ⟨hL.2.2.2 i (by omega), ?_⟩) hd ?_
  · rw [List.getD_eq_getElem?_getD, List.getElem?_eq_getElem (by omega)]
    exact hr _ (List.getElem_mem _)
  · rw [e]
    exact hR _ _ hQ (bI_01 _)
