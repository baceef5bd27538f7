/-! Node: hasHintOf, hasBeside, isPassed, take, takeAll, dropAll, writeOut -/
theorem c_N_hasHintOf {l : Launch} {G : jw_G} {A : Nat → Prop} {M : jw_Mem} {Q : Int32 → jw_Mem → Prop} {a v : Nat} (ha : a < 5) (hv : v < 40) (hQ : Q (bI (!(M (12 + 3 * a) v == -1))) M) : jw_M l (jw_g G) A f_N_hasHintOf [jw_a G (10 + 3 * a), .int (nI v)] M Q := by
  refine e_N_hasHintOf ha (fun X hR => ⟨v, ⟨hv, rfl⟩, fun h => ?_, fun h => ?_⟩)
  · refine hR _ _ ?_ (Or.inl rfl)
    simpa [h, bI] using hQ
  · refine hR _ _ ?_ (Or.inr rfl)
    simpa [h, bI] using hQ
def vs_bes (h : Nat → Bool) (ky : Nat → Int32) (u v : Nat) : Bool := h u && ky u == ky v
theorem c_N_hasBeside {l : Launch} {G : jw_G} {A : Nat → Prop} {M : jw_Mem} {Q : Int32 → jw_Mem → Prop} {a u v : Nat} {h : Nat → Bool} (ha : a < 5) (hu : u < 40) (hv : v < 40) (hh : M (11 + 3 * a) u = bI (h u)) (hQ : Q (bI (vs_bes h (M 5) u v)) M) : jw_M l (jw_g G) A f_N_hasBeside [jw_a G (10 + 3 * a), .int (nI u), .int (nI v)] M Q := by
  refine e_N_hasBeside ha (fun X hR => ⟨u, ⟨hu, rfl⟩, fun h1 => ?_, fun h1 => ⟨u, ⟨hu, rfl⟩, v, ⟨hv, rfl⟩, fun h2 => ?_, fun h2 => ?_⟩⟩)
  · rw [hh, bI_0] at h1
    refine hR _ _ ?_ (Or.inl rfl)
    simpa [vs_bes, h1, bI] using hQ
  · rw [hh, bI_n0] at h1
    refine hR _ _ ?_ (Or.inl rfl)
    simpa [vs_bes, h1, h2, bI] using hQ
  · rw [hh, bI_n0] at h1
    refine hR _ _ ?_ (Or.inr rfl)
    simpa [vs_bes, h1, h2, bI] using hQ
def vs_pas (h : Nat → Bool) (ky cl : Nat → Int32) (md v : Nat) : Bool := (List.range md).any (fun u => vs_bes h ky u v && blw cl v u)
theorem c_N_isPassed {l : Launch} {G : jw_G} {A : Nat → Prop} {M : jw_Mem} {Q : Int32 → jw_Mem → Prop} {a v md : Nat} {h : Nat → Bool} (ha : a < 5) (hv : v < 40) (hm : M 4 4 = nI md) (hmd : md ≤ 40) (hh : ∀ u, u < 40 → M (11 + 3 * a) u = bI (h u)) (hQ : Q (bI (vs_pas h (M 5) (M 8) md v)) M) : jw_M l (jw_g G) A f_N_isPassed [jw_a G (10 + 3 * a), .int (nI v)] M Q := by
  refine e_N_isPassed ha (fun X hR => ?_)
  have key : ∀ i, i ≤ md → (∀ u, u < i → (vs_bes h (M 5) u v && blw (M 8) v u) = false) → jw_X l X (jw_g G) A f_N_isPassed 2 [some (jw_a G (10 + 3 * a)), some (.int (nI v)), some (.int (nI i))] [] M := by
    refine vs_up ?_ ?_
    · intro hu
      have e : vs_pas h (M 5) (M 8) md v = false := vs_any_f hu
      rw [e] at hQ
      refine k_N_isPassed_2 ha ⟨fun _ => hR _ _ hQ (Or.inl rfl), fun hc => absurd ?_ hc⟩
      rw [hm]
      exact nI_le (Nat.le_refl _) (by omega)
    · intro i hi ih hu
      have step : (vs_bes h (M 5) i v && blw (M 8) v i) = false → jw_X l X (jw_g G) A f_N_isPassed 2 [some (jw_a G (10 + 3 * a)), some (.int (nI v)), some (.int (nI i + 1))] [] M := by
        intro e
        rw [nI_1]
        exact ih (lt_s hu e)
      refine k_N_isPassed_2 ha ⟨fun hc => absurd hc ?_, fun _ => c_N_hasBeside ha (by omega) hv (hh i (by omega)) ⟨fun h1 => ?_, fun h1 => c_G_isAtOrBelow hv (by omega) ⟨fun h2 => ?_, fun h2 => ?_⟩⟩⟩
      · rw [hm]
        exact nI_ge hi (by omega)
      · exact step (by rw [bI_0.mp h1]; rfl)
      · exact step (by rw [bI_0.mp h2]; simp)
      · have e : vs_pas h (M 5) (M 8) md v = true := vs_any_t hi (by rw [bI_n0.mp h1, bI_n0.mp h2]; rfl)
        rw [e] at hQ
        exact hR _ _ hQ (Or.inr rfl)
  exact key 0 (Nat.zero_le _) lt_0
def vs_cut (h : Nat → Bool) (ky cl : Nat → Int32) (i v u : Nat) : Bool := if decide (u < i) && (ky u == ky v && blw cl u v) then false else h u
def vs_tk (h : Nat → Bool) (ky cl : Nat → Int32) (md v u : Nat) : Bool := if vs_pas h ky cl md v then h u else if u = v then true else vs_cut h ky cl md v u
theorem c_N_take {l : Launch} {G : jw_G} {A : Nat → Prop} {M : jw_Mem} {Q : Int32 → jw_Mem → Prop} {a v md : Nat} {h : Nat → Bool} (ha : a < 5) (hv : v < 40) (hm : M 4 4 = nI md) (hmd : md ≤ 40) (hh : ∀ u, u < 40 → M (11 + 3 * a) u = bI (h u))
    (hQ : ∀ M' : jw_Mem, (∀ k, k ≠ 11 + 3 * a → M' k = M k) → (∀ u, u < 40 → M' (11 + 3 * a) u = bI (vs_tk h (M 5) (M 8) md v u)) → Q (bI (!vs_pas h (M 5) (M 8) md v)) M') : jw_M l (jw_g G) A f_N_take [jw_a G (10 + 3 * a), .int (nI v)] M Q := by
  refine e_N_take ha (fun X hR => c_N_isPassed ha hv hm hmd hh ⟨fun h1 => ?_, fun h1 => ?_⟩)
  · have hp := bI_0.mp h1
    have key : ∀ i, i ≤ md → ∀ M' : jw_Mem, (∀ k, k ≠ 11 + 3 * a → M' k = M k) → (∀ u, u < 40 → M' (11 + 3 * a) u = bI (vs_cut h (M 5) (M 8) i v u)) → jw_X l X (jw_g G) A f_N_take 12 [some (jw_a G (10 + 3 * a)), some (.int (nI v)), some (.int (nI i))] [] M' := by
      refine vs_up ?_ ?_
      · intro M' ho hr
        have e4 : M' 4 = M 4 := ho 4 (by omega)
        refine k_N_take_12 ha ⟨fun _ => ⟨v, ⟨hv, rfl⟩, hR _ _ ?_ (Or.inr rfl)⟩, fun hc => absurd ?_ hc⟩
        · have := hQ (jw_U M' (11 + 3 * a) v 1) (fun k hk => (jw_Une hk).trans (ho k hk)) (fun u hu => ?_)
          · rw [hp] at this
            exact this
          · rw [jw_Uat]
            unfold vs_tk
            rw [hp]
            by_cases e : u = v
            · simp [e, bI]
            · rw [if_neg e, hr u hu]
              simp [e]
        · rw [e4, hm]
          exact nI_le (Nat.le_refl _) (by omega)
      · intro i hi ih M' ho hr
        have e4 : M' 4 = M 4 := ho 4 (by omega)
        have e5 : M' 5 = M 5 := ho 5 (by omega)
        have e8 : M' 8 = M 8 := ho 8 (by omega)
        have hi' : vs_cut h (M 5) (M 8) i v i = h i := by simp [vs_cut]
        have same : (vs_bes h (M 5) i v && blw (M 8) i v) = false → ∀ u, u < 40 → M' (11 + 3 * a) u = bI (vs_cut h (M 5) (M 8) (i + 1) v u) := by
          intro e u hu
          rw [hr u hu]
          by_cases hu2 : u = i
          · subst hu2
            rw [hi']
            cases hx : h u with
            | false => simp [vs_cut, hx]
            | true =>
              have e1 : (M 5 u == M 5 v && blw (M 8) u v) = false := by
                unfold vs_bes at e
                rw [hx, Bool.true_and] at e
                exact e
              unfold vs_cut
              rw [e1, Bool.and_false, hx]
              rfl
          · have e3 : decide (u < i) = decide (u < i + 1) := by
              simp only [decide_eq_decide]
              omega
            simp [vs_cut, e3]
        have step : ∀ M'' : jw_Mem, (∀ k, k ≠ 11 + 3 * a → M'' k = M k) → (∀ u, u < 40 → M'' (11 + 3 * a) u = bI (vs_cut h (M 5) (M 8) (i + 1) v u)) → jw_X l X (jw_g G) A f_N_take 12 [some (jw_a G (10 + 3 * a)), some (.int (nI v)), some (.int (nI i + 1))] [] M'' := by
          intro M'' h2 h3
          rw [nI_1]
          exact ih M'' h2 h3
        refine k_N_take_12 ha ⟨fun hc => absurd hc ?_, fun _ => c_N_hasBeside (h := vs_cut h (M 5) (M 8) i v) ha (by omega) hv (hr i (by omega)) ⟨fun h2 => ?_, fun h2 => c_G_isAtOrBelow (by omega) hv ⟨fun h3 => ?_, fun h3 => ⟨i, ⟨by omega, rfl⟩, ?_⟩⟩⟩⟩
        · rw [e4, hm]
          exact nI_ge hi (by omega)
        · refine step M' ho (same ?_)
          have h4 := bI_0.mp h2
          rw [e5] at h4
          unfold vs_bes at h4 ⊢
          rw [hi'] at h4
          rw [h4]
          rfl
        · refine step M' ho (same ?_)
          have h4 := bI_0.mp h3
          rw [e8] at h4
          rw [h4]
          simp
        · refine step _ (fun k hk => (jw_Une hk).trans (ho k hk)) (fun u hu => ?_)
          have h4 := bI_n0.mp h2
          have h5 := bI_n0.mp h3
          rw [e5] at h4
          rw [e8] at h5
          rw [jw_Uat]
          by_cases hu2 : u = i
          · subst hu2
            unfold vs_bes at h4
            rw [if_pos rfl]
            simp only [Bool.and_eq_true] at h4
            simp [vs_cut, h4.2, h5, bI]
          · rw [if_neg hu2, hr u hu]
            have e3 : decide (u < i) = decide (u < i + 1) := by
              simp only [decide_eq_decide]
              omega
            simp [vs_cut, e3]
    refine key 0 (Nat.zero_le _) M (fun _ _ => rfl) (fun u hu => ?_)
    rw [hh u hu]
    simp [vs_cut]
  · have hp := bI_n0.mp h1
    refine hR _ _ ?_ (Or.inl rfl)
    have := hQ M (fun _ _ => rfl) (fun u hu => by rw [hh u hu]; simp [vs_tk, hp])
    rw [hp] at this
    exact this
/-- one after the other, in the order of the numbers: what the node has, and how many it took -/
def vs_tkA (h : Nat → Bool) (ky cl : Nat → Int32) (md : Nat) (row : Nat → Bool) : Nat → Nat → Bool
  | 0 => h
  | i + 1 => if row i then vs_tk (vs_tkA h ky cl md row i) ky cl md i else vs_tkA h ky cl md row i
def vs_tkN (h : Nat → Bool) (ky cl : Nat → Int32) (md : Nat) (row : Nat → Bool) : Nat → Nat
  | 0 => 0
  | i + 1 => if row i && !vs_pas (vs_tkA h ky cl md row i) ky cl md i then vs_tkN h ky cl md row i + 1 else vs_tkN h ky cl md row i
theorem c_N_takeAll {l : Launch} {G : jw_G} {A : Nat → Prop} {M : jw_Mem} {Q : Int32 → jw_Mem → Prop} {a q md : Nat} {h row : Nat → Bool} (ha : a < 5) (hq : jw_KT[q]? = some (2, 40, [])) (hqa : q ≠ 11 + 3 * a) (hm : M 4 4 = nI md) (hmd : md ≤ 40) (hh : ∀ u, u < 40 → M (11 + 3 * a) u = bI (h u)) (hr : ∀ u, u < md → M q u = bI (row u))
    (hQ : ∀ M' : jw_Mem, (∀ k, k ≠ 11 + 3 * a → M' k = M k) → (∀ u, u < 40 → M' (11 + 3 * a) u = bI (vs_tkA h (M 5) (M 8) md row md u)) → Q (nI (vs_tkN h (M 5) (M 8) md row md)) M') : jw_M l (jw_g G) A f_N_takeAll [jw_a G (10 + 3 * a), jw_a G q] M Q := by
  refine e_N_takeAll ha hq (fun X hR => ?_)
  have key : ∀ i, i ≤ md → ∀ M' : jw_Mem, (∀ k, k ≠ 11 + 3 * a → M' k = M k) → (∀ u, u < 40 → M' (11 + 3 * a) u = bI (vs_tkA h (M 5) (M 8) md row i u)) → jw_X l X (jw_g G) A f_N_takeAll 4 [some (jw_a G (10 + 3 * a)), some (jw_a G q), some (.int (nI (vs_tkN h (M 5) (M 8) md row i))), some (.int (nI i))] [] M' := by
    refine vs_up ?_ ?_
    · intro M' ho hr'
      refine k_N_takeAll_4 ha hq ⟨fun _ => hR _ _ (hQ M' ho hr'), fun hc => absurd ?_ hc⟩
      rw [ho 4 (by omega), hm]
      exact nI_le (Nat.le_refl _) (by omega)
    · intro i hi ih M' ho hr'
      have e4 : M' 4 = M 4 := ho 4 (by omega)
      have e5 : M' 5 = M 5 := ho 5 (by omega)
      have e8 : M' 8 = M 8 := ho 8 (by omega)
      refine k_N_takeAll_4 ha hq ⟨fun hc => absurd hc ?_, fun _ => ⟨i, ⟨by omega, rfl⟩, fun h1 => ?_, fun h1 => ?_⟩⟩
      · rw [e4, hm]
        exact nI_ge hi (by omega)
      · rw [ho q hqa, hr i hi] at h1
        have h2 := bI_0.mp h1
        rw [nI_1]
        have ih2 := ih M' ho
        simp only [vs_tkA, vs_tkN, h2] at ih2
        exact ih2 hr'
      · rw [ho q hqa, hr i hi] at h1
        have h2 := bI_n0.mp h1
        refine c_N_take (h := vs_tkA h (M 5) (M 8) md row i) (md := md) ha (by omega) (by rw [e4]; exact hm) hmd hr' (fun M'' ho2 hr2 => ⟨fun h3 => ?_, fun h3 => ?_⟩)
        · rw [e5, e8] at h3 hr2
          have h4 := bI_0.mp h3
          rw [nI_1]
          have ih2 := ih M'' (fun k hk => (ho2 k hk).trans (ho k hk))
          have e6 : vs_pas (vs_tkA h (M 5) (M 8) md row i) (M 5) (M 8) md i = true := by simpa using h4
          simp only [vs_tkA, vs_tkN, h2, e6] at ih2
          exact ih2 hr2
        · rw [e5, e8] at h3 hr2
          have h4 := bI_n0.mp h3
          rw [nI_1, nI_1]
          have ih2 := ih M'' (fun k hk => (ho2 k hk).trans (ho k hk))
          have e6 : vs_pas (vs_tkA h (M 5) (M 8) md row i) (M 5) (M 8) md i = false := by simpa using h4
          simp only [vs_tkA, vs_tkN, h2, e6] at ih2
          exact ih2 hr2
  exact key 0 (Nat.zero_le _) M (fun _ _ => rfl) hh
theorem c_N_dropAll {l : Launch} {G : jw_G} {A : Nat → Prop} {M : jw_Mem} {Q : Int32 → jw_Mem → Prop} {a q md : Nat} {h row : Nat → Bool} (ha : a < 5) (hq : jw_KT[q]? = some (2, 40, [])) (hqa : q ≠ 11 + 3 * a) (hm : M 4 4 = nI md) (hmd : md ≤ 40) (hh : ∀ u, u < 40 → M (11 + 3 * a) u = bI (h u)) (hr : ∀ u, u < md → M q u = bI (row u))
    (hQ : ∀ M' : jw_Mem, (∀ k, k ≠ 11 + 3 * a → M' k = M k) → (∀ u, u < 40 → M' (11 + 3 * a) u = bI (if decide (u < md) && row u then false else h u)) → Q 0 M') : jw_M l (jw_g G) A f_N_dropAll [jw_a G (10 + 3 * a), jw_a G q] M Q := by
  refine e_N_dropAll ha hq (fun X hR => ?_)
  have key : ∀ i, i ≤ md → ∀ M' : jw_Mem, (∀ k, k ≠ 11 + 3 * a → M' k = M k) → (∀ u, u < 40 → M' (11 + 3 * a) u = bI (if decide (u < i) && row u then false else h u)) → jw_X l X (jw_g G) A f_N_dropAll 2 [some (jw_a G (10 + 3 * a)), some (jw_a G q), some (.int (nI i))] [] M' := by
    refine vs_up ?_ ?_
    · intro M' ho hr'
      refine k_N_dropAll_2 ha hq ⟨fun _ => hR _ (hQ M' ho hr'), fun hc => absurd ?_ hc⟩
      rw [ho 4 (by omega), hm]
      exact nI_le (Nat.le_refl _) (by omega)
    · intro i hi ih M' ho hr'
      have e3 : ∀ u, u ≠ i → decide (u < i) = decide (u < i + 1) := by
        intro u hu
        simp only [decide_eq_decide]
        omega
      refine k_N_dropAll_2 ha hq ⟨fun hc => absurd hc ?_, fun _ => ⟨i, ⟨by omega, rfl⟩, fun h1 => ?_, fun h1 => ⟨i, ⟨by omega, rfl⟩, ?_⟩⟩⟩
      · rw [ho 4 (by omega), hm]
        exact nI_ge hi (by omega)
      · rw [ho q hqa, hr i hi] at h1
        have h2 := bI_0.mp h1
        rw [nI_1]
        refine ih M' ho (fun u hu => ?_)
        rw [hr' u hu]
        by_cases e : u = i
        · subst e
          simp [h2]
        · rw [e3 u e]
      · rw [ho q hqa, hr i hi] at h1
        have h2 := bI_n0.mp h1
        rw [nI_1]
        refine ih _ (fun k hk => (jw_Une hk).trans (ho k hk)) (fun u hu => ?_)
        rw [jw_Uat]
        by_cases e : u = i
        · subst e
          simp [h2, bI]
        · rw [if_neg e, hr' u hu, e3 u e]
  refine key 0 (Nat.zero_le _) M (fun _ _ => rfl) (fun u hu => ?_)
  rw [hh u hu]
  simp
theorem c_N_writeOut {l : Launch} {G : jw_G} {A : Nat → Prop} {M : jw_Mem} {Q : Int32 → jw_Mem → Prop} {a q md : Nat} {x : Int32} {h : Nat → Bool} (ha : a < 5) (hq : jw_KT[q]? = some (2, 40, [])) (hqa : q ≠ 11 + 3 * a) (hm : M 4 4 = nI md) (hmd : md ≤ 40) (hh : ∀ u, u < 40 → M (11 + 3 * a) u = bI (h u))
    (hQ : ∀ M' : jw_Mem, (∀ k, k ≠ q → M' k = M k) → (∀ u, u < md → M' q u = bI (h u && M 5 u == x)) → Q (nI (vs_cnt (fun u => h u && M 5 u == x) md)) M') : jw_M l (jw_g G) A f_N_writeOut [jw_a G (10 + 3 * a), .int x, jw_a G q] M Q := by
  have q4 : q ≠ 4 := fun e => by rw [e] at hq; revert hq; decide
  have q5 : q ≠ 5 := fun e => by rw [e] at hq; revert hq; decide
  refine e_N_writeOut ha hq (fun X hR => ?_)
  have key : ∀ i, i ≤ md → ∀ M' : jw_Mem, (∀ k, k ≠ q → M' k = M k) → (∀ u, u < i → M' q u = bI (h u && M 5 u == x)) → jw_X l X (jw_g G) A f_N_writeOut 5 [some (jw_a G (10 + 3 * a)), some (.int x), some (jw_a G q), some (.int (nI (vs_cnt (fun u => h u && M 5 u == x) i))), some (.int (nI i))] [] M' := by
    refine vs_up ?_ ?_
    · intro M' ho hr'
      refine k_N_writeOut_5 ha hq ⟨fun _ => hR _ _ (hQ M' ho hr'), fun hc => absurd ?_ hc⟩
      rw [ho 4 (Ne.symm q4), hm]
      exact nI_le (Nat.le_refl _) (by omega)
    · intro i hi ih M' ho hr'
      have e5 : M' 5 = M 5 := ho 5 (Ne.symm q5)
      have eh : M' (11 + 3 * a) i = bI (h i) := by rw [ho _ (Ne.symm hqa)]; exact hh i (by omega)
      have st0 : (h i && M 5 i == x) = false → jw_X l X (jw_g G) A f_N_writeOut 5 [some (jw_a G (10 + 3 * a)), some (.int x), some (jw_a G q), some (.int (nI (vs_cnt (fun u => h u && M 5 u == x) i))), some (.int (nI i + 1))] [] (jw_U M' q i 0) := by
        intro e
        rw [nI_1]
        have ih2 := ih (jw_U M' q i 0) (fun k hk => (jw_Une hk).trans (ho k hk)) (fun u hu => by
          rw [jw_Uat]
          by_cases e2 : u = i
          · subst e2; rw [if_pos rfl, e]; rfl
          · rw [if_neg e2]; exact hr' u (by omega))
        have e9 : vs_cnt (fun u => h u && M 5 u == x) (i + 1) = vs_cnt (fun u => h u && M 5 u == x) i := by
          show vs_cnt _ i + (if (h i && M 5 i == x) then 1 else 0) = _
          rw [e]; rfl
        rw [e9] at ih2
        exact ih2
      have st1 : (h i && M 5 i == x) = true → jw_X l X (jw_g G) A f_N_writeOut 5 [some (jw_a G (10 + 3 * a)), some (.int x), some (jw_a G q), some (.int (nI (vs_cnt (fun u => h u && M 5 u == x) i) + 1)), some (.int (nI i + 1))] [] (jw_U M' q i 1) := by
        intro e
        rw [nI_1, nI_1]
        have ih2 := ih (jw_U M' q i 1) (fun k hk => (jw_Une hk).trans (ho k hk)) (fun u hu => by
          rw [jw_Uat]
          by_cases e2 : u = i
          · subst e2; rw [if_pos rfl, e]; rfl
          · rw [if_neg e2]; exact hr' u (by omega))
        have e9 : vs_cnt (fun u => h u && M 5 u == x) (i + 1) = vs_cnt (fun u => h u && M 5 u == x) i + 1 := by
          show vs_cnt _ i + (if (h i && M 5 i == x) then 1 else 0) = _
          rw [e]; rfl
        rw [e9] at ih2
        exact ih2
      have z0 : jw_U M' q i 0 q i = 0 := by rw [jw_Uat, if_pos rfl]
      have z1 : ¬ jw_U M' q i 1 q i = 0 := by rw [jw_Uat, if_pos rfl]; decide
      refine k_N_writeOut_5 ha hq ⟨fun hc => absurd hc ?_, fun _ => ⟨i, ⟨by omega, rfl⟩, fun h1 => ⟨i, ⟨by omega, rfl⟩, i, ⟨by omega, rfl⟩, fun _ => st0 ?_, fun h9 => absurd z0 h9⟩, fun h1 => ⟨i, ⟨by omega, rfl⟩, fun h2 => ⟨i, ⟨by omega, rfl⟩, i, ⟨by omega, rfl⟩, fun _ => st0 ?_, fun h9 => absurd z0 h9⟩, fun h2 => ⟨i, ⟨by omega, rfl⟩, i, ⟨by omega, rfl⟩, fun h9 => absurd h9 z1, fun _ => st1 ?_⟩⟩⟩⟩
      · rw [ho 4 (Ne.symm q4), hm]
        exact nI_ge hi (by omega)
      · rw [eh, bI_0] at h1
        rw [h1]; rfl
      · rw [eh, bI_n0] at h1
        rw [e5] at h2
        simp [h1, h2]
      · rw [eh, bI_n0] at h1
        rw [e5] at h2
        simp [h1, h2]
  exact key 0 (Nat.zero_le _) M (fun _ _ => rfl) (fun u hu => absurd hu (Nat.not_lt_zero u))
