/-! The class: handOver -/
theorem vs_ok_hs {σ : vs_S} {f : Nat → Nat → Bool} (h : vs_ok σ) : vs_ok (w_hs σ f) := h
theorem vs_ok_hi {σ : vs_S} {f : Nat → Nat → Option Nat} (h : vs_ok σ) (hf : ∀ a u o, f a u = some o → o < 5) : vs_ok (w_hi σ f) := ⟨h.1, h.2.1, h.2.2.1, h.2.2.2.1, hf, h.2.2.2.2.2⟩
/-- a hint goes: there is one, and its home can be reached -/
def vs_gn (hi : Nat → Nat → Option Nat) (p : Nat → Bool) (a u : Nat) : Bool := match hi a u with
  | none => false
  | some o => p o
theorem vs_gn_n {hi : Nat → Nat → Option Nat} {p : Nat → Bool} {a u : Nat} (h : hi a u = none) : vs_gn hi p a u = false := by unfold vs_gn; rw [h]
theorem vs_gn_s {hi : Nat → Nat → Option Nat} {p : Nat → Bool} {a u o : Nat} (h : hi a u = some o) : vs_gn hi p a u = p o := by unfold vs_gn; rw [h]
def vs_hh (hs : Nat → Nat → Bool) (hi : Nat → Nat → Option Nat) (p : Nat → Bool) (ky cl : Nat → Int32) (md a : Nat) : Nat → Nat → Nat → Bool
  | 0 => hs
  | i + 1 => if vs_gn hi p a i then va_up (vs_hh hs hi p ky cl md a i) ((hi a i).getD 0) (vs_tk (vs_hh hs hi p ky cl md a i ((hi a i).getD 0)) ky cl md i) else vs_hh hs hi p ky cl md a i
def vs_hj (hi : Nat → Nat → Option Nat) (p : Nat → Bool) (a i b u : Nat) : Option Nat := if b = a ∧ u < i ∧ vs_gn hi p a u = true then none else hi b u
theorem vs_hj_f {hi : Nat → Nat → Option Nat} {p : Nat → Bool} {a i b u : Nat} (h : vs_gn hi p a i = false) : vs_hj hi p a (i + 1) b u = vs_hj hi p a i b u := by
  unfold vs_hj
  by_cases e : b = a ∧ u < i ∧ vs_gn hi p a u = true
  · rw [if_pos e, if_pos ⟨e.1, by omega, e.2.2⟩]
  · rw [if_neg e, if_neg (fun z => e ⟨z.1, ?_, z.2.2⟩)]
    have : u ≠ i := fun e2 => by rw [e2, h] at z; exact absurd z.2.2 (by decide)
    omega
theorem vs_hj_t {hi : Nat → Nat → Option Nat} {p : Nat → Bool} {a i b u : Nat} (h : vs_gn hi p a i = true) : vs_hj hi p a (i + 1) b u = if b = a ∧ u = i then none else vs_hj hi p a i b u := by
  unfold vs_hj
  by_cases c : b = a ∧ u = i
  · rw [if_pos c, if_pos ⟨c.1, by omega, by rw [c.2]; exact h⟩]
  · rw [if_neg c]
    by_cases e : b = a ∧ u < i ∧ vs_gn hi p a u = true
    · rw [if_pos e, if_pos ⟨e.1, by omega, e.2.2⟩]
    · rw [if_neg e, if_neg (fun z => e ⟨z.1, ?_, z.2.2⟩)]
      have : u ≠ i := fun e2 => c ⟨z.1, e2⟩
      omega
theorem vs_hj_i {hi : Nat → Nat → Option Nat} {p : Nat → Bool} {a i b : Nat} : vs_hj hi p a i b i = hi b i := by
  unfold vs_hj
  rw [if_neg (fun z => absurd z.2.1 (Nat.lt_irrefl i))]
theorem vs_hj_s {hi : Nat → Nat → Option Nat} {p : Nat → Bool} {a i b u o : Nat} (h : vs_hj hi p a i b u = some o) : hi b u = some o := by
  unfold vs_hj at h
  by_cases e : b = a ∧ u < i ∧ vs_gn hi p a u = true
  · rw [if_pos e] at h
    cases h
  · rw [if_neg e] at h
    exact h
def sp_hh (σ : vs_S) (a i : Nat) : Nat → Nat → Bool := vs_hh (s_hs σ) (s_hi σ) (vs_rch (s_up σ) (s_cu σ) a) (s_ky σ) (s_cl σ) (s_md σ) a i
def sp_gn (σ : vs_S) (a u : Nat) : Bool := vs_gn (s_hi σ) (vs_rch (s_up σ) (s_cu σ) a) a u
def sp_hj (σ : vs_S) (a i : Nat) : Nat → Nat → Option Nat := vs_hj (s_hi σ) (vs_rch (s_up σ) (s_cu σ) a) a i
def sp_ho0 (σ : vs_S) (a : Nat) : vs_S := w_hi (w_hs σ (sp_hh σ a (s_md σ))) (sp_hj σ a (s_md σ))
theorem c_V_handOverHints {l : Launch} {G : jw_G} {A : Nat → Prop} {M : jw_Mem} {Q : Int32 → jw_Mem → Prop} {σ : vs_S} {a : Nat} (hok : vs_ok σ) (hC : vs_C σ M) (ha : a < 5) (hQ : ∀ M' : jw_Mem, vs_C (sp_ho0 σ a) M' → (∀ k, 41 ≤ k → M' k = M k) → Q (nI (vs_cnt (sp_gn σ a) (s_md σ))) M') : jw_M l (jw_g G) A f_V_handOverHints [jw_a G 0, .int (nI a)] M Q := by
  have hmd := hok.2.2.1
  have hhi := hok.2.2.2.2.1
  refine e_V_handOverHints (fun X hR => ⟨a, ⟨ha, rfl⟩, ?_⟩)
  have key : ∀ i, i ≤ s_md σ → ∀ M' : jw_Mem, (∀ k, (∀ b, b < 5 → k ≠ 11 + 3 * b ∧ k ≠ 12 + 3 * b) → M' k = M k) → (∀ b u, b < 5 → u < 40 → M' (11 + 3 * b) u = bI (sp_hh σ a i b u)) → (∀ b u, b < 5 → u < 40 → M' (12 + 3 * b) u = oI (sp_hj σ a i b u)) → jw_X l X (jw_g G) A f_V_handOverHints 12 [some (jw_a G 0), some (.int (nI a)), some (jw_a G (10 + 3 * a)), some (.int (nI (vs_cnt (sp_gn σ a) i))), some (.int (nI i))] [] M' := by
    refine vs_up ?_ ?_
    · intro M' ho h11 h12
      have hC1 : vs_C (w_hs σ (sp_hh σ a (s_md σ))) (fun k => if k % 3 = 0 ∧ 12 ≤ k ∧ k ≤ 24 then M k else M' k) := by
        refine vs_C_hs hC (fun k hk => ?_) (fun b u hb hu => ?_)
        · show (if k % 3 = 0 ∧ 12 ≤ k ∧ k ≤ 24 then M k else M' k) = M k
          by_cases e : k % 3 = 0 ∧ 12 ≤ k ∧ k ≤ 24
          · rw [if_pos e]
          · rw [if_neg e]
            exact ho k (fun b hb => ⟨hk b hb, by omega⟩)
        · show (if (11 + 3 * b) % 3 = 0 ∧ 12 ≤ (11 + 3 * b) ∧ (11 + 3 * b) ≤ 24 then M (11 + 3 * b) else M' (11 + 3 * b)) u = _
          rw [if_neg (by omega)]
          exact h11 b u hb hu
      refine k_V_handOverHints_12 ha ⟨fun _ => hR _ _ (hQ M' (vs_C_hi hC1 (fun k hk => ?_) h12) (fun k hk => ho k (fun b hb => ⟨by omega, by omega⟩))), fun hc => absurd ?_ hc⟩
      · show M' k = if k % 3 = 0 ∧ 12 ≤ k ∧ k ≤ 24 then M k else M' k
        rw [if_neg]
        intro z
        exact hk ((k - 12) / 3) (by omega) (by omega)
      · rw [ho 4 (fun b hb => ⟨by omega, by omega⟩), hC.2.2.2.2.1]
        exact nI_le (Nat.le_refl _) (by omega)
    · intro i hi ih M' ho h11 h12
      have e4 : M' 4 = M 4 := ho 4 (fun b hb => ⟨by omega, by omega⟩)
      have e5 : M' 5 = M 5 := ho 5 (fun b hb => ⟨by omega, by omega⟩)
      have e8 : M' 8 = M 8 := ho 8 (fun b hb => ⟨by omega, by omega⟩)
      have e34 : M' 34 = M 34 := ho 34 (fun b hb => ⟨by omega, by omega⟩)
      have hrow : M' (12 + 3 * a) i = oI (s_hi σ a i) := by
        rw [h12 a i ha (by omega)]
        unfold sp_hj
        rw [vs_hj_i]
      have st0 : sp_gn σ a i = false → jw_X l X (jw_g G) A f_V_handOverHints 12 [some (jw_a G 0), some (.int (nI a)), some (jw_a G (10 + 3 * a)), some (.int (nI (vs_cnt (sp_gn σ a) i))), some (.int (nI i + 1))] [] M' := by
        intro e
        rw [nI_1]
        rw [vs_cnt_s, e] at ih
        refine ih M' ho (fun b u hb hu => ?_) (fun b u hb hu => ?_)
        · rw [h11 b u hb hu]
          unfold sp_hh
          conv => rhs; unfold vs_hh
          rw [show vs_gn (s_hi σ) (vs_rch (s_up σ) (s_cu σ) a) a i = false from e]
          rfl
        · rw [h12 b u hb hu]
          unfold sp_hj
          rw [vs_hj_f e]
      refine k_V_handOverHints_12 ha ⟨fun hc => absurd hc ?_, fun _ => c_N_hasHintOf ha (by omega) ?_⟩
      · rw [e4, hC.2.2.2.2.1]
        exact nI_ge hi (by omega)
      · rw [hrow, oI_b (hhi a i)]
        cases hx : s_hi σ a i with
        | none => exact ⟨fun _ => st0 (vs_gn_n hx), fun hc => absurd rfl hc⟩
        | some o =>
          have ho5 : o < 5 := hhi a i o hx
          refine ⟨fun hc => absurd hc (by show ¬ (1 : Int32) = 0; decide), fun _ => ⟨i, ⟨by omega, rfl⟩, ?_⟩⟩
          rw [hrow, hx]
          refine c_V_reaches (up := s_up σ) (cu := s_cu σ) ha ho5 (fun b hb => by rw [ho (10 + 3 * b) (fun z hz => ⟨by omega, by omega⟩)]; exact hC.2.2.1 b hb) (by rw [e34]; exact hC.2.2.2.1) ⟨fun h1 => st0 ?_, fun h1 => ⟨i, ⟨by omega, rfl⟩, o, ⟨ho5, by rw [hrow, hx]; rfl⟩, ?_⟩⟩
          · rw [bI_0] at h1
            exact (vs_gn_s hx).trans h1
          · rw [bI_n0] at h1
            have e : sp_gn σ a i = true := (vs_gn_s hx).trans h1
            refine c_N_take (h := sp_hh σ a i o) (md := s_md σ) ho5 (by omega) (by rw [e4]; exact hC.2.2.2.2.1) hmd (fun u hu => h11 o u ho5 hu) (fun M2 ho2 hr2 => ⟨i, ⟨by omega, rfl⟩, ?_⟩)
            rw [nI_1, nI_1]
            rw [vs_cnt_s, e] at ih
            refine ih _ (fun k hk => ?_) (fun b u hb hu => ?_) (fun b u hb hu => ?_)
            · rw [jw_Une (hk a ha).2, ho2 k (hk o ho5).1]
              exact ho k hk
            · rw [jw_Une (by omega)]
              unfold sp_hh
              unfold vs_hh
              rw [show vs_gn (s_hi σ) (vs_rch (s_up σ) (s_cu σ) a) a i = true from e, if_pos rfl, hx]
              show _ = bI (va_up (α := Nat → Bool) _ o _ b u)
              unfold va_up
              by_cases e9 : b = o
              · rw [if_pos e9, e9, hr2 u hu]
                congr 1
                exact vs_tk_c (fun u hu => by rw [e5]; exact hC.2.2.2.2.2.1.1 u hu) (fun u hu => by rw [e8]; exact hC.2.2.2.2.2.1.2.2.2 u hu) hmd (by omega) hu
              · rw [if_neg e9, ho2 _ (by omega)]
                exact h11 b u hb hu
            · unfold sp_hj
              rw [vs_hj_t e]
              by_cases e9 : b = a
              · rw [e9, jw_Uat]
                by_cases e10 : u = i
                · rw [if_pos e10, if_pos ⟨rfl, e10⟩]
                  rfl
                · rw [if_neg e10, if_neg (fun z => e10 z.2), ho2 _ (by omega)]
                  exact h12 a u ha hu
              · rw [if_neg (fun z => e9 z.1), jw_Une (by omega), ho2 _ (by omega)]
                exact h12 b u hb hu
  refine key 0 (Nat.zero_le _) M (fun _ _ => rfl) hC.2.2.2.2.2.2.1 (fun b u hb hu => ?_)
  rw [hC.2.2.2.2.2.2.2.1 b u hb hu]
  unfold sp_hj vs_hj
  rw [if_neg (fun z => absurd z.2.1 (Nat.not_lt_zero u))]
theorem c_V_reachesAllHomes {l : Launch} {G : jw_G} {A : Nat → Prop} {M : jw_Mem} {Q : Int32 → jw_Mem → Prop} {a mo : Nat} {r : List Nat} {up : Nat → Bool} {cu : Nat → Nat → Bool} (ha : a < 5) (hu : ∀ a, a < 5 → M (10 + 3 * a) 3 = bI (up a)) (hc : ∀ a b, a < 5 → b < 5 → M 34 (5 * min a b + max a b) = bI (cu a b)) (hL : vs_LU M mo r) (hl : r.length ≤ 5) (hr : ∀ x, x ∈ r → x < 5) (hQ : Q (bI ((List.range (min mo r.length)).all (fun t => vs_rch up cu a (r.getD t 0)))) M) : jw_M l (jw_g G) A f_V_reachesAllHomes [jw_a G 0, .int (nI a)] M Q := by
  refine e_V_reachesAllHomes (fun X hR => ?_)
  have hmin : min mo r.length ≤ r.length := Nat.min_le_right _ _
  have key : ∀ i, i ≤ min mo r.length → (∀ t, t < i → vs_rch up cu a (r.getD t 0) = true) → jw_X l X (jw_g G) A f_V_reachesAllHomes 2 [some (jw_a G 0), some (.int (nI a)), some (.int (nI i))] [] M := by
    refine vs_up ?_ ?_
    · intro hall
      rw [vs_all_t hall] at hQ
      refine k_V_reachesAllHomes_2 ⟨fun _ => hR _ _ hQ (Or.inr rfl), fun hc => absurd ?_ hc⟩
      rw [hL.2.2.1]
      exact nI_le (Nat.le_refl _) (by omega)
    · intro i hi ih hall
      refine k_V_reachesAllHomes_2 ⟨fun hc => absurd hc ?_, fun _ => ⟨i, ⟨by omega, rfl⟩, ?_⟩⟩
      · rw [hL.2.2.1]
        exact nI_ge hi (by omega)
      · rw [hL.2.2.2 i (by omega)]
        refine c_V_reaches ha (hr _ (vs_getD_mem (by omega))) hu hc ⟨fun h1 => ?_, fun h1 => ?_⟩
        · rw [bI_n0] at h1
          rw [nI_1]
          refine ih (fun t ht => ?_)
          by_cases e : t = i
          · rw [e]; exact h1
          · exact hall t (by omega)
        · rw [bI_0] at h1
          rw [vs_all_f hi h1] at hQ
          exact hR _ _ hQ (Or.inl rfl)
  exact key 0 (Nat.zero_le _) (fun t ht => absurd ht (Nat.not_lt_zero t))
