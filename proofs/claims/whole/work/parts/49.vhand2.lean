/-! The class: handOver of a key, and whole -/
def sp_hkw (σ : vs_S) (a key u : Nat) : Bool := s_hs σ a u && s_ky σ u == nI key
def sp_hkc (σ : vs_S) (a key : Nat) : Bool := !(vs_cnt (sp_hkw σ a key) (s_md σ) == 0) && (!(min (s_mo σ) (vs_row (s_ow σ) key 16).length == 0) && (!((vs_row (s_ow σ) key 16).take (s_mo σ)).contains a && (List.range (min (s_mo σ) (vs_row (s_ow σ) key 16).length)).all (fun t => vs_rch (s_up σ) (s_cu σ) a ((vs_row (s_ow σ) key 16).getD t 0))))
def sp_hks (σ : vs_S) (a key i : Nat) : Nat → Nat → Bool := vs_sn (s_hs σ) (fun h => vs_tkA h (s_ky σ) (s_cl σ) (s_md σ) (sp_hkw σ a key) (s_md σ)) (vs_row (s_ow σ) key 16) i
def sp_hkh (σ : vs_S) (a key : Nat) : Nat → Nat → Bool := fun b u => if b = a then (if decide (u < s_md σ) && sp_hkw σ a key u then false else sp_hks σ a key (min (s_mo σ) (vs_row (s_ow σ) key 16).length) b u) else sp_hks σ a key (min (s_mo σ) (vs_row (s_ow σ) key 16).length) b u
def sp_hk (σ : vs_S) (a key : Nat) : vs_S := if sp_hkc σ a key then w_hs σ (sp_hkh σ a key) else σ
def sp_hkn (σ : vs_S) (a key : Nat) : Nat := if sp_hkc σ a key then vs_cnt (sp_hkw σ a key) (s_md σ) else 0
theorem c_V_handOverKey {l : Launch} {G : jw_G} {A : Nat → Prop} {M : jw_Mem} {Q : Int32 → jw_Mem → Prop} {σ : vs_S} {a key : Nat} (hok : vs_ok σ) (hC : vs_C σ M) (ha : a < 5) (hk : key < 32) (hQ : ∀ M' : jw_Mem, vs_C (sp_hk σ a key) M' → (∀ k, 41 ≤ k → M' k = M k) → Q (nI (sp_hkn σ a key)) M') : jw_M l (jw_g G) A f_V_handOverKey [jw_a G 0, .int (nI a), .int (nI key)] M Q := by
  have hmd := hok.2.2.1
  have how := hok.2.2.2.1
  have hmo := hok.2.1
  have hrl := vs_row_len how 16 (key := key)
  have hr5 := vs_row_lt how 16 (key := key)
  have cle := vs_cnt_le (sp_hkw σ a key) (s_md σ)
  have hmin : min (s_mo σ) (vs_row (s_ow σ) key 16).length ≤ (vs_row (s_ow σ) key 16).length := Nat.min_le_right _ _
  have no : sp_hkc σ a key = false → ∀ M' : jw_Mem, vs_C σ M' → (∀ k, 41 ≤ k → M' k = M k) → Q 0 M' := by
    intro e M' h1 h2
    unfold sp_hk sp_hkn at hQ
    rw [e] at hQ
    exact hQ M' h1 h2
  refine e_V_handOverKey (fun X hR => ⟨a, ⟨ha, rfl⟩, c_N_writeOut (h := s_hs σ a) (md := s_md σ) ha jw_k38 (by omega) hC.2.2.2.2.1 hmd (fun u hu => hC.2.2.2.2.2.2.1 a u ha hu) (fun M1 ho1 hr1 => ?_)⟩)
  have ew : ∀ u, u < s_md σ → (s_hs σ a u && M 5 u == nI key) = sp_hkw σ a key u := by
    intro u hu
    rw [hC.2.2.2.2.2.1.1 u (by omega)]
    rfl
  have ec : vs_cnt (fun u => s_hs σ a u && M 5 u == nI key) (s_md σ) = vs_cnt (sp_hkw σ a key) (s_md σ) := vs_cnt_c ew
  have hr1' : ∀ u, u < s_md σ → M1 38 u = bI (sp_hkw σ a key u) := fun u hu => by rw [hr1 u hu, ew u hu]
  have hC1 : vs_C σ M1 := vs_same_C ⟨fun k _ _ _ _ _ k38 _ _ => ho1 k k38, by rw [ho1 0 (by decide)], by rw [ho1 0 (by decide)], by rw [ho1 0 (by decide)], by rw [ho1 1 (by decide)]⟩ hC
  rw [ec]
  refine ⟨fun h1 => ?_, fun h1 => hR _ _ (no ?_ M1 hC1 (fun k hk => ho1 k (by omega)))⟩
  · have n1 : vs_cnt (sp_hkw σ a key) (s_md σ) ≠ 0 := fun e => h1 (by rw [e]; rfl)
    refine c_R_lookUp (ow := s_ow σ) (mo := s_mo σ) hk hmo hC1.1.1 hC1.2.1 how (fun M2 ho2 hL2 => ?_)
    have hC2 : vs_C σ M2 := vs_same_C ⟨fun k _ k1 k3 _ _ _ _ _ => ho2 k k1 k3, by rw [ho2 0 (by decide) (by decide)], by rw [ho2 0 (by decide) (by decide)], by rw [ho2 0 (by decide) (by decide)], by rw [hL2.1]; exact hC1.1.1.symm⟩ hC1
    have h412 : ∀ k, 41 ≤ k → M2 k = M k := fun k hk => (ho2 k (by omega) (by omega)).trans (ho1 k (by omega))
    refine ⟨fun h2 => hR _ _ (no ?_ M2 hC2 h412), fun h2 => c_R_hasHome hL2 hrl hr5 ha ⟨fun h3 => hR _ _ (no ?_ M2 hC2 h412), fun h3 => c_V_reachesAllHomes (up := s_up σ) (cu := s_cu σ) ha hC2.2.2.1 hC2.2.2.2.1 hL2 hrl hr5 ⟨fun h4 => ?_, fun h4 => hR _ _ (no ?_ M2 hC2 h412)⟩⟩⟩
    · rw [hL2.2.2.1] at h2
      have : min (s_mo σ) (vs_row (s_ow σ) key 16).length = 0 := (nI_ne (b := 0) (by omega) (by omega)).mp h2
      simp only [sp_hkc, this]
      simp
    · rw [bI_n0] at h3
      simp only [sp_hkc, h3]
      simp
    · rw [hL2.2.2.1] at h2
      rw [bI_0] at h3
      rw [bI_n0] at h4
      have n2 : min (s_mo σ) (vs_row (s_ow σ) key 16).length ≠ 0 := fun e => h2 (by rw [e]; rfl)
      have yes : sp_hkc σ a key = true := by
        unfold sp_hkc
        rw [h3, h4, show (vs_cnt (sp_hkw σ a key) (s_md σ) == 0) = false by simpa using n1, show (min (s_mo σ) (vs_row (s_ow σ) key 16).length == 0) = false by simpa using n2]
        rfl
      unfold sp_hk sp_hkn at hQ
      rw [yes, if_pos rfl, if_pos rfl] at hQ
      have e38 : ∀ u, u < s_md σ → M2 38 u = bI (sp_hkw σ a key u) := fun u hu => by rw [ho2 38 (by decide) (by decide)]; exact hr1' u hu
      have loop : ∀ i, i ≤ min (s_mo σ) (vs_row (s_ow σ) key 16).length → ∀ M' : jw_Mem, (∀ k, (∀ b, b < 5 → k ≠ 11 + 3 * b) → M' k = M2 k) → (∀ b u, b < 5 → u < 40 → M' (11 + 3 * b) u = bI (sp_hks σ a key i b u)) → jw_X l X (jw_g G) A f_V_handOverKey 63 [some (jw_a G 0), some (.int (nI a)), some (.int (nI key)), some (.int (nI (vs_cnt (sp_hkw σ a key) (s_md σ)))), some (.int (nI i))] [] M' := by
        refine vs_up ?_ ?_
        · intro M' ho hr
          refine k_V_handOverKey_63 ⟨fun _ => ⟨a, ⟨ha, rfl⟩, ?_⟩, fun hc => absurd ?_ hc⟩
          · refine c_N_dropAll (h := sp_hks σ a key (min (s_mo σ) (vs_row (s_ow σ) key 16).length) a) (row := sp_hkw σ a key) (md := s_md σ) ha jw_k38 (by omega) (by rw [ho 4 (fun z hz => by omega)]; exact hC2.2.2.2.2.1) hmd (fun u hu => hr a u ha hu) (fun u hu => by rw [ho 38 (fun z hz => by omega)]; exact e38 u hu) (fun M3 ho3 hr3 => hR _ _ (hQ M3 ?_ ?_))
            · refine vs_C_hs hC2 (fun k hk => (ho3 k (hk a ha)).trans (ho k hk)) (fun b u hb hu => ?_)
              unfold sp_hkh
              by_cases e : b = a
              · rw [if_pos e, e]
                exact hr3 u hu
              · rw [if_neg e, ho3 _ (by omega)]
                exact hr b u hb hu
            · intro k hk2
              rw [ho3 k (by omega), ho k (fun z hz => by omega)]
              exact h412 k hk2
          · rw [ho 1 (fun z hz => by omega), hL2.2.2.1]
            exact nI_le (Nat.le_refl _) (by omega)
        · intro i hi ih M' ho hr
          have ht : (vs_row (s_ow σ) key 16).getD i 0 < 5 := hr5 _ (vs_getD_mem (by omega))
          have e5 : M' 5 = M2 5 := ho 5 (fun z hz => by omega)
          have e8 : M' 8 = M2 8 := ho 8 (fun z hz => by omega)
          refine k_V_handOverKey_63 ⟨fun hc => absurd hc ?_, fun _ => ⟨i, ⟨by omega, rfl⟩, (vs_row (s_ow σ) key 16).getD i 0, ⟨ht, ?_⟩, ?_⟩⟩
          · rw [ho 1 (fun z hz => by omega), hL2.2.2.1]
            exact nI_ge hi (by omega)
          · rw [ho 3 (fun z hz => by omega)]
            exact hL2.2.2.2 i (by omega)
          · refine c_N_takeAll (h := sp_hks σ a key i ((vs_row (s_ow σ) key 16).getD i 0)) (md := s_md σ) (row := sp_hkw σ a key) ht jw_k38 (by omega) (by rw [ho 4 (fun z hz => by omega)]; exact hC2.2.2.2.2.1) hmd (fun u hu => hr _ u ht hu) (fun u hu => by rw [ho 38 (fun z hz => by omega)]; exact e38 u hu) (fun M3 ho3 hr3 => ?_)
            rw [nI_1]
            have eA := vs_tkA_c (h := sp_hks σ a key i ((vs_row (s_ow σ) key 16).getD i 0)) (row := sp_hkw σ a key) (ky := M' 5) (cl := M' 8) (ky' := s_ky σ) (cl' := s_cl σ) (fun u hu => by rw [e5]; exact hC2.2.2.2.2.2.1.1 u hu) (fun u hu => by rw [e8]; exact hC2.2.2.2.2.2.1.2.2.2 u hu) hmd _ (Nat.le_refl _)
            refine ih M3 (fun k hk => (ho3 k (hk _ ht)).trans (ho k hk)) (fun b u hb hu => ?_)
            show _ = bI (va_up (α := Nat → Bool) _ ((vs_row (s_ow σ) key 16).getD i 0) _ b u)
            unfold va_up
            by_cases e : b = (vs_row (s_ow σ) key 16).getD i 0
            · rw [if_pos e, e, hr3 u hu, eA u hu]
              rfl
            · rw [if_neg e, ho3 _ (by omega)]
              exact hr b u hb hu
      exact loop 0 (Nat.zero_le _) M2 (fun _ _ => rfl) hC2.2.2.2.2.2.2.1
    · rw [bI_0] at h4
      simp only [sp_hkc, h4]
      simp
  · have : vs_cnt (sp_hkw σ a key) (s_md σ) = 0 := (nI_ne (b := 0) (by omega) (by omega)).mp h1
    simp only [sp_hkc, this]
    simp
def sp_hos (σ : vs_S) (a : Nat) : Nat → vs_S
  | 0 => sp_ho0 σ a
  | k + 1 => sp_hk (sp_hos σ a k) a k
def sp_hon (σ : vs_S) (a : Nat) : Nat → Nat
  | 0 => vs_cnt (sp_gn σ a) (s_md σ)
  | k + 1 => sp_hon σ a k + sp_hkn (sp_hos σ a k) a k
def sp_hor (σ : vs_S) (a : Nat) : Int32 := if s_up σ a = false then -2 else nI (sp_hon σ a 32)
def sp_ho (σ : vs_S) (a : Nat) : vs_S := if s_up σ a = false then σ else sp_hos σ a 32
theorem vs_ok_hk {σ : vs_S} {a key : Nat} (h : vs_ok σ) : vs_ok (sp_hk σ a key) := by
  unfold sp_hk
  cases sp_hkc σ a key with
  | false => exact h
  | true => exact vs_ok_hs h
theorem vs_ok_ho0 {σ : vs_S} {a : Nat} (h : vs_ok σ) : vs_ok (sp_ho0 σ a) := by
  unfold sp_ho0
  refine vs_ok_hi (vs_ok_hs h) (fun b u o e => ?_)
  exact h.2.2.2.2.1 b u o (vs_hj_s e)
theorem vs_ok_hos {σ : vs_S} {a : Nat} (h : vs_ok σ) : ∀ k, vs_ok (sp_hos σ a k)
  | 0 => vs_ok_ho0 h
  | k + 1 => vs_ok_hk (vs_ok_hos h k)
theorem vs_ok_ho {σ : vs_S} {a : Nat} (h : vs_ok σ) : vs_ok (sp_ho σ a) := by
  unfold sp_ho
  by_cases e : s_up σ a = false
  · rw [if_pos e]; exact h
  · rw [if_neg e]; exact vs_ok_hos h 32
theorem c_V_handOver_f {l : Launch} {G : jw_G} {A : Nat → Prop} {M : jw_Mem} {Q : Int32 → jw_Mem → Prop} {x1 : Int32} (h : vs_out x1 5) (hQ : Q (-1) M) : jw_M l (jw_g G) A f_V_handOver [jw_a G 0, .int x1] M Q := e_V_handOver (fun X hR => c_V_isNode_f h ⟨fun hc => absurd rfl hc, fun _ => hR _ _ hQ⟩)
theorem c_V_handOver {l : Launch} {G : jw_G} {A : Nat → Prop} {M : jw_Mem} {Q : Int32 → jw_Mem → Prop} {σ : vs_S} {a : Nat} (hok : vs_ok σ) (hC : vs_C σ M) (ha : a < 5) (hQ : ∀ M' : jw_Mem, vs_C (sp_ho σ a) M' → (∀ k, 41 ≤ k → M' k = M k) → Q (sp_hor σ a) M') : jw_M l (jw_g G) A f_V_handOver [jw_a G 0, .int (nI a)] M Q := by
  have hup := hC.2.2.1 a ha
  refine e_V_handOver (fun X hR => c_V_isNode_t ha ⟨fun _ => ⟨a, ⟨ha, rfl⟩, fun hu => ?_, fun hu => hR _ _ ?_⟩, fun hc => absurd hc (by decide)⟩)
  · rw [hup, bI_n0] at hu
    have n1 : ¬ s_up σ a = false := by rw [hu]; decide
    unfold sp_ho sp_hor at hQ
    rw [if_neg n1, if_neg n1] at hQ
    refine c_V_handOverHints hok hC ha (fun M1 hC1 ho1 => ?_)
    have loop : ∀ k, k ≤ 32 → ∀ M' : jw_Mem, vs_C (sp_hos σ a k) M' → (∀ q, 41 ≤ q → M' q = M q) → jw_X l X (jw_g G) A f_V_handOver 32 [some (jw_a G 0), some (.int (nI a)), some (.int (nI (sp_hon σ a k))), some (.int (nI k))] [] M' := by
      refine vs_up ?_ ?_
      · intro M' hC' ho'
        exact k_V_handOver_32 ⟨fun _ => hR _ _ (hQ M' hC' ho'), fun hc => absurd (nI_le (a := 32) (Nat.le_refl _) (by omega)) hc⟩
      · intro k hk ih M' hC' ho'
        refine k_V_handOver_32 ⟨fun hc => absurd hc (nI_ge (b := 32) hk (by omega)), fun _ => c_V_handOverKey (vs_ok_hos hok k) hC' ha hk (fun M2 hC2 ho2 => ?_)⟩
        rw [nI_1, nI_add]
        exact ih M2 hC2 (fun q hq => (ho2 q hq).trans (ho' q hq))
    exact loop 0 (Nat.zero_le _) M1 hC1 ho1
  · rw [hup, bI_0] at hu
    unfold sp_ho sp_hor at hQ
    rw [if_pos hu, if_pos hu] at hQ
    exact hQ M hC (fun _ _ => rfl)
