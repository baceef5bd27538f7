/-! The reference: handOver -/
def vs_in (r : List Nat) (k b : Nat) : Bool := (List.range k).any (fun j => r.getD j 0 == b)
theorem vs_in_s (r : List Nat) (k b : Nat) : vs_in r (k + 1) b = (vs_in r k b || r.getD k 0 == b) := vs_any_s _ _
theorem vs_in_f {r : List Nat} (hn : r.Nodup) {k t : Nat} (hk : k ≤ t) (ht : t < r.length) : vs_in r k (r.getD t 0) = false := by
  refine vs_any_f (fun j hj => ?_)
  refine Bool.eq_false_iff.mpr (fun z => ?_)
  have e : r.getD j 0 = r.getD t 0 := beq_iff_eq.mp z
  have := vs_nd_inj hn (by omega) ht e
  omega
theorem vs_in_t {r : List Nat} {k t : Nat} (ht : t < k) : vs_in r k (r.getD t 0) = true := vs_any_t ht (beq_iff_eq.mpr rfl)
theorem vs_con {r : List Nat} {mo nd : Nat} : (r.take mo).contains nd = vs_in r (min mo r.length) nd := by
  unfold vs_in
  rw [← vs_has_any, List.length_take]
  refine vs_any_c (fun u hu => ?_)
  rw [List.getD_eq_getElem?_getD, List.getD_eq_getElem?_getD, List.getElem?_take_of_lt (by omega)]
theorem vs_sn_at {hs : Nat → Nat → Bool} {f : (Nat → Bool) → Nat → Bool} {r : List Nat} (hn : r.Nodup) : ∀ k, k ≤ r.length → ∀ b, vs_sn hs f r k b = if vs_in r k b then f (hs b) else hs b
  | 0, _, b => rfl
  | k + 1, hk, b => by
    have ih := vs_sn_at (hs := hs) (f := f) hn k (by omega)
    show va_up (α := Nat → Bool) (vs_sn hs f r k) (r.getD k 0) (f (vs_sn hs f r k (r.getD k 0))) b = _
    unfold va_up
    rw [vs_in_s]
    by_cases e : b = r.getD k 0
    · rw [if_pos e, e, ih, vs_in_f hn (Nat.le_refl k) (by omega)]
      simp
    · rw [if_neg e, ih, show (r.getD k 0 == b) = false from beq_eq_false_iff_ne.mpr (fun z => e z.symm), Bool.or_false]
theorem c_M_isHome {l : Launch} {G : jw_G} {A : Nat → Prop} {M : jw_Mem} {Q : Int32 → jw_Mem → Prop} {σ : vs_S} {nd key : Nat} (hok : vs_ok σ) (hC : vs_M σ M) (hd : nd < 5) (hk : key < 32)
    (hQ : ∀ M' : jw_Mem, vs_sm M M' → vs_LM M' (vs_row (s_ow σ) key 16) → (∀ k, k ≠ 41 → k ≠ 56 → M' k = M k) → (∀ j, j ≠ 21 → M' 41 j = M 41 j) → Q (bI (((vs_row (s_ow σ) key 16).take (s_mo σ)).contains nd)) M') : jw_M l (jw_g G) A f_M_isHome [jw_a G 41, .int (nI nd), .int (nI key)] M Q := by
  have how := hok.2.2.2.1
  have hmo := hok.2.1
  have hrl := vs_row_len how 16 (key := key)
  have hr5 := vs_row_lt how 16 (key := key)
  have hnd : (vs_row (s_ow σ) key 16).Nodup := vs_row_nd 16
  refine e_M_isHome (fun X hR => c_M_list hk hC.2.1 how (fun M1 ho1 h1 hL => ?_))
  have hq := hQ M1 ⟨fun k k1 _ k3 _ => ho1 k k1 k3, fun j j1 _ => h1 j j1⟩ hL ho1 h1
  rw [vs_con] at hq
  refine c_M_placeIn (r := vs_row (s_ow σ) key 16) hrl hL.1 (fun t ht => ⟨hL.2 t ht, hr5 _ (vs_getD_mem ht)⟩) hd (fun hno => ⟨fun _ => hR _ _ ?_ (Or.inl rfl), fun hc => absurd (by decide) hc⟩) (fun t ht e => ⟨fun hc => absurd hc (nI_pos (by omega)), fun _ => ⟨fun hc => hR _ _ ?_ (Or.inl rfl), fun hc => hR _ _ ?_ (Or.inr rfl)⟩⟩)
  · rw [show vs_in (vs_row (s_ow σ) key 16) (min (s_mo σ) (vs_row (s_ow σ) key 16).length) nd = false from vs_any_f (fun j hj => beq_eq_false_iff_ne.mpr (hno j (by omega)))] at hq
    exact hq
  · rw [h1 0 (by decide), hC.1.1, nI_leI (by omega) (by omega)] at hc
    rw [← e, vs_in_f hnd (by omega) ht] at hq
    exact hq
  · rw [h1 0 (by decide), hC.1.1, nI_leI (by omega) (by omega)] at hc
    rw [← e, vs_in_t (by omega)] at hq
    exact hq
theorem c_M_moved {l : Launch} {G : jw_G} {A : Nat → Prop} {M : jw_Mem} {Q : Int32 → jw_Mem → Prop} {σ : vs_S} {a key : Nat} (hok : vs_ok σ) (hC : vs_M σ M) (ha : a < 5) (hk : key < 32) (hQ : ∀ M' : jw_Mem, vs_M (sp_hk σ a key) M' → (∀ k, k < 41 → M' k = M k) → Q (nI (sp_hkn σ a key)) M') : jw_M l (jw_g G) A f_M_moved [jw_a G 41, .int (nI a), .int (nI key)] M Q := by
  have hmd := hok.2.2.1
  have how := hok.2.2.2.1
  have hmo := hok.2.1
  have hrl := vs_row_len how 16 (key := key)
  have hr5 := vs_row_lt how 16 (key := key)
  have hnd : (vs_row (s_ow σ) key 16).Nodup := vs_row_nd 16
  have cle := vs_cnt_le (sp_hkw σ a key) (s_md σ)
  have hmin : min (s_mo σ) (vs_row (s_ow σ) key 16).length ≤ (vs_row (s_ow σ) key 16).length := Nat.min_le_right _ _
  have no : sp_hkc σ a key = false → ∀ M' : jw_Mem, vs_M σ M' → (∀ k, k < 41 → M' k = M k) → Q 0 M' := by
    intro e M' h1 h2
    unfold sp_hk sp_hkn at hQ
    rw [e] at hQ
    exact hQ M' h1 h2
  refine e_M_moved (fun X hR => c_M_count hok hC ha hk ?_)
  rw [show sp_count σ a (nI key) = vs_cnt (sp_hkw σ a key) (s_md σ) from rfl]
  refine ⟨fun h1 => hR _ _ (no ?_ M hC (fun _ _ => rfl)), fun h1 => c_M_isHome hok hC ha hk (fun M2 hs hL ho2 h2 => ?_)⟩
  · have : vs_cnt (sp_hkw σ a key) (s_md σ) = 0 := (nI_ne (b := 0) (by omega) (by omega)).mp h1
    simp only [sp_hkc, this]
    simp
  have n1 : vs_cnt (sp_hkw σ a key) (s_md σ) ≠ 0 := fun e => h1 (by rw [e]; rfl)
  have hC2 := vs_sm_M hs hC
  have h41 : ∀ q, q < 41 → M2 q = M q := fun q hq => hs.1 q (by omega) (by omega) (by omega) (by omega)
  refine ⟨fun h3 => hR _ _ (no ?_ M2 hC2 h41), fun h3 => c_M_homes hC2.1.1 hmo hL hrl ⟨fun h4 => ?_, fun h4 => hR _ _ (no ?_ M2 hC2 h41)⟩⟩
  · rw [bI_n0] at h3
    simp only [sp_hkc, h3]
    simp
  · rw [bI_0] at h3
    have n2 : min (s_mo σ) (vs_row (s_ow σ) key 16).length ≠ 0 := fun e => h4 (by rw [e]; rfl)
    have hna : vs_in (vs_row (s_ow σ) key 16) (min (s_mo σ) (vs_row (s_ow σ) key 16).length) a = false := by rw [← vs_con]; exact h3
    have c45 : ∀ u, u < 40 → M2 45 u = s_ky σ u := hC2.2.2.2.2.2.1.1
    have c48 : ∀ u, u < 200 → M2 48 u = s_cl σ u := hC2.2.2.2.2.2.1.2.2.2
    have c49 := hC2.2.2.2.2.2.2.1
    -- the versions
    have vers : (List.range (min (s_mo σ) (vs_row (s_ow σ) key 16).length)).all (fun t => vs_rch (s_up σ) (s_cu σ) a ((vs_row (s_ow σ) key 16).getD t 0)) = true → ∀ v, v ≤ s_md σ → ∀ M' : jw_Mem, (∀ k, k ≠ 49 → M' k = M2 k) → (∀ b u, b < 5 → u < 40 → M' 49 (40 * b + u) = bI (if b = a then (if decide (u < v) && sp_hkw σ a key u then false else s_hs σ a u) else if vs_in (vs_row (s_ow σ) key 16) (min (s_mo σ) (vs_row (s_ow σ) key 16).length) b then vs_tkA (s_hs σ b) (s_ky σ) (s_cl σ) (s_md σ) (sp_hkw σ a key) v u else s_hs σ b u)) → jw_X l X (jw_g G) A f_M_moved 64 [some (jw_a G 41), some (.int (nI a)), some (.int (nI key)), some (.int (nI (vs_cnt (sp_hkw σ a key) v))), some (.int (nI v)), none] [] M' := by
      intro h5
      have yes : sp_hkc σ a key = true := by
        unfold sp_hkc
        rw [h3, h5, show (vs_cnt (sp_hkw σ a key) (s_md σ) == 0) = false by simpa using n1, show (min (s_mo σ) (vs_row (s_ow σ) key 16).length == 0) = false by simpa using n2]
        rfl
      unfold sp_hk sp_hkn at hQ
      rw [yes, if_pos rfl, if_pos rfl] at hQ
      refine vs_up ?_ ?_
      · intro M' ho hr
        refine k_M_moved_64 ⟨fun _ => hR _ _ (hQ M' (vs_M_hs hC2 ho (fun b u hb hu => ?_)) (fun k hk2 => (ho k (by omega)).trans (h41 k hk2))), fun hc => absurd ?_ hc⟩
        · rw [hr b u hb hu]
          unfold sp_hkh sp_hks
          rw [vs_sn_at hnd _ hmin b]
          by_cases e : b = a
          · rw [if_pos e, if_pos e, e, hna]
            rfl
          · rw [if_neg e, if_neg e]
            cases vs_in (vs_row (s_ow σ) key 16) (min (s_mo σ) (vs_row (s_ow σ) key 16).length) b <;> rfl
        · rw [ho 41 (by decide), hC2.2.2.2.2.1]
          exact nI_le (Nat.le_refl _) (by omega)
      · intro v hv ih M' ho hr
        have hrow : M' 49 (40 * a + v) = bI (s_hs σ a v) := by
          rw [hr a v ha (by omega), if_pos rfl]
          simp
        have e45 : M' 45 v = s_ky σ v := by rw [ho 45 (by decide)]; exact c45 v (by omega)
        have dec : ∀ u, u ≠ v → decide (u < v) = decide (u < v + 1) := by
          intro u hu
          simp only [decide_eq_decide]
          omega
        have st0 : sp_hkw σ a key v = false → jw_X l X (jw_g G) A f_M_moved 64 [some (jw_a G 41), some (.int (nI a)), some (.int (nI key)), some (.int (nI (vs_cnt (sp_hkw σ a key) v))), some (.int (nI v + 1)), none] [] M' := by
          intro e
          rw [nI_1]
          rw [vs_cnt_s, e] at ih
          refine ih M' ho (fun b u hb hu => ?_)
          rw [hr b u hb hu]
          have e2 : (decide (u < v + 1) && sp_hkw σ a key u) = (decide (u < v) && sp_hkw σ a key u) := by
            by_cases c : u = v
            · rw [c, e, Bool.and_false, Bool.and_false]
            · rw [dec u c]
          have e3 : vs_tkA (s_hs σ b) (s_ky σ) (s_cl σ) (s_md σ) (sp_hkw σ a key) (v + 1) = vs_tkA (s_hs σ b) (s_ky σ) (s_cl σ) (s_md σ) (sp_hkw σ a key) v := by
            simp only [vs_tkA, e]
            rfl
          rw [e2, e3]
        refine k_M_moved_64 ⟨fun hc => absurd hc ?_, fun _ => ⟨40 * a + v, ⟨by omega, nI_lin40 _ _⟩, fun g1 => st0 ?_, fun g1 => ⟨v, ⟨by omega, rfl⟩, fun g2 => st0 ?_, fun g2 => ?_⟩⟩⟩
        · rw [ho 41 (by decide), hC2.2.2.2.2.1]
          exact nI_ge hv (by omega)
        · rw [hrow, bI_0] at g1
          simp [sp_hkw, g1]
        · rw [e45] at g2
          simp [sp_hkw, g2]
        · rw [hrow, bI_n0] at g1
          rw [e45] at g2
          have hw : sp_hkw σ a key v = true := by simp [sp_hkw, g1, g2]
          have ec : vs_cnt (sp_hkw σ a key) (v + 1) = vs_cnt (sp_hkw σ a key) v + 1 := by rw [vs_cnt_s, hw]; rfl
          have eA : ∀ b u, vs_tkA (s_hs σ b) (s_ky σ) (s_cl σ) (s_md σ) (sp_hkw σ a key) (v + 1) u = vs_tk (vs_tkA (s_hs σ b) (s_ky σ) (s_cl σ) (s_md σ) (sp_hkw σ a key) v) (s_ky σ) (s_cl σ) (s_md σ) v u := by
            intro b u
            simp only [vs_tkA, hw]
            rfl
          have homes : ∀ t, t ≤ min (s_mo σ) (vs_row (s_ow σ) key 16).length → ∀ M' : jw_Mem, (∀ k, k ≠ 49 → M' k = M2 k) → (∀ b u, b < 5 → u < 40 → M' 49 (40 * b + u) = bI (if b = a then (if decide (u < v) && sp_hkw σ a key u then false else s_hs σ a u) else if vs_in (vs_row (s_ow σ) key 16) (min (s_mo σ) (vs_row (s_ow σ) key 16).length) b then vs_tkA (s_hs σ b) (s_ky σ) (s_cl σ) (s_md σ) (sp_hkw σ a key) (if vs_in (vs_row (s_ow σ) key 16) t b then v + 1 else v) u else s_hs σ b u)) → jw_X l X (jw_g G) A f_M_moved 102 [some (jw_a G 41), some (.int (nI a)), some (.int (nI key)), some (.int (nI (vs_cnt (sp_hkw σ a key) v))), some (.int (nI v)), some (.int (nI t))] [] M' := by
            refine vs_up ?_ ?_
            · intro M' ho hr
              refine k_M_moved_102 (c_M_homes (r := vs_row (s_ow σ) key 16) (mo := s_mo σ) (by rw [ho 41 (by decide)]; exact hC2.1.1) hmo (by unfold vs_LM; rw [ho 41 (by decide), ho 56 (by decide)]; exact hL) hrl ⟨fun _ => ⟨40 * a + v, ⟨by omega, nI_lin40 _ _⟩, ?_⟩, fun hc => absurd (nI_le (Nat.le_refl _) (by omega)) hc⟩)
              rw [nI_1, nI_1, ← ec]
              refine ih _ (fun k hk2 => (jw_Une hk2).trans (ho k hk2)) (fun b u hb hu => ?_)
              rw [jw_Uat]
              by_cases e : b = a
              · rw [if_pos e, e]
                by_cases e2 : u = v
                · rw [if_pos (by omega), e2, hw]
                  simp [bI]
                · rw [if_neg (by omega), hr a u ha hu, if_pos rfl, dec u e2]
              · rw [if_neg e, if_neg (by omega), hr b u hb hu, if_neg e]
                cases hin : vs_in (vs_row (s_ow σ) key 16) (min (s_mo σ) (vs_row (s_ow σ) key 16).length) b <;> rfl
            · intro t ht ih2 M' ho hr
              have htr : t < (vs_row (s_ow σ) key 16).length := by omega
              have hn5 : (vs_row (s_ow σ) key 16).getD t 0 < 5 := hr5 _ (vs_getD_mem htr)
              have hin1 : vs_in (vs_row (s_ow σ) key 16) (min (s_mo σ) (vs_row (s_ow σ) key 16).length) ((vs_row (s_ow σ) key 16).getD t 0) = true := vs_in_t ht
              have hin0 : vs_in (vs_row (s_ow σ) key 16) t ((vs_row (s_ow σ) key 16).getD t 0) = false := vs_in_f hnd (Nat.le_refl t) htr
              have hne : (vs_row (s_ow σ) key 16).getD t 0 ≠ a := fun e => by rw [e, hna] at hin1; cases hin1
              refine k_M_moved_102 (c_M_homes (r := vs_row (s_ow σ) key 16) (mo := s_mo σ) (by rw [ho 41 (by decide)]; exact hC2.1.1) hmo (by unfold vs_LM; rw [ho 41 (by decide), ho 56 (by decide)]; exact hL) hrl ⟨fun hc => absurd hc (nI_ge ht (by omega)), fun _ => ⟨t, ⟨by omega, rfl⟩, ?_⟩⟩)
              rw [ho 56 (by decide), hL.2 t htr]
              refine c_M_take (md := s_md σ) (h := vs_tkA (s_hs σ ((vs_row (s_ow σ) key 16).getD t 0)) (s_ky σ) (s_cl σ) (s_md σ) (sp_hkw σ a key) v) hn5 (by omega) (by rw [ho 41 (by decide)]; exact hC2.2.2.2.2.1) hmd (fun u hu => ?_) (fun M3 ho3 hx3 hr3 => ?_)
              · rw [hr _ u hn5 hu, if_neg hne, hin1, hin0]
                rfl
              · rw [nI_1]
                refine ih2 M3 (fun k hk2 => (ho3 k hk2).trans (ho k hk2)) (fun b u hb hu => ?_)
                by_cases e : b = (vs_row (s_ow σ) key 16).getD t 0
                · rw [e, if_neg hne, hin1, vs_in_t (Nat.lt_succ_self t), if_pos rfl, if_pos rfl, eA, hr3 u hu]
                  congr 1
                  exact vs_tk_c (fun u hu => by rw [ho 45 (by decide)]; exact c45 u hu) (fun u hu => by rw [ho 48 (by decide)]; exact c48 u hu) hmd (by omega) hu
                · rw [hx3 _ (by omega), hr b u hb hu, vs_in_s, show ((vs_row (s_ow σ) key 16).getD t 0 == b) = false from beq_eq_false_iff_ne.mpr (fun z => e z.symm), Bool.or_false]
          refine homes 0 (Nat.zero_le _) M' ho (fun b u hb hu => ?_)
          rw [hr b u hb hu]
          rfl
    have reach : ∀ t, t ≤ min (s_mo σ) (vs_row (s_ow σ) key 16).length → (∀ i, i < t → vs_rch (s_up σ) (s_cu σ) a ((vs_row (s_ow σ) key 16).getD i 0) = true) → jw_X l X (jw_g G) A f_M_moved 29 [some (jw_a G 41), some (.int (nI a)), some (.int (nI key)), some (.int (nI t)), none, none] [] M2 := by
      refine vs_up ?_ ?_
      · intro hall
        refine k_M_moved_29 (c_M_homes hC2.1.1 hmo hL hrl ⟨fun _ => ?_, fun hc => absurd (nI_le (Nat.le_refl _) (by omega)) hc⟩)
        refine vers (vs_all_t hall) 0 (Nat.zero_le _) M2 (fun _ _ => rfl) (fun b u hb hu => ?_)
        rw [c49 b u hb hu]
        by_cases e : b = a
        · rw [if_pos e, e]
          simp
        · rw [if_neg e]
          cases vs_in (vs_row (s_ow σ) key 16) (min (s_mo σ) (vs_row (s_ow σ) key 16).length) b <;> rfl
      · intro t ht ih hall
        refine k_M_moved_29 (c_M_homes hC2.1.1 hmo hL hrl ⟨fun hc => absurd hc (nI_ge ht (by omega)), fun _ => ⟨t, ⟨by omega, rfl⟩, ?_⟩⟩)
        rw [hL.2 t (by omega)]
        refine c_M_reaches (up := s_up σ) (cu := s_cu σ) ha (hr5 _ (vs_getD_mem (by omega))) hC2.2.2.1 hC2.2.2.2.1 ⟨fun g => ?_, fun g => hR _ _ (no ?_ M2 hC2 h41)⟩
        · rw [bI_n0] at g
          rw [nI_1]
          refine ih (fun i hi => ?_)
          by_cases e : i = t
          · rw [e]; exact g
          · exact hall i (by omega)
        · rw [bI_0] at g
          have g2 : (List.range (min (s_mo σ) (vs_row (s_ow σ) key 16).length)).all (fun t => vs_rch (s_up σ) (s_cu σ) a ((vs_row (s_ow σ) key 16).getD t 0)) = false := vs_all_f ht g
          simp only [sp_hkc, g2]
          simp
    exact reach 0 (Nat.zero_le _) (fun i hi => absurd hi (Nat.not_lt_zero i))
  · have : min (s_mo σ) (vs_row (s_ow σ) key 16).length = 0 := (nI_ne (b := 0) (by omega) (by omega)).mp h4
    simp only [sp_hkc, this]
    simp
theorem oM_s (x : Option Nat) (h : ∀ o, x = some o → o < 5) : (x = none ∧ oM x - 1 < 0) ∨ ∃ o, x = some o ∧ o < 5 ∧ oM x - 1 = nI o := by
  cases x with
  | none => exact Or.inl ⟨rfl, by decide⟩
  | some o => exact Or.inr ⟨o, rfl, h o rfl, nI_pred o⟩
theorem c_M_handOver_f {l : Launch} {G : jw_G} {A : Nat → Prop} {M : jw_Mem} {Q : Int32 → jw_Mem → Prop} {x1 : Int32} (h : vs_out x1 5) (hQ : Q (-1) M) : jw_M l (jw_g G) A f_M_handOver [jw_a G 41, .int x1] M Q := e_M_handOver (fun X hR => c_M_isNode_f h ⟨fun hc => absurd rfl hc, fun _ => hR _ _ hQ⟩)
theorem c_M_handOver {l : Launch} {G : jw_G} {A : Nat → Prop} {M : jw_Mem} {Q : Int32 → jw_Mem → Prop} {σ : vs_S} {a : Nat} (hok : vs_ok σ) (hC : vs_M σ M) (ha : a < 5) (hQ : ∀ M' : jw_Mem, vs_M (sp_ho σ a) M' → (∀ k, k < 41 → M' k = M k) → Q (sp_hor σ a) M') : jw_M l (jw_g G) A f_M_handOver [jw_a G 41, .int (nI a)] M Q := by
  have hmd := hok.2.2.1
  have hhi := hok.2.2.2.2.1
  have hup := hC.2.2.1 a ha
  refine e_M_handOver (fun X hR => c_M_isNode_t ha ⟨fun _ => ⟨a, ⟨ha, rfl⟩, fun hu => ?_, fun hu => hR _ _ ?_⟩, fun hc => absurd hc (by decide)⟩)
  · rw [hup, bI_0] at hu
    have hu2 : s_up σ a = true := by simpa using hu
    have n1 : ¬ s_up σ a = false := by rw [hu2]; decide
    unfold sp_ho sp_hor at hQ
    rw [if_neg n1, if_neg n1] at hQ
    have loop : ∀ k, k ≤ 32 → ∀ M' : jw_Mem, vs_M (sp_hos σ a k) M' → (∀ q, q < 41 → M' q = M q) → jw_X l X (jw_g G) A f_M_handOver 93 [some (jw_a G 41), some (.int (nI a)), some (.int (nI (sp_hon σ a k))), some (.int (nI k)), none] [] M' := by
      refine vs_up ?_ ?_
      · intro M' hC' ho'
        exact k_M_handOver_93 ⟨fun _ => hR _ _ (hQ M' hC' ho'), fun hc => absurd (nI_le (a := 32) (Nat.le_refl _) (by omega)) hc⟩
      · intro k hk ih M' hC' ho'
        refine k_M_handOver_93 ⟨fun hc => absurd hc (nI_ge (b := 32) hk (by omega)), fun _ => c_M_moved (vs_ok_hos hok k) hC' ha hk (fun M2 hC2 ho2 => ?_)⟩
        rw [nI_1, nI_add]
        exact ih M2 hC2 (fun q hq => (ho2 q hq).trans (ho' q hq))
    have hints : ∀ i, i ≤ s_md σ → ∀ M' : jw_Mem, (∀ k, k ≠ 49 → k ≠ 50 → M' k = M k) → (∀ b u, b < 5 → u < 40 → M' 49 (40 * b + u) = bI (sp_hh σ a i b u)) → (∀ b u, b < 5 → u < 40 → M' 50 (40 * b + u) = oM (sp_hj σ a i b u)) → jw_X l X (jw_g G) A f_M_handOver 25 [some (jw_a G 41), some (.int (nI a)), some (.int (nI (vs_cnt (sp_gn σ a) i))), some (.int (nI i)), none] [] M' := by
      refine vs_up ?_ ?_
      · intro M' ho h49 h50
        have hC1 : vs_M (w_hs σ (sp_hh σ a (s_md σ))) (fun k => if k = 50 then M 50 else M' k) := by
          refine vs_M_hs hC (fun k hk => ?_) (fun b u hb hu => h49 b u hb hu)
          show (if k = 50 then M 50 else M' k) = M k
          by_cases e : k = 50
          · rw [if_pos e, e]
          · rw [if_neg e]
            exact ho k hk e
        refine k_M_handOver_25 ⟨fun _ => loop 0 (Nat.zero_le _) M' (vs_M_hi hC1 (fun k hk => ?_) h50) (fun q hq => ho q (by omega) (by omega)), fun hc => absurd ?_ hc⟩
        · show M' k = if k = 50 then M 50 else M' k
          rw [if_neg hk]
        · rw [ho 41 (by decide) (by decide), hC.2.2.2.2.1]
          exact nI_le (Nat.le_refl _) (by omega)
      · intro i hi ih M' ho h49 h50
        have e41 : M' 41 = M 41 := ho 41 (by decide) (by decide)
        have e45 : M' 45 = M 45 := ho 45 (by decide) (by decide)
        have e48 : M' 48 = M 48 := ho 48 (by decide) (by decide)
        have hrow : M' 50 (40 * a + i) = oM (s_hi σ a i) := by
          rw [h50 a i ha (by omega)]
          unfold sp_hj
          rw [vs_hj_i]
        have st0 : sp_gn σ a i = false → jw_X l X (jw_g G) A f_M_handOver 25 [some (jw_a G 41), some (.int (nI a)), some (.int (nI (vs_cnt (sp_gn σ a) i))), some (.int (nI i + 1)), none] [] M' := by
          intro e
          rw [nI_1]
          rw [vs_cnt_s, e] at ih
          refine ih M' ho (fun b u hb hu => ?_) (fun b u hb hu => ?_)
          · rw [h49 b u hb hu]
            unfold sp_hh
            conv => rhs; unfold vs_hh
            rw [show vs_gn (s_hi σ) (vs_rch (s_up σ) (s_cu σ) a) a i = false from e]
            rfl
          · rw [h50 b u hb hu]
            unfold sp_hj
            rw [vs_hj_f e]
        refine k_M_handOver_25 ⟨fun hc => absurd hc ?_, fun _ => ⟨40 * a + i, ⟨by omega, nI_lin40 _ _⟩, fun g1 => st0 ?_, fun g1 => ?_⟩⟩
        · rw [e41, hC.2.2.2.2.1]
          exact nI_ge hi (by omega)
        · rw [hrow] at g1
          rcases oM_s (s_hi σ a i) (hhi a i) with ⟨hx, _⟩ | ⟨o, hx, ho5, eo⟩
          · exact vs_gn_n hx
          · rw [eo] at g1
            exact absurd g1 (nI_pos (by omega))
        · rw [hrow] at g1 ⊢
          rcases oM_s (s_hi σ a i) (hhi a i) with ⟨hx, z⟩ | ⟨o, hx, ho5, eo⟩
          · exact absurd z g1
          · rw [eo]
            refine c_M_reaches (up := s_up σ) (cu := s_cu σ) ha ho5 (by rw [ho 42 (by decide) (by decide)]; exact hC.2.2.1) (by rw [ho 43 (by decide) (by decide)]; exact hC.2.2.2.1) ⟨fun g2 => st0 ?_, fun g2 => ?_⟩
            · rw [bI_0] at g2
              exact (vs_gn_s hx).trans g2
            · rw [bI_n0] at g2
              have e : sp_gn σ a i = true := (vs_gn_s hx).trans g2
              refine c_M_take (h := sp_hh σ a i o) (md := s_md σ) ho5 (by omega) (by rw [e41]; exact hC.2.2.2.2.1) hmd (fun u hu => h49 o u ho5 hu) (fun M2 ho2 hx2 hr2 => ⟨40 * a + i, ⟨by omega, nI_lin40 _ _⟩, ?_⟩)
              rw [nI_1, nI_1]
              rw [vs_cnt_s, e] at ih
              refine ih _ (fun k k1 k2 => ?_) (fun b u hb hu => ?_) (fun b u hb hu => ?_)
              · rw [jw_Une k2, ho2 k k1]
                exact ho k k1 k2
              · rw [jw_Une (by decide)]
                unfold sp_hh
                unfold vs_hh
                rw [show vs_gn (s_hi σ) (vs_rch (s_up σ) (s_cu σ) a) a i = true from e, if_pos rfl, hx]
                show _ = bI (va_up (α := Nat → Bool) _ o _ b u)
                unfold va_up
                by_cases e9 : b = o
                · rw [if_pos e9, e9, hr2 u hu]
                  congr 1
                  exact vs_tk_c (fun u hu => by rw [e45]; exact hC.2.2.2.2.2.1.1 u hu) (fun u hu => by rw [e48]; exact hC.2.2.2.2.2.1.2.2.2 u hu) hmd (by omega) hu
                · rw [if_neg e9, hx2 _ (by omega)]
                  exact h49 b u hb hu
              · unfold sp_hj
                rw [vs_hj_t e, jw_Uat]
                by_cases e9 : b = a ∧ u = i
                · rw [if_pos e9, if_pos (by omega)]
                  rfl
                · rw [if_neg e9, if_neg (fun z => e9 (by omega)), ho2 50 (by decide)]
                  exact h50 b u hb hu
    refine hints 0 (Nat.zero_le _) M (fun _ _ _ => rfl) hC.2.2.2.2.2.2.1 (fun b u hb hu => ?_)
    rw [hC.2.2.2.2.2.2.2.1 b u hb hu]
    unfold sp_hj vs_hj
    rw [if_neg (fun z => absurd z.2.1 (Nat.not_lt_zero u))]
  · rw [hup, bI_n0] at hu
    have hu2 : s_up σ a = false := by simpa using hu
    unfold sp_ho sp_hor at hQ
    rw [if_pos hu2, if_pos hu2] at hQ
    exact hQ M hC (fun _ _ => rfl)
