/-! The class: compare -/
def sp_sh (σ : vs_S) (a b key : Nat) : Bool := ((vs_row (s_ow σ) key 16).take (s_mo σ)).contains a && ((vs_row (s_ow σ) key 16).take (s_mo σ)).contains b
def sp_di (σ : vs_S) (a b key : Nat) : Bool := (List.range (s_md σ)).any (fun u => s_ky σ u == nI key && !(s_hs σ a u == s_hs σ b u))
def sp_df (σ : vs_S) (a b key : Nat) : Bool := sp_sh σ a b key && sp_di σ a b key
def sp_exh (σ : vs_S) (a b key : Nat) : Nat → Nat → Bool := fun c u => if c = a then vs_tkA (s_hs σ a) (s_ky σ) (s_cl σ) (s_md σ) (sp_hkw σ b key) (s_md σ) u else if c = b then vs_tkA (s_hs σ b) (s_ky σ) (s_cl σ) (s_md σ) (sp_hkw σ a key) (s_md σ) u else s_hs σ c u
def sp_ex (σ : vs_S) (a b key : Nat) : vs_S := w_hs σ (sp_exh σ a b key)
theorem c_V_share {l : Launch} {G : jw_G} {A : Nat → Prop} {M : jw_Mem} {Q : Int32 → jw_Mem → Prop} {σ : vs_S} {a b key : Nat} (hok : vs_ok σ) (hC : vs_C σ M) (ha : a < 5) (hb : b < 5) (hk : key < 32) (hQ : ∀ M' : jw_Mem, vs_C σ M' → (∀ k, k ≠ 1 → k ≠ 3 → M' k = M k) → Q (bI (sp_sh σ a b key)) M') : jw_M l (jw_g G) A f_V_share [jw_a G 0, .int (nI a), .int (nI b), .int (nI key)] M Q := by
  have how := hok.2.2.2.1
  have hmo := hok.2.1
  have hrl := vs_row_len how 16 (key := key)
  have hr5 := vs_row_lt how 16 (key := key)
  refine e_V_share (fun X hR => c_R_lookUp (ow := s_ow σ) (mo := s_mo σ) hk hmo hC.1.1 hC.2.1 how (fun M2 ho2 hL2 => ?_))
  have hC2 : vs_C σ M2 := vs_same_C ⟨fun k _ k1 k3 _ _ _ _ _ => ho2 k k1 k3, by rw [ho2 0 (by decide) (by decide)], by rw [ho2 0 (by decide) (by decide)], by rw [ho2 0 (by decide) (by decide)], by rw [hL2.1]; exact hC.1.1.symm⟩ hC
  have hq := hQ M2 hC2 ho2
  unfold sp_sh at hq
  refine c_R_hasHome hL2 hrl hr5 ha ⟨fun h1 => hR _ _ ?_ (Or.inl rfl), fun h1 => c_R_hasHome hL2 hrl hr5 hb ⟨fun h2 => hR _ _ ?_ (Or.inl rfl), fun h2 => hR _ _ ?_ (Or.inr rfl)⟩⟩
  · rw [bI_0] at h1
    rw [h1] at hq
    exact hq
  · rw [bI_0] at h2
    rw [h2, Bool.and_false] at hq
    exact hq
  · rw [bI_n0] at h1 h2
    rw [h1, h2] at hq
    exact hq
theorem c_V_differ {l : Launch} {G : jw_G} {A : Nat → Prop} {M : jw_Mem} {Q : Int32 → jw_Mem → Prop} {σ : vs_S} {a b key : Nat} (hok : vs_ok σ) (hC : vs_C σ M) (ha : a < 5) (hb : b < 5) (hQ : Q (bI (sp_di σ a b key)) M) : jw_M l (jw_g G) A f_V_differ [jw_a G 0, .int (nI a), .int (nI b), .int (nI key)] M Q := by
  have hmd := hok.2.2.1
  refine e_V_differ (fun X hR => ?_)
  have loop : ∀ i, i ≤ s_md σ → (∀ u, u < i → (s_ky σ u == nI key && !(s_hs σ a u == s_hs σ b u)) = false) → jw_X l X (jw_g G) A f_V_differ 3 [some (jw_a G 0), some (.int (nI a)), some (.int (nI b)), some (.int (nI key)), some (.int (nI i))] [] M := by
    refine vs_up ?_ ?_
    · intro hno
      rw [show sp_di σ a b key = false from vs_any_f hno] at hQ
      refine k_V_differ_3 ⟨fun _ => hR _ _ hQ (Or.inl rfl), fun hc => absurd ?_ hc⟩
      rw [hC.2.2.2.2.1]
      exact nI_le (Nat.le_refl _) (by omega)
    · intro i hi ih hno
      have st : (s_ky σ i == nI key && !(s_hs σ a i == s_hs σ b i)) = false → jw_X l X (jw_g G) A f_V_differ 3 [some (jw_a G 0), some (.int (nI a)), some (.int (nI b)), some (.int (nI key)), some (.int (nI i + 1))] [] M := by
        intro e
        rw [nI_1]
        exact ih (lt_s hno e)
      refine k_V_differ_3 ⟨fun hc => absurd hc ?_, fun _ => ⟨i, ⟨by omega, rfl⟩, fun h1 => st ?_, fun h1 => ⟨a, ⟨ha, rfl⟩, i, ⟨by omega, rfl⟩, b, ⟨hb, rfl⟩, i, ⟨by omega, rfl⟩, fun h2 => st ?_, fun h2 => ?_⟩⟩⟩
      · rw [hC.2.2.2.2.1]
        exact nI_ge hi (by omega)
      · rw [hC.2.2.2.2.2.1.1 i (by omega)] at h1
        simp [h1]
      · rw [hC.2.2.2.2.2.2.1 a i ha (by omega), hC.2.2.2.2.2.2.1 b i hb (by omega), bI_inj] at h2
        simp [h2]
      · rw [hC.2.2.2.2.2.1.1 i (by omega)] at h1
        rw [hC.2.2.2.2.2.2.1 a i ha (by omega), hC.2.2.2.2.2.2.1 b i hb (by omega), bI_inj] at h2
        rw [show sp_di σ a b key = true from vs_any_t hi (by simp [h1, h2])] at hQ
        exact hR _ _ hQ (Or.inr rfl)
  exact loop 0 (Nat.zero_le _) (fun u hu => absurd hu (Nat.not_lt_zero u))
theorem c_V_exchange {l : Launch} {G : jw_G} {A : Nat → Prop} {M : jw_Mem} {Q : Int32 → jw_Mem → Prop} {σ : vs_S} {a b key : Nat} (hok : vs_ok σ) (hC : vs_C σ M) (ha : a < 5) (hb : b < 5) (hab : a ≠ b) (hQ : ∀ M' : jw_Mem, vs_C (sp_ex σ a b key) M' → M' 40 = M 40 → (∀ k, 41 ≤ k → M' k = M k) → Q 0 M') : jw_M l (jw_g G) A f_V_exchange [jw_a G 0, .int (nI a), .int (nI b), .int (nI key)] M Q := by
  have hmd := hok.2.2.1
  have c4 := hC.2.2.2.2.1
  have c5 := hC.2.2.2.2.2.1.1
  have c8 := hC.2.2.2.2.2.1.2.2.2
  have c11 := hC.2.2.2.2.2.2.1
  refine e_V_exchange (fun X hR => ⟨a, ⟨ha, rfl⟩, c_N_writeOut (h := s_hs σ a) (md := s_md σ) ha jw_k38 (by omega) c4 hmd (fun u hu => c11 a u ha hu) (fun M1 ho1 hr1 => ⟨b, ⟨hb, rfl⟩, c_N_writeOut (h := s_hs σ b) (md := s_md σ) hb jw_k39 (by omega) (by rw [ho1 4 (by decide)]; exact c4) hmd (fun u hu => by rw [ho1 _ (by omega)]; exact c11 b u hb hu) (fun M2 ho2 hr2 => ⟨a, ⟨ha, rfl⟩, ?_⟩)⟩)⟩)
  have w38 : ∀ u, u < s_md σ → M2 38 u = bI (sp_hkw σ a key u) := by
    intro u hu
    rw [ho2 38 (by decide), hr1 u hu, c5 u (by omega)]
    rfl
  have w39 : ∀ u, u < s_md σ → M2 39 u = bI (sp_hkw σ b key u) := by
    intro u hu
    rw [hr2 u hu, ho1 5 (by decide), c5 u (by omega)]
    rfl
  have o2 : ∀ k, k ≠ 38 → k ≠ 39 → M2 k = M k := fun k k1 k2 => (ho2 k k2).trans (ho1 k k1)
  refine c_N_takeAll (h := s_hs σ a) (md := s_md σ) (row := sp_hkw σ b key) ha jw_k39 (by omega) (by rw [o2 4 (by decide) (by decide)]; exact c4) hmd (fun u hu => by rw [o2 _ (by omega) (by omega)]; exact c11 a u ha hu) w39 (fun M3 ho3 hr3 => ⟨b, ⟨hb, rfl⟩, ?_⟩)
  have eA := vs_tkA_c (h := s_hs σ a) (row := sp_hkw σ b key) (ky := M2 5) (cl := M2 8) (ky' := s_ky σ) (cl' := s_cl σ) (fun u hu => by rw [o2 5 (by decide) (by decide)]; exact c5 u hu) (fun u hu => by rw [o2 8 (by decide) (by decide)]; exact c8 u hu) hmd _ (Nat.le_refl _)
  refine c_N_takeAll (h := s_hs σ b) (md := s_md σ) (row := sp_hkw σ a key) hb jw_k38 (by omega) (by rw [ho3 4 (by omega), o2 4 (by decide) (by decide)]; exact c4) hmd (fun u hu => by rw [ho3 _ (by omega), o2 _ (by omega) (by omega)]; exact c11 b u hb hu) (fun u hu => by rw [ho3 38 (by omega)]; exact w38 u hu) (fun M4 ho4 hr4 => hR _ (hQ M4 ?_ ?_ ?_))
  · have eB := vs_tkA_c (h := s_hs σ b) (row := sp_hkw σ a key) (ky := M3 5) (cl := M3 8) (ky' := s_ky σ) (cl' := s_cl σ) (fun u hu => by rw [ho3 5 (by omega), o2 5 (by decide) (by decide)]; exact c5 u hu) (fun u hu => by rw [ho3 8 (by omega), o2 8 (by decide) (by decide)]; exact c8 u hu) hmd _ (Nat.le_refl _)
    have hC2 : vs_C σ M2 := vs_same_C ⟨fun k _ _ _ _ _ k38 k39 _ => o2 k k38 k39, by rw [o2 0 (by decide) (by decide)], by rw [o2 0 (by decide) (by decide)], by rw [o2 0 (by decide) (by decide)], by rw [o2 1 (by decide) (by decide)]⟩ hC
    refine vs_C_hs hC2 (fun k hk => (ho4 k (hk b hb)).trans (ho3 k (hk a ha))) (fun c u hc hu => ?_)
    unfold sp_exh
    by_cases e1 : c = a
    · rw [if_pos e1, e1, ho4 _ (by omega), hr3 u hu, eA u hu]
    · rw [if_neg e1]
      by_cases e2 : c = b
      · rw [if_pos e2, e2, hr4 u hu, eB u hu]
      · rw [if_neg e2, ho4 _ (by omega), ho3 _ (by omega), o2 _ (by omega) (by omega)]
        exact c11 c u hc hu
  · rw [ho4 40 (by omega), ho3 40 (by omega), o2 40 (by decide) (by decide)]
  · intro k hk
    rw [ho4 k (by omega), ho3 k (by omega), o2 k (by omega) (by omega)]
/-- two by two -/
def vs_lv (e : Nat → Bool) (j : Nat) : Bool := e (2 * j) || e (2 * j + 1)
theorem c_V_parts {l : Launch} {X : jw_X0} {G : jw_G} {A : Nat → Prop} {M : jw_Mem} {e : Nat → Bool} {P n : Nat} {x : Int32} (hP : 0 < P) (hP2 : P ≤ 16) (hx : x = nI P) (hr : ∀ j, j < 2 * P → M 40 j = bI (e j))
    (next : ∀ M' : jw_Mem, (∀ k, k ≠ 40 → M' k = M k) → (∀ j, j < P → M' 40 j = bI (vs_lv e j)) → jw_X l X (jw_g G) A f_V_countComparedParts 5 [some (jw_a G 0), some (.int (nI (n + 2 * vs_cnt (vs_lv e) P))), some (.int (nI P / 2)), none] [] M') : jw_X l X (jw_g G) A f_V_countComparedParts 5 [some (jw_a G 0), some (.int (nI n)), some (.int x), none] [] M := by
  have hx0 : ¬ x ≤ 0 := by
    rw [hx]
    exact nI_ge (b := P) (a := 0) hP (by omega)
  refine k_V_countComparedParts_5 ⟨fun hc => absurd hc hx0, fun _ => ?_⟩
  rw [hx]
  have loop : ∀ i, i ≤ P → ∀ M' : jw_Mem, (∀ k, k ≠ 40 → M' k = M k) → (∀ j, j < i → M' 40 j = bI (vs_lv e j)) → (∀ j, i ≤ j → M' 40 j = M 40 j) → jw_X l X (jw_g G) A f_V_countComparedParts 11 [some (jw_a G 0), some (.int (nI (n + 2 * vs_cnt (vs_lv e) i))), some (.int (nI P)), some (.int (nI i))] [] M' := by
    refine vs_up ?_ ?_
    · intro M' ho h1 h2
      exact k_V_countComparedParts_11 ⟨fun _ => next M' ho h1, fun hc => absurd (nI_le (Nat.le_refl _) (by omega)) hc⟩
    · intro i hi ih M' ho h1 h2
      have st : ∀ bb : Bool, vs_lv e i = bb → (∀ k, k ≠ 40 → jw_U M' 40 i (bI bb) k = M k) ∧ (∀ j, j < i + 1 → jw_U M' 40 i (bI bb) 40 j = bI (vs_lv e j)) ∧ (∀ j, i + 1 ≤ j → jw_U M' 40 i (bI bb) 40 j = M 40 j) := by
        intro bb hb
        refine ⟨fun k hk => (jw_Une hk).trans (ho k hk), fun j hj => ?_, fun j hj => ?_⟩
        · rw [jw_Uat]
          by_cases c : j = i
          · rw [if_pos c, c, hb]
          · rw [if_neg c]
            exact h1 j (by omega)
        · rw [jw_Uat, if_neg (by omega)]
          exact h2 j (by omega)
      have st1 : vs_lv e i = true → jw_X l X (jw_g G) A f_V_countComparedParts 11 [some (jw_a G 0), some (.int (nI (n + 2 * vs_cnt (vs_lv e) i) + 2)), some (.int (nI P)), some (.int (nI i + 1))] [] (jw_U M' 40 i 1) := by
        intro hb
        obtain ⟨g1, g2, g3⟩ := st true hb
        rw [vs_cnt_s, hb] at ih
        rw [nI_1, show (2 : Int32) = nI 2 from rfl, nI_add, show n + 2 * vs_cnt (vs_lv e) i + 2 = n + 2 * (vs_cnt (vs_lv e) i + 1) by omega]
        exact ih _ g1 g2 g3
      have st0 : vs_lv e i = false → jw_X l X (jw_g G) A f_V_countComparedParts 11 [some (jw_a G 0), some (.int (nI (n + 2 * vs_cnt (vs_lv e) i))), some (.int (nI P)), some (.int (nI i + 1))] [] (jw_U M' 40 i 0) := by
        intro hb
        obtain ⟨g1, g2, g3⟩ := st false hb
        rw [vs_cnt_s, hb] at ih
        rw [nI_1]
        exact ih _ g1 g2 g3
      have z0 : jw_U M' 40 i 0 40 i = 0 := by rw [jw_Uat, if_pos rfl]
      have z1 : ¬ jw_U M' 40 i 1 40 i = 0 := by rw [jw_Uat, if_pos rfl]; decide
      have ev : M' 40 (2 * i) = bI (e (2 * i)) := by rw [h2 _ (by omega)]; exact hr _ (by omega)
      have od : M' 40 (2 * i + 1) = bI (e (2 * i + 1)) := by rw [h2 _ (by omega)]; exact hr _ (by omega)
      have m2 : (2 : Int32) * nI i = nI (2 * i) := by rw [show (2 : Int32) = nI 2 from rfl, pk_mul]
      refine k_V_countComparedParts_11 ⟨fun hc => absurd hc (nI_ge hi (by omega)), fun _ => ⟨2 * i, ⟨by omega, m2⟩, fun f1 => ⟨i, ⟨by omega, rfl⟩, i, ⟨by omega, rfl⟩, fun hc => absurd hc z1, fun _ => st1 ?_⟩, fun f1 => ⟨2 * i + 1, ⟨by omega, by rw [m2, nI_1]⟩, fun f2 => ⟨i, ⟨by omega, rfl⟩, i, ⟨by omega, rfl⟩, fun _ => st0 ?_, fun hc => absurd z0 hc⟩, fun f2 => ⟨i, ⟨by omega, rfl⟩, i, ⟨by omega, rfl⟩, fun hc => absurd hc z1, fun _ => st1 ?_⟩⟩⟩⟩
      · rw [ev, bI_n0] at f1
        simp [vs_lv, f1]
      · rw [ev, bI_0] at f1
        rw [od, bI_0] at f2
        simp [vs_lv, f1, f2]
      · rw [od, bI_n0] at f2
        simp [vs_lv, f2]
  exact loop 0 (Nat.zero_le _) M (fun _ _ => rfl) (fun j hj => absurd hj (Nat.not_lt_zero j)) (fun _ _ => rfl)
def vs_parts (d : Nat → Bool) : Nat := 1 + 2 * vs_cnt (vs_lv d) 16 + 2 * vs_cnt (vs_lv (vs_lv d)) 8 + 2 * vs_cnt (vs_lv (vs_lv (vs_lv d))) 4 + 2 * vs_cnt (vs_lv (vs_lv (vs_lv (vs_lv d)))) 2 + 2 * vs_cnt (vs_lv (vs_lv (vs_lv (vs_lv (vs_lv d))))) 1
theorem c_V_countComparedParts {l : Launch} {G : jw_G} {A : Nat → Prop} {M : jw_Mem} {Q : Int32 → jw_Mem → Prop} {d : Nat → Bool} (hd : ∀ j, j < 32 → M 40 j = bI (d j)) (hQ : ∀ M' : jw_Mem, (∀ k, k ≠ 40 → M' k = M k) → Q (nI (vs_parts d)) M') : jw_M l (jw_g G) A f_V_countComparedParts [jw_a G 0] M Q := by
  refine e_V_countComparedParts (fun X hR => ?_)
  refine c_V_parts (n := 1) (P := 16) (e := d) (by decide) (by decide) rfl hd (fun M1 o1 h1 => ?_)
  refine c_V_parts (P := 8) (e := vs_lv d) (by decide) (by decide) (by decide) h1 (fun M2 o2 h2 => ?_)
  refine c_V_parts (P := 4) (e := vs_lv (vs_lv d)) (by decide) (by decide) (by decide) h2 (fun M3 o3 h3 => ?_)
  refine c_V_parts (P := 2) (e := vs_lv (vs_lv (vs_lv d))) (by decide) (by decide) (by decide) h3 (fun M4 o4 h4 => ?_)
  refine c_V_parts (P := 1) (e := vs_lv (vs_lv (vs_lv (vs_lv d)))) (by decide) (by decide) (by decide) h4 (fun M5 o5 h5 => ?_)
  exact k_V_countComparedParts_5 ⟨fun _ => hR _ _ (hQ M5 (fun k hk => by rw [o5 k hk, o4 k hk, o3 k hk, o2 k hk, o1 k hk])), fun hc => absurd (by decide) hc⟩
def sp_co (σ : vs_S) (a b : Nat) : Nat → vs_S
  | 0 => σ
  | k + 1 => if sp_df (sp_co σ a b k) a b k then sp_ex (sp_co σ a b k) a b k else sp_co σ a b k
def sp_cod (σ : vs_S) (a b k : Nat) : Bool := sp_df (sp_co σ a b k) a b k
def sp_cor (σ : vs_S) (a b : Nat) : Int32 := if vs_rch (s_up σ) (s_cu σ) a b then nI (vs_parts (sp_cod σ a b)) else -2
def sp_cos (σ : vs_S) (a b : Nat) : vs_S := if vs_rch (s_up σ) (s_cu σ) a b then sp_co σ a b 32 else σ
theorem vs_ok_co {σ : vs_S} {a b : Nat} (h : vs_ok σ) : ∀ k, vs_ok (sp_co σ a b k)
  | 0 => h
  | k + 1 => by
    have ih := vs_ok_co (a := a) (b := b) h k
    show vs_ok (if sp_df (sp_co σ a b k) a b k then sp_ex (sp_co σ a b k) a b k else sp_co σ a b k)
    cases sp_df (sp_co σ a b k) a b k with
    | false => exact ih
    | true => exact vs_ok_hs ih
theorem vs_ok_cos {σ : vs_S} {a b : Nat} (h : vs_ok σ) : vs_ok (sp_cos σ a b) := by
  unfold sp_cos
  by_cases e : vs_rch (s_up σ) (s_cu σ) a b = true
  · rw [if_pos e]
    exact vs_ok_co h 32
  · rw [if_neg e]
    exact h
theorem c_V_compare_f {l : Launch} {G : jw_G} {A : Nat → Prop} {M : jw_Mem} {Q : Int32 → jw_Mem → Prop} {x1 x2 : Int32} (h : vs_out x1 5 ∨ vs_out x2 5 ∨ x1 = x2) (hQ : Q (-1) M) : jw_M l (jw_g G) A f_V_compare [jw_a G 0, .int x1, .int x2] M Q := e_V_compare (fun X hR => c_V_areTwoNodes_f h ⟨fun hc => absurd rfl hc, fun _ => hR _ _ hQ⟩)
theorem c_V_compare {l : Launch} {G : jw_G} {A : Nat → Prop} {M : jw_Mem} {Q : Int32 → jw_Mem → Prop} {σ : vs_S} {a b : Nat} (hok : vs_ok σ) (hC : vs_C σ M) (ha : a < 5) (hb : b < 5) (hab : a ≠ b) (hQ : ∀ M' : jw_Mem, vs_C (sp_cos σ a b) M' → (∀ k, 41 ≤ k → M' k = M k) → Q (sp_cor σ a b) M') : jw_M l (jw_g G) A f_V_compare [jw_a G 0, .int (nI a), .int (nI b)] M Q := by
  unfold sp_cos sp_cor at hQ
  refine e_V_compare (fun X hR => c_V_areTwoNodes_t ha hb hab ⟨fun _ => c_V_reaches (up := s_up σ) (cu := s_cu σ) ha hb hC.2.2.1 hC.2.2.2.1 ⟨fun h1 => ?_, fun h1 => hR _ _ ?_⟩, fun hc => absurd hc (by decide)⟩)
  · rw [bI_n0] at h1
    rw [h1, if_pos rfl, if_pos rfl] at hQ
    have loop : ∀ k, k ≤ 32 → ∀ M' : jw_Mem, vs_C (sp_co σ a b k) M' → (∀ j, j < k → M' 40 j = bI (sp_cod σ a b j)) → (∀ q, 41 ≤ q → M' q = M q) → jw_X l X (jw_g G) A f_V_compare 24 [some (jw_a G 0), some (.int (nI a)), some (.int (nI b)), some (.int (nI k))] [] M' := by
      refine vs_up ?_ ?_
      · intro M' hC' h40 ho
        refine k_V_compare_24 ⟨fun _ => c_V_countComparedParts h40 (fun M2 o2 => hR _ _ (hQ M2 ?_ (fun q hq => (o2 q (by omega)).trans (ho q hq)))), fun hc => absurd (nI_le (a := 32) (Nat.le_refl _) (by omega)) hc⟩
        exact vs_same_C ⟨fun k _ _ _ _ _ _ _ k40 => o2 k k40, by rw [o2 0 (by decide)], by rw [o2 0 (by decide)], by rw [o2 0 (by decide)], by rw [o2 1 (by decide)]⟩ hC'
      · intro k hk ih M' hC' h40 ho
        have hok' := vs_ok_co (a := a) (b := b) hok k
        have upd : ∀ (M2 : jw_Mem) (bb : Bool), vs_C (sp_co σ a b k) M2 → (∀ q, q ≠ 1 → q ≠ 3 → M2 q = M' q) → sp_cod σ a b k = bb → vs_C (sp_co σ a b k) (jw_U M2 40 k (bI bb)) ∧ (∀ j, j < k + 1 → jw_U M2 40 k (bI bb) 40 j = bI (sp_cod σ a b j)) ∧ (∀ q, 41 ≤ q → jw_U M2 40 k (bI bb) q = M q) := by
          intro M2 bb hC2 o2 hbb
          refine ⟨vs_same_C ⟨fun k _ _ _ _ _ _ _ k40 => jw_Une k40, by rw [jw_Une (by decide)], by rw [jw_Une (by decide)], by rw [jw_Une (by decide)], by rw [jw_Une (by decide)]⟩ hC2, fun j hj => ?_, fun q hq => ?_⟩
          · rw [jw_Uat]
            by_cases c : j = k
            · rw [if_pos c, c, hbb]
            · rw [if_neg c, o2 40 (by decide) (by decide)]
              exact h40 j (by omega)
          · rw [jw_Une (by omega), o2 q (by omega) (by omega)]
            exact ho q hq
        have z0 : ∀ M2 : jw_Mem, jw_U M2 40 k 0 40 k = 0 := fun M2 => by rw [jw_Uat, if_pos rfl]
        have z1 : ∀ M2 : jw_Mem, ¬ jw_U M2 40 k 1 40 k = 0 := fun M2 => by rw [jw_Uat, if_pos rfl]; decide
        have no : ∀ M2 : jw_Mem, vs_C (sp_co σ a b k) M2 → (∀ q, q ≠ 1 → q ≠ 3 → M2 q = M' q) → sp_cod σ a b k = false → jw_X l X (jw_g G) A f_V_compare 24 [some (jw_a G 0), some (.int (nI a)), some (.int (nI b)), some (.int (nI k + 1))] [] (jw_U M2 40 k 0) := by
          intro M2 hC2 o2 e
          obtain ⟨g1, g2, g3⟩ := upd M2 false hC2 o2 e
          rw [nI_1]
          refine ih _ ?_ g2 g3
          show vs_C (if sp_df (sp_co σ a b k) a b k then sp_ex (sp_co σ a b k) a b k else sp_co σ a b k) _
          rw [show sp_df (sp_co σ a b k) a b k = false from e]
          exact g1
        refine k_V_compare_24 ⟨fun hc => absurd hc (nI_ge (b := 32) hk (by omega)), fun _ => c_V_share hok' hC' ha hb hk (fun M2 hC2 o2 => ⟨fun h2 => ⟨k, ⟨hk, rfl⟩, k, ⟨hk, rfl⟩, fun _ => no M2 hC2 o2 ?_, fun hc => absurd (z0 M2) hc⟩, fun h2 => c_V_differ hok' hC2 ha hb ⟨fun h3 => ⟨k, ⟨hk, rfl⟩, k, ⟨hk, rfl⟩, fun _ => no M2 hC2 o2 ?_, fun hc => absurd (z0 M2) hc⟩, fun h3 => ⟨k, ⟨hk, rfl⟩, k, ⟨hk, rfl⟩, fun hc => absurd hc (z1 M2), fun _ => ?_⟩⟩⟩)⟩
        · rw [bI_0] at h2
          simp [sp_cod, sp_df, h2]
        · rw [bI_0] at h3
          simp [sp_cod, sp_df, h3]
        · rw [bI_n0] at h2 h3
          have e : sp_cod σ a b k = true := by simp [sp_cod, sp_df, h2, h3]
          obtain ⟨g1, g2, g3⟩ := upd M2 true hC2 o2 e
          refine c_V_exchange hok' g1 ha hb hab (fun M3 hC3 e40 o3 => ?_)
          rw [nI_1]
          refine ih M3 ?_ (fun j hj => by rw [e40]; exact g2 j hj) (fun q hq => (o3 q hq).trans (g3 q hq))
          show vs_C (if sp_df (sp_co σ a b k) a b k then sp_ex (sp_co σ a b k) a b k else sp_co σ a b k) _
          rw [show sp_df (sp_co σ a b k) a b k = true from e]
          exact hC3
    exact loop 0 (Nat.zero_le _) M hC (fun j hj => absurd hj (Nat.not_lt_zero j)) (fun _ _ => rfl)
  · rw [bI_0] at h1
    rw [h1] at hQ
    exact hQ M hC (fun _ _ => rfl)
