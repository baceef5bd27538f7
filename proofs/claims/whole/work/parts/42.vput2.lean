/-! The class: put, whole -/
def sp_T (σ : vs_S) (a key : Nat) : List Nat := vs_tg (s_mo σ) (vs_row (s_ow σ) key 16) (vs_rch (s_up σ) (s_cu σ) a)
def sp_H (σ : vs_S) (a key : Nat) : Nat := vs_th (s_mo σ) (vs_row (s_ow σ) key 16) (vs_rch (s_up σ) (s_cu σ) a)
def sp_U (σ : vs_S) (a key : Nat) : List Nat := vs_ul (s_mo σ) (vs_row (s_ow σ) key 16) (vs_rch (s_up σ) (s_cu σ) a)
def sp_put0 (σ : vs_S) (a key : Nat) (vx : Int32) (kn : Nat → Int32) : vs_S := w_hs (sp_add σ a (nI key) vx kn) (vs_sn (s_hs (sp_add σ a (nI key) vx kn)) (fun h => vs_tk h (s_ky (sp_add σ a (nI key) vx kn)) (s_cl (sp_add σ a (nI key) vx kn)) (s_md (sp_add σ a (nI key) vx kn)) (s_md σ)) (sp_T σ a key) (sp_H σ a key))
theorem put0_mo {σ : vs_S} {a key : Nat} {vx : Int32} {kn : Nat → Int32} : s_mo (sp_put0 σ a key vx kn) = s_mo σ := by
  unfold sp_put0
  rw [sw_mo_hs]
  exact add_mo
theorem put0_up {σ : vs_S} {a key : Nat} {vx : Int32} {kn : Nat → Int32} : s_up (sp_put0 σ a key vx kn) = s_up σ := by
  unfold sp_put0
  rw [sw_up_hs]
  exact add_up
theorem put0_cu {σ : vs_S} {a key : Nat} {vx : Int32} {kn : Nat → Int32} : s_cu (sp_put0 σ a key vx kn) = s_cu σ := by
  unfold sp_put0
  rw [sw_cu_hs]
  exact add_cu
def sp_put1 (σ : vs_S) (a key : Nat) (vx : Int32) (kn : Nat → Int32) : vs_S := w_hi (sp_put0 σ a key vx kn) (vs_hn (s_hi (sp_put0 σ a key vx kn)) (s_md σ) (sp_T σ a key) (sp_H σ a key) (sp_U σ a key) ((sp_T σ a key).length - sp_H σ a key))
def sp_putr (σ : vs_S) (a key : Nat) : Int32 := if s_up σ a = false then -2 else if 40 ≤ s_md σ then -3 else if (sp_T σ a key).length < s_wr σ then -4 else nI (s_md σ)
def sp_puts (σ : vs_S) (a key : Nat) (vx : Int32) (kn : Nat → Int32) : vs_S := if s_up σ a = false then σ else if 40 ≤ s_md σ then σ else if (sp_T σ a key).length < s_wr σ then σ else sp_put1 σ a key vx kn
/-- a context that may be given, and what it knows -/
def sp_kn (σ : vs_S) (key : Nat) (x4 : Int32) (kn : Nat → Int32) : Prop := (x4 = -1 ∧ kn = fun _ => 0) ∨ ∃ c, c < 4 ∧ x4 = nI c ∧ sp_may σ c key = true ∧ kn = s_xc σ c
theorem vs_same_41 {M M' : jw_Mem} (h : vs_same M M') : ∀ k, 41 ≤ k → M' k = M k := fun k hk => h.1 k (by omega) (by omega) (by omega) (by omega) (by omega) (by omega) (by omega) (by omega)
theorem c_V_leaveHints2 {l : Launch} {G : jw_G} {A : Nat → Prop} {M : jw_Mem} {Q : Int32 → jw_Mem → Prop} (σ : vs_S) {r T U : List Nat} {a v mo hm : Nat} {p : Nat → Bool} (e0 : s_mo σ = mo) (ep : vs_rch (s_up σ) (s_cu σ) a = p) (eT : vs_tg mo r p = T) (eh : vs_th mo r p = hm) (eU : vs_ul mo r p = U) (hmo : mo ≤ 3) (hC : vs_C σ M) (hL : vs_LU M mo r) (hI : vs_AI M T hm) (hrl : r.length ≤ 5) (hr5 : ∀ x, x ∈ r → x < 5) (ha : a < 5) (hv : v < 40)
    (hQ : ∀ M' : jw_Mem, vs_C (w_hi σ (vs_hn (s_hi σ) v T hm U (T.length - hm))) M' → (∀ k, (∀ a, a < 5 → k ≠ 12 + 3 * a) → M' k = M k) → Q 0 M') : jw_M l (jw_g G) A f_V_leaveHints [jw_a G 0, .int (nI a), .int (nI v)] M Q := by
  subst e0
  subst ep
  subst eT
  subst eh
  subst eU
  exact c_V_leaveHints hmo hC hL hI hrl hr5 ha hv hQ
theorem c_V_put_f {l : Launch} {G : jw_G} {A : Nat → Prop} {M : jw_Mem} {Q : Int32 → jw_Mem → Prop} {x1 x2 x3 x4 : Int32} (h : vs_out x1 5 ∨ vs_out x2 32) (hQ : Q (-1) M) : jw_M l (jw_g G) A f_V_put [jw_a G 0, .int x1, .int x2, .int x3, .int x4] M Q := by
  refine e_V_put (fun X hR => ?_)
  rcases vs_io x1 (n := 5) (by decide) with h1 | ⟨a, ha, rfl⟩
  · exact c_V_isNode_f h1 ⟨fun _ => hR _ _ hQ, fun hc => absurd rfl hc⟩
  · refine c_V_isNode_t ha ⟨fun _ => hR _ _ hQ, fun _ => ?_⟩
    rcases vs_io x2 (n := 32) (by decide) with h2 | ⟨p, hp, rfl⟩
    · exact c_V_isKey_f h2 ⟨fun _ => hR _ _ hQ, fun hc => absurd rfl hc⟩
    · exact absurd h (fun z => z.elim (vs_out_n ha) (vs_out_n hp))
theorem c_V_put_x {l : Launch} {G : jw_G} {A : Nat → Prop} {M : jw_Mem} {Q : Int32 → jw_Mem → Prop} {σ : vs_S} {a key : Nat} {x3 x4 : Int32} (hok : vs_ok σ) (hC : vs_C σ M) (ha : a < 5) (hk : key < 32) (h : (vs_out x4 4 ∧ ¬ x4 = -1) ∨ ∃ c, c < 4 ∧ x4 = nI c ∧ sp_may σ c key = false) (hQ : Q (-1) M) : jw_M l (jw_g G) A f_V_put [jw_a G 0, .int (nI a), .int (nI key), .int x3, .int x4] M Q := by
  refine e_V_put (fun X hR => c_V_isNode_t ha ⟨fun hc => absurd hc (by decide), fun _ => c_V_isKey_t hk ⟨fun hc => absurd hc (by decide), fun _ => ?_⟩⟩)
  rcases h with ⟨h1, h2⟩ | ⟨c, hc, rfl, hm⟩
  · exact c_V_mayKnow_f h1 h2 ⟨fun hc => absurd rfl hc, fun _ => hR _ _ hQ⟩
  · refine c_V_mayKnow hok hC hc hk ?_
    rw [hm]
    exact ⟨fun hc => absurd rfl hc, fun _ => hR _ _ hQ⟩
theorem c_V_put {l : Launch} {G : jw_G} {A : Nat → Prop} {M : jw_Mem} {Q : Int32 → jw_Mem → Prop} {σ : vs_S} {a key : Nat} {vx x4 : Int32} {kn : Nat → Int32} (hok : vs_ok σ) (hC : vs_C σ M) (ha : a < 5) (hk : key < 32) (hx : sp_kn σ key x4 kn) (hQ : ∀ M' : jw_Mem, vs_C (sp_puts σ a key vx kn) M' → (∀ k, 41 ≤ k → M' k = M k) → Q (sp_putr σ a key) M') : jw_M l (jw_g G) A f_V_put [jw_a G 0, .int (nI a), .int (nI key), .int vx, .int x4] M Q := by
  have hmd40 := hok.2.2.1
  have how := hok.2.2.2.1
  have hup := hC.2.2.1 a ha
  have h4 := hC.2.2.2.2.1
  have may : ∀ Q' : Int32 → jw_Mem → Prop, Q' 1 M → jw_M l (jw_g G) A f_V_mayKnow [jw_a G 0, .int x4, .int (nI key)] M Q' := by
    intro Q' h
    rcases hx with ⟨rfl, _⟩ | ⟨c, hc, rfl, hm, _⟩
    · exact c_V_mayKnow_n h
    · exact c_V_mayKnow hok hC hc hk (by rw [hm]; exact h)
  refine e_V_put (fun X hR => c_V_isNode_t ha ⟨fun hc => absurd hc (by decide), fun _ => c_V_isKey_t hk ⟨fun hc => absurd hc (by decide), fun _ => may _ ⟨fun _ => ⟨a, ⟨ha, rfl⟩, fun hu => ⟨fun hmd => ?_, fun hmd => hR _ _ ?_⟩, fun hu => hR _ _ ?_⟩, fun hc => absurd hc (by decide)⟩⟩⟩)
  · rw [hup, bI_n0] at hu
    rw [h4] at hmd
    have hmd2 : s_md σ < 40 := (nI_ltI (b := 40) (by omega) (by omega)).mp hmd
    have n1 : ¬ s_up σ a = false := by rw [hu]; decide
    have n2 : ¬ 40 ≤ s_md σ := by omega
    refine c_V_aim hok hC ha hk (fun M4 hs hL hI => ?_)
    have hI' : vs_AI M4 (sp_T σ a key) (sp_H σ a key) := hI
    have hC4 := vs_same_C hs hC
    have hrl := vs_row_len how 16 (key := key)
    have hr5 := vs_row_lt how 16 (key := key)
    have hTl : (sp_T σ a key).length ≤ s_mo σ := vs_tg_mo _ _ _
    have hmo := hok.2.1
    have hT5 : ∀ k, k < (sp_T σ a key).length → (sp_T σ a key).getD k 0 < 5 := fun k hk => hr5 _ (vs_tg_in hk)
    have rest : s_wr σ ≤ (sp_T σ a key).length → ∀ M5 : jw_Mem, vs_C (sp_add σ a (nI key) vx kn) M5 → (∀ k, k ≠ 4 → k ≠ 5 → k ≠ 6 → k ≠ 7 → k ≠ 8 → M5 k = M4 k) → jw_M l (jw_g G) A f_V_sendToHomes [jw_a G 0, .int (nI (s_md σ))] M5 (fun _ M6 => jw_M l (jw_g G) A f_V_leaveHints [jw_a G 0, .int (nI a), .int (nI (s_md σ))] M6 (fun _ M7 => jw_R l X (jw_g G) A f_V_put (nI (s_md σ)) M7)) := by
      intro hw M5 hC5 ho5
      have e0 : M5 0 = M4 0 := ho5 0 (by decide) (by decide) (by decide) (by decide) (by decide)
      have e1 : M5 1 = M4 1 := ho5 1 (by decide) (by decide) (by decide) (by decide) (by decide)
      have e3 : M5 3 = M4 3 := ho5 3 (by decide) (by decide) (by decide) (by decide) (by decide)
      have e36 : M5 36 = M4 36 := ho5 36 (by decide) (by decide) (by decide) (by decide) (by decide)
      have hI5 : vs_AI M5 (sp_T σ a key) (sp_H σ a key) := by unfold vs_AI; rw [e0, e36]; exact hI'
      have hL5 : vs_LU M5 (s_mo σ) (vs_row (s_ow σ) key 16) := by unfold vs_LU; rw [e1, e3]; exact hL
      refine c_V_sendToHomes (σ := sp_add σ a (nI key) vx kn) (T := sp_T σ a key) (hm := sp_H σ a key) (by rw [add_md]; omega) hC5 hI5 (by omega) (vs_th_le _ _ _) hT5 (by omega) (fun M6 hC6 ho6 => ?_)
      have hI6 : vs_AI M6 (sp_T σ a key) (sp_H σ a key) := by unfold vs_AI; rw [ho6 0 (fun z hz => by omega), ho6 36 (fun z hz => by omega)]; exact hI5
      have hL6 : vs_LU M6 (s_mo σ) (vs_row (s_ow σ) key 16) := by unfold vs_LU; rw [ho6 1 (fun z hz => by omega), ho6 3 (fun z hz => by omega)]; exact hL5
      refine c_V_leaveHints2 (sp_put0 σ a key vx kn) (r := vs_row (s_ow σ) key 16) (T := sp_T σ a key) (hm := sp_H σ a key) (U := sp_U σ a key) (mo := s_mo σ) (p := vs_rch (s_up σ) (s_cu σ) a) put0_mo (by rw [put0_up, put0_cu]) rfl rfl rfl hmo hC6 hL6 hI6 hrl hr5 ha (by omega) (fun M7 hC7 ho7 => hR _ _ ?_)
      have e1 : sp_puts σ a key vx kn = sp_put1 σ a key vx kn := by
        unfold sp_puts
        rw [if_neg n1, if_neg n2, if_neg (show ¬ (sp_T σ a key).length < s_wr σ by omega)]
      have e2 : sp_putr σ a key = nI (s_md σ) := by
        unfold sp_putr
        rw [if_neg n1, if_neg n2, if_neg (show ¬ (sp_T σ a key).length < s_wr σ by omega)]
      rw [e1, e2] at hQ
      refine hQ M7 hC7 (fun k hk => ?_)
      rw [ho7 k (fun z hz => by omega), ho6 k (fun z hz => by omega), ho5 k (by omega) (by omega) (by omega) (by omega) (by omega)]
      exact vs_same_41 hs k hk
    have hwr := hok.1.2.2
    refine ⟨fun hw => ?_, fun hw => hR _ _ ?_⟩
    · rw [hC4.1.2.2, hI'.1, nI_leI (by omega) (by omega)] at hw
      rcases hx with ⟨rfl, rfl⟩ | ⟨c, hc, rfl, hm, rfl⟩
      · exact ⟨fun hc => absurd rfl hc, fun _ => c_G_adds hC4 hmd2 ha (fun M5 hC5 ho5 => rest hw M5 hC5 ho5)⟩
      · exact ⟨fun _ => ⟨c, ⟨hc, rfl⟩, c_G_add hC4 hmd2 ha (jw_kK hc) (fun k hk => hC4.2.2.2.2.2.2.2.2.2.1 c k hc hk) (fun M5 hC5 ho5 => rest hw M5 hC5 ho5)⟩, fun h => absurd h (nI_m1 (by omega))⟩
    · rw [hC4.1.2.2, hI'.1, nI_leI (by omega) (by omega)] at hw
      have e1 : sp_puts σ a key vx kn = σ := by
        unfold sp_puts
        rw [if_neg n1, if_neg n2, if_pos (show (sp_T σ a key).length < s_wr σ by omega)]
      have e2 : sp_putr σ a key = -4 := by
        unfold sp_putr
        rw [if_neg n1, if_neg n2, if_pos (show (sp_T σ a key).length < s_wr σ by omega)]
      rw [e1, e2] at hQ
      exact hQ M4 hC4 (vs_same_41 hs)
  · rw [hup, bI_n0] at hu
    rw [h4] at hmd
    have hmd2 : 40 ≤ s_md σ := Nat.not_lt.mp (fun z => hmd (nI_lt (b := 40) z (by omega)))
    have n1 : ¬ s_up σ a = false := by rw [hu]; decide
    have e1 : sp_puts σ a key vx kn = σ := by
      unfold sp_puts
      rw [if_neg n1, if_pos hmd2]
    have e2 : sp_putr σ a key = -3 := by
      unfold sp_putr
      rw [if_neg n1, if_pos hmd2]
    rw [e1, e2] at hQ
    exact hQ M hC (fun _ _ => rfl)
  · rw [hup, bI_0] at hu
    have e1 : sp_puts σ a key vx kn = σ := by
      unfold sp_puts
      rw [if_pos hu]
    have e2 : sp_putr σ a key = -2 := by
      unfold sp_putr
      rw [if_pos hu]
    rw [e1, e2] at hQ
    exact hQ M hC (fun _ _ => rfl)
