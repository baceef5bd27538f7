/-! The questions: home, targets, versions, version, holds, count, hints, context, repaired, found; both sides -/
theorem vs_same_lu {M M' : jw_Mem} {mo : Nat} {r : List Nat} (ho : ∀ k, k ≠ 1 → k ≠ 3 → M' k = M k) (hL : vs_LU M' mo r) (h0 : M 1 0 = nI mo) : vs_same M M' := ⟨fun k _ k1 k3 _ _ _ _ _ => ho k k1 k3, by rw [ho 0 (by decide) (by decide)], by rw [ho 0 (by decide) (by decide)], by rw [ho 0 (by decide) (by decide)], hL.1.trans h0.symm⟩
def sp_home (σ : vs_S) (key k : Nat) : Int32 := if k < min (s_mo σ) (vs_row (s_ow σ) key 16).length then nI ((vs_row (s_ow σ) key 16).getD k 0) else -1
theorem c_V_home_f {l : Launch} {G : jw_G} {A : Nat → Prop} {M : jw_Mem} {Q : Int32 → jw_Mem → Prop} {x1 x2 : Int32} (h : vs_out x1 32 ∨ x2 < 0) (hQ : Q (-1) M) : jw_M l (jw_g G) A f_V_home [jw_a G 0, .int x1, .int x2] M Q := by
  refine e_V_home (fun X hR => ?_)
  rcases vs_io x1 (n := 32) (by decide) with h1 | ⟨a, ha, rfl⟩
  · exact c_V_isKey_f h1 ⟨fun _ => hR _ _ hQ, fun hc => absurd rfl hc⟩
  · refine c_V_isKey_t ha ⟨fun _ => hR _ _ hQ, fun _ => ⟨fun hc => ?_, fun _ => hR _ _ hQ⟩⟩
    rcases h with h | h
    · exact absurd h (vs_out_n ha)
    · exact absurd hc (Int32.not_le.mpr h)
theorem c_V_home {l : Launch} {G : jw_G} {A : Nat → Prop} {M : jw_Mem} {Q : Int32 → jw_Mem → Prop} {σ : vs_S} {key k : Nat} (hok : vs_ok σ) (hC : vs_C σ M) (hk : key < 32) (hk2 : k < 2147483648) (hQ : ∀ M' : jw_Mem, vs_same M M' → Q (sp_home σ key k) M') : jw_M l (jw_g G) A f_V_home [jw_a G 0, .int (nI key), .int (nI k)] M Q := by
  refine e_V_home (fun X hR => c_V_isKey_t hk ⟨fun hc => absurd hc (by decide), fun _ => ⟨fun _ => c_R_lookUp (ow := s_ow σ) (mo := s_mo σ) hk hok.2.1 hC.1.1 hC.2.1 hok.2.2.2.1 (fun M2 ho hL => ?_), fun hc => absurd (nI_pos' (by omega)) hc⟩⟩)
  have hrl := vs_row_len hok.2.2.2.1 16 (key := key)
  have hs := vs_same_lu ho hL hC.1.1
  refine ⟨fun hc => hR _ _ ?_, fun hc => ⟨k, ⟨?_, rfl⟩, hR _ _ ?_⟩⟩
  · rw [hL.2.2.1, nI_leI (by omega) (by omega)] at hc
    have := hQ M2 hs
    unfold sp_home at this
    rw [if_neg (by omega)] at this
    exact this
  · rw [hL.2.2.1, nI_leI (by omega) (by omega)] at hc
    omega
  · rw [hL.2.2.1, nI_leI (by omega) (by omega)] at hc
    have := hQ M2 hs
    unfold sp_home at this
    rw [if_pos (by omega)] at this
    rw [hL.2.2.2 k (by omega)]
    exact this
theorem c_M_homes {l : Launch} {G : jw_G} {A : Nat → Prop} {M : jw_Mem} {Q : Int32 → jw_Mem → Prop} {mo : Nat} {r : List Nat} (h0 : M 41 0 = nI mo) (hmo : mo ≤ 3) (hL : vs_LM M r) (hl : r.length ≤ 5) (hQ : Q (nI (min mo r.length)) M) : jw_M l (jw_g G) A f_M_homes [jw_a G 41] M Q := by
  refine e_M_homes (fun X hR => ⟨fun h => hR _ _ ?_, fun h => hR _ _ ?_⟩)
  · rw [h0, hL.1, nI_leI (by omega) (by omega)] at h
    rw [h0]
    rw [Nat.min_eq_left h] at hQ
    exact hQ
  · rw [h0, hL.1, nI_leI (by omega) (by omega)] at h
    rw [hL.1]
    rw [Nat.min_eq_right (by omega)] at hQ
    exact hQ
theorem c_M_home_f {l : Launch} {G : jw_G} {A : Nat → Prop} {M : jw_Mem} {Q : Int32 → jw_Mem → Prop} {x1 x2 : Int32} (h : vs_out x1 32 ∨ x2 < 0) (hQ : Q (-1) M) : jw_M l (jw_g G) A f_M_home [jw_a G 41, .int x1, .int x2] M Q := by
  refine e_M_home (fun X hR => ?_)
  rcases vs_io x1 (n := 32) (by decide) with h1 | ⟨a, ha, rfl⟩
  · exact c_M_isKey_f h1 ⟨fun _ => hR _ _ hQ, fun hc => absurd rfl hc⟩
  · refine c_M_isKey_t ha ⟨fun _ => hR _ _ hQ, fun _ => ⟨fun hc => ?_, fun _ => hR _ _ hQ⟩⟩
    rcases h with h | h
    · exact absurd h (vs_out_n ha)
    · exact absurd hc (Int32.not_le.mpr h)
theorem c_M_home {l : Launch} {G : jw_G} {A : Nat → Prop} {M : jw_Mem} {Q : Int32 → jw_Mem → Prop} {σ : vs_S} {key k : Nat} (hok : vs_ok σ) (hC : vs_M σ M) (hk : key < 32) (hk2 : k < 2147483648) (hQ : ∀ M' : jw_Mem, vs_sm M M' → Q (sp_home σ key k) M') : jw_M l (jw_g G) A f_M_home [jw_a G 41, .int (nI key), .int (nI k)] M Q := by
  refine e_M_home (fun X hR => c_M_isKey_t hk ⟨fun hc => absurd hc (by decide), fun _ => ⟨fun _ => c_M_list (ow := s_ow σ) hk hC.2.1 hok.2.2.2.1 (fun M2 ho h41 hL => ?_), fun hc => absurd (nI_pos' (by omega)) hc⟩⟩)
  have hrl := vs_row_len hok.2.2.2.1 16 (key := key)
  have hs : vs_sm M M2 := ⟨fun k k41 _ k56 _ => ho k k41 k56, fun j j21 _ => h41 j j21⟩
  refine c_M_homes (mo := s_mo σ) (by rw [h41 0 (by decide)]; exact hC.1.1) hok.2.1 hL hrl ⟨fun hc => hR _ _ ?_, fun hc => ⟨k, ⟨?_, rfl⟩, hR _ _ ?_⟩⟩
  · rw [nI_leI (by omega) (by omega)] at hc
    have := hQ M2 hs
    unfold sp_home at this
    rw [if_neg (by omega)] at this
    exact this
  · rw [nI_leI (by omega) (by omega)] at hc
    omega
  · rw [nI_leI (by omega) (by omega)] at hc
    have := hQ M2 hs
    unfold sp_home at this
    rw [if_pos (by omega)] at this
    rw [hL.2 k (by omega)]
    exact this
def sp_targets (σ : vs_S) (a key : Nat) : Int32 := nI (vs_tg (s_mo σ) (vs_row (s_ow σ) key 16) (vs_rch (s_up σ) (s_cu σ) a)).length
theorem c_V_targets_f {l : Launch} {G : jw_G} {A : Nat → Prop} {M : jw_Mem} {Q : Int32 → jw_Mem → Prop} {x1 x2 : Int32} (h : vs_out x1 5 ∨ vs_out x2 32) (hQ : Q 0 M) : jw_M l (jw_g G) A f_V_targets [jw_a G 0, .int x1, .int x2] M Q := by
  refine e_V_targets (fun X hR => ?_)
  rcases vs_io x1 (n := 5) (by decide) with h1 | ⟨a, ha, rfl⟩
  · exact c_V_isNode_f h1 ⟨fun _ => hR _ _ hQ, fun hc => absurd rfl hc⟩
  · refine c_V_isNode_t ha ⟨fun _ => hR _ _ hQ, fun _ => ?_⟩
    rcases vs_io x2 (n := 32) (by decide) with h2 | ⟨p, hp, rfl⟩
    · exact c_V_isKey_f h2 ⟨fun hc => absurd rfl hc, fun _ => hR _ _ hQ⟩
    · exact absurd h (fun z => z.elim (vs_out_n ha) (vs_out_n hp))
theorem c_V_targets {l : Launch} {G : jw_G} {A : Nat → Prop} {M : jw_Mem} {Q : Int32 → jw_Mem → Prop} {σ : vs_S} {a key : Nat} (hok : vs_ok σ) (hC : vs_C σ M) (ha : a < 5) (hk : key < 32) (hQ : ∀ M' : jw_Mem, vs_same M M' → Q (sp_targets σ a key) M') : jw_M l (jw_g G) A f_V_targets [jw_a G 0, .int (nI a), .int (nI key)] M Q :=
  e_V_targets (fun X hR => c_V_isNode_t ha ⟨fun hc => absurd hc (by decide), fun _ => c_V_isKey_t hk ⟨fun _ => c_V_aim hok hC ha hk (fun M' hs _ hI => hR _ _ (by rw [hI.1]; exact hQ M' hs)), fun hc => absurd hc (by decide)⟩⟩)
theorem c_M_targets_f {l : Launch} {G : jw_G} {A : Nat → Prop} {M : jw_Mem} {Q : Int32 → jw_Mem → Prop} {x1 x2 : Int32} (h : vs_out x1 5 ∨ vs_out x2 32) (hQ : Q 0 M) : jw_M l (jw_g G) A f_M_targets [jw_a G 41, .int x1, .int x2] M Q := by
  refine e_M_targets (fun X hR => ?_)
  rcases vs_io x1 (n := 5) (by decide) with h1 | ⟨a, ha, rfl⟩
  · exact c_M_isNode_f h1 ⟨fun _ => hR _ _ hQ, fun hc => absurd rfl hc⟩
  · refine c_M_isNode_t ha ⟨fun _ => hR _ _ hQ, fun _ => ?_⟩
    rcases vs_io x2 (n := 32) (by decide) with h2 | ⟨p, hp, rfl⟩
    · exact c_M_isKey_f h2 ⟨fun hc => absurd rfl hc, fun _ => hR _ _ hQ⟩
    · exact absurd h (fun z => z.elim (vs_out_n ha) (vs_out_n hp))
theorem c_M_targets {l : Launch} {G : jw_G} {A : Nat → Prop} {M : jw_Mem} {Q : Int32 → jw_Mem → Prop} {σ : vs_S} {a key : Nat} (hok : vs_ok σ) (hC : vs_M σ M) (ha : a < 5) (hk : key < 32) (hQ : ∀ M' : jw_Mem, vs_sm M M' → Q (sp_targets σ a key) M') : jw_M l (jw_g G) A f_M_targets [jw_a G 41, .int (nI a), .int (nI key)] M Q :=
  e_M_targets (fun X hR => c_M_isNode_t ha ⟨fun hc => absurd hc (by decide), fun _ => c_M_isKey_t hk ⟨fun _ => c_M_aim hok hC ha hk (fun M' hs _ hI => hR _ _ (by rw [hI.1]; exact hQ M' hs)), fun hc => absurd hc (by decide)⟩⟩)
theorem c_V_versions {l : Launch} {G : jw_G} {A : Nat → Prop} {M : jw_Mem} {Q : Int32 → jw_Mem → Prop} {σ : vs_S} (hC : vs_C σ M) (hQ : Q (nI (s_md σ)) M) : jw_M l (jw_g G) A f_V_versions [jw_a G 0] M Q := e_V_versions (fun X hR => hR _ _ (by rw [hC.2.2.2.2.1]; exact hQ))
theorem c_M_versions {l : Launch} {G : jw_G} {A : Nat → Prop} {M : jw_Mem} {Q : Int32 → jw_Mem → Prop} {σ : vs_S} (hC : vs_M σ M) (hQ : Q (nI (s_md σ)) M) : jw_M l (jw_g G) A f_M_versions [jw_a G 41] M Q := e_M_versions (fun X hR => hR _ _ (by rw [hC.2.2.2.2.1]; exact hQ))
theorem c_V_repaired {l : Launch} {G : jw_G} {A : Nat → Prop} {M : jw_Mem} {Q : Int32 → jw_Mem → Prop} {σ : vs_S} (hC : vs_C σ M) (hQ : Q (nI (s_rp σ)) M) : jw_M l (jw_g G) A f_V_repaired [jw_a G 0] M Q := e_V_repaired (fun X hR => hR _ _ (by rw [hC.2.2.2.2.2.2.2.2.2.2.2]; exact hQ))
theorem c_M_repaired {l : Launch} {G : jw_G} {A : Nat → Prop} {M : jw_Mem} {Q : Int32 → jw_Mem → Prop} {σ : vs_S} (hC : vs_M σ M) (hQ : Q (nI (s_rp σ)) M) : jw_M l (jw_g G) A f_M_repaired [jw_a G 41] M Q := e_M_repaired (fun X hR => hR _ _ (by rw [hC.2.2.2.2.2.2.2.2.2.2.2.2]; exact hQ))
theorem c_G_isMade_t {l : Launch} {G : jw_G} {A : Nat → Prop} {M : jw_Mem} {Q : Int32 → jw_Mem → Prop} {v md : Nat} (hm : M 4 4 = nI md) (hv : v < md) (hmd : md ≤ 40) (hQ : Q 1 M) : jw_M l (jw_g G) A f_G_isMade [jw_a G 4, .int (nI v)] M Q :=
  c_G_isMade hm (by rw [decide_eq_true ⟨nI_pos' (by omega), nI_lt hv (by omega)⟩]; exact hQ)
theorem c_G_isMade_f {l : Launch} {G : jw_G} {A : Nat → Prop} {M : jw_Mem} {Q : Int32 → jw_Mem → Prop} {x : Int32} {md : Nat} (hm : M 4 4 = nI md) (hx : vs_out x md) (hQ : Q 0 M) : jw_M l (jw_g G) A f_G_isMade [jw_a G 4, .int x] M Q :=
  c_G_isMade hm (by rw [decide_eq_false (fun z => hx.elim (fun y => absurd z.1 (Int32.not_le.mpr y)) (fun y => absurd z.2 (Int32.not_lt.mpr y)))]; exact hQ)
def sp_ver (σ : vs_S) (v : Nat) (x : Int32) : Int32 := if x = 5 then s_ky σ v else if x = 6 then s_vl σ v else if x < 0 ∨ 5 ≤ x then 0 else s_cl σ (5 * v + x.toNatClampNeg)
theorem c_V_version_f {l : Launch} {G : jw_G} {A : Nat → Prop} {M : jw_Mem} {Q : Int32 → jw_Mem → Prop} {σ : vs_S} {x1 x2 : Int32} (hC : vs_C σ M) (h : vs_out x1 (s_md σ)) (hQ : Q 0 M) : jw_M l (jw_g G) A f_V_version [jw_a G 0, .int x1, .int x2] M Q :=
  e_V_version (fun X hR => c_G_isMade_f hC.2.2.2.2.1 h ⟨fun hc => absurd rfl hc, fun _ => hR _ _ hQ⟩)
theorem c_V_version {l : Launch} {G : jw_G} {A : Nat → Prop} {M : jw_Mem} {Q : Int32 → jw_Mem → Prop} {σ : vs_S} {v : Nat} {x2 : Int32} (hok : vs_ok σ) (hC : vs_C σ M) (hv : v < s_md σ) (hQ : Q (sp_ver σ v x2) M) : jw_M l (jw_g G) A f_V_version [jw_a G 0, .int (nI v), .int x2] M Q := by
  have hmd := hok.2.2.1
  have hlog := hC.2.2.2.2.2.1
  unfold sp_ver at hQ
  refine e_V_version (fun X hR => c_G_isMade_t hC.2.2.2.2.1 hv hmd ⟨fun _ => ⟨fun h5 => ⟨fun h6 => ?_, fun h6 => ⟨v, ⟨by omega, rfl⟩, hR _ _ ?_⟩⟩, fun h5 => ⟨v, ⟨by omega, rfl⟩, hR _ _ ?_⟩⟩, fun hc => absurd hc (by decide)⟩)
  · rw [if_neg h5, if_neg h6] at hQ
    rcases vs_io x2 (n := 5) (by decide) with h1 | ⟨n, hn, rfl⟩
    · have h2 : x2 < 0 ∨ 5 ≤ x2 := h1
      rw [if_pos h2] at hQ
      exact c_V_isNode_f h1 ⟨fun _ => hR _ _ hQ, fun hc => absurd rfl hc⟩
    · have h2 : ¬ (nI n < 0 ∨ 5 ≤ nI n) := vs_out_n hn
      rw [if_neg h2, nI_clamp (by omega), ← hlog.2.2.2 _ (by omega)] at hQ
      exact c_V_isNode_t hn ⟨fun hc => absurd hc (by decide), fun _ => c_G_clockCount (by omega) hn (hR _ _ hQ)⟩
  · rw [if_neg h5, if_pos h6] at hQ
    rw [hlog.2.1 v (by omega)]
    exact hQ
  · rw [if_pos h5] at hQ
    rw [hlog.1 v (by omega)]
    exact hQ
theorem c_M_version_f {l : Launch} {G : jw_G} {A : Nat → Prop} {M : jw_Mem} {Q : Int32 → jw_Mem → Prop} {σ : vs_S} {x1 x2 : Int32} (hC : vs_M σ M) (h : vs_out x1 (s_md σ)) (hQ : Q 0 M) : jw_M l (jw_g G) A f_M_version [jw_a G 41, .int x1, .int x2] M Q :=
  e_M_version (fun X hR => ⟨fun _ => hR _ _ hQ, fun h0 => ⟨fun _ => hR _ _ hQ, fun h1 => by
    rw [hC.2.2.2.2.1] at h1
    exact h.elim (fun z => absurd z h0) (fun z => absurd z h1)⟩⟩)
theorem vs_le6 {x : Int32} (h0 : ¬ x < 0) (h6 : x ≤ 6) (h5 : ¬ x = 5) (h6' : ¬ x = 6) : ∃ n, n < 5 ∧ x = nI n := by
  rcases vs_io x (n := 7) (by decide) with h | ⟨n, hn, rfl⟩
  · rcases h with h | h
    · exact absurd h h0
    · have h1 := Int32.le_iff_toInt_le.mp h
      have h2 := Int32.le_iff_toInt_le.mp h6
      rw [nI_toInt (by decide)] at h1
      have h3 : (6 : Int32).toInt = 6 := by decide
      omega
  · refine ⟨n, ?_, rfl⟩
    have a5 : n ≠ 5 := fun e => h5 (by rw [e]; rfl)
    have a6 : n ≠ 6 := fun e => h6' (by rw [e]; rfl)
    omega
theorem c_M_version {l : Launch} {G : jw_G} {A : Nat → Prop} {M : jw_Mem} {Q : Int32 → jw_Mem → Prop} {σ : vs_S} {v : Nat} {x2 : Int32} (hok : vs_ok σ) (hC : vs_M σ M) (hv : v < s_md σ) (hQ : Q (sp_ver σ v x2) M) : jw_M l (jw_g G) A f_M_version [jw_a G 41, .int (nI v), .int x2] M Q := by
  have hmd := hok.2.2.1
  have hlog := hC.2.2.2.2.2.1
  unfold sp_ver at hQ
  refine e_M_version (fun X hR => ⟨fun hc => absurd hc (nI_pos (by omega)), fun _ => ⟨fun hc => absurd hc ?_, fun _ => ⟨fun h0 => hR _ _ ?_, fun h0 => ⟨fun h6 => ⟨fun h5 => ⟨fun h6' => ?_, fun h6' => ⟨v, ⟨by omega, rfl⟩, hR _ _ ?_⟩⟩, fun h5 => ⟨v, ⟨by omega, rfl⟩, hR _ _ ?_⟩⟩, fun h6 => hR _ _ ?_⟩⟩⟩⟩)
  · rw [hC.2.2.2.2.1]
    exact nI_ge hv (by omega)
  · rw [if_neg (fun e => absurd (e ▸ h0) (by decide)), if_neg (fun e => absurd (e ▸ h0) (by decide)), if_pos (Or.inl h0)] at hQ
    exact hQ
  · obtain ⟨n, hn, rfl⟩ := vs_le6 h0 h6 h5 h6'
    have h2 : ¬ (nI n < 0 ∨ 5 ≤ nI n) := vs_out_n hn
    rw [if_neg h5, if_neg h6', if_neg h2, nI_clamp (by omega), ← hlog.2.2.2 _ (by omega)] at hQ
    exact ⟨5 * v + n, ⟨by omega, nI_lin5 v n⟩, hR _ _ hQ⟩
  · rw [if_neg (fun e => absurd (h6'.symm.trans e) (by decide)), if_pos h6'] at hQ
    rw [hlog.2.1 v (by omega)]
    exact hQ
  · rw [if_pos h5] at hQ
    rw [hlog.1 v (by omega)]
    exact hQ
  · have h7 := Int32.lt_iff_toInt_lt.mp (Int32.not_le.mp h6)
    have h8 : (6 : Int32).toInt = 6 := by decide
    have h9 : (5 : Int32).toInt = 5 := by decide
    rw [if_neg (fun e => absurd (show x2 ≤ 6 by rw [e]; decide) h6), if_neg (fun e => absurd (show x2 ≤ 6 by rw [e]; decide) h6), if_pos (Or.inr (Int32.le_iff_toInt_le.mpr (by omega)))] at hQ
    exact hQ
