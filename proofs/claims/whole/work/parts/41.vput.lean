/-! The class: put -/
theorem jw_UAne {M : jw_Mem} {k q : Nat} {μ : Nat → Int32} (h : q ≠ k) : jw_UA M k μ q = M q := by simp [jw_UA, h]
theorem jw_UAat {M : jw_Mem} {k : Nat} {μ : Nat → Int32} : jw_UA M k μ k = μ := by simp [jw_UA]
theorem c_V_mayKnow_n {l : Launch} {G : jw_G} {A : Nat → Prop} {M : jw_Mem} {Q : Int32 → jw_Mem → Prop} {x2 : Int32} (hQ : Q 1 M) : jw_M l (jw_g G) A f_V_mayKnow [jw_a G 0, .int (-1), .int x2] M Q := e_V_mayKnow (fun X hR => ⟨fun hc => absurd rfl hc, fun _ => hR _ _ hQ (Or.inr rfl)⟩)
theorem c_V_mayKnow_f {l : Launch} {G : jw_G} {A : Nat → Prop} {M : jw_Mem} {Q : Int32 → jw_Mem → Prop} {x1 x2 : Int32} (h : vs_out x1 4) (h1 : ¬ x1 = -1) (hQ : Q 0 M) : jw_M l (jw_g G) A f_V_mayKnow [jw_a G 0, .int x1, .int x2] M Q := e_V_mayKnow (fun X hR => ⟨fun _ => c_V_isContext_f h ⟨fun _ => hR _ _ hQ (Or.inl rfl), fun hc => absurd rfl hc⟩, fun hc => absurd hc h1⟩)
/-- a context may be given with a key: it is empty, or of this key -/
def sp_may (σ : vs_S) (c key : Nat) : Bool := match s_xk σ c with
  | none => true
  | some k => k == key
theorem c_V_mayKnow {l : Launch} {G : jw_G} {A : Nat → Prop} {M : jw_Mem} {Q : Int32 → jw_Mem → Prop} {σ : vs_S} {c key : Nat} (hok : vs_ok σ) (hC : vs_C σ M) (hc : c < 4) (hk : key < 32) (hQ : Q (bI (sp_may σ c key)) M) : jw_M l (jw_g G) A f_V_mayKnow [jw_a G 0, .int (nI c), .int (nI key)] M Q := by
  have hx := hC.2.2.2.2.2.2.2.2.1 c hc
  refine e_V_mayKnow (fun X hR => ⟨fun _ => c_V_isContext_t hc ⟨fun hc => absurd hc (by decide), fun _ => ⟨c, ⟨hc, rfl⟩, c_C_isEmpty hc ?_⟩⟩, fun h => absurd h (nI_m1 (by omega))⟩)
  rw [hx]
  unfold sp_may at hQ
  cases hz : s_xk σ c with
  | none =>
    rw [hz] at hQ
    exact ⟨fun _ => hR _ _ hQ (Or.inr rfl), fun hc => absurd hc (by decide)⟩
  | some k =>
    rw [hz] at hQ
    have hQ : Q (bI (k == key)) M := hQ
    have hk2 := hok.2.2.2.2.2.1 c k hz
    rw [show (oI (some k) == -1) = false by have := nI_m1 (a := k) (by omega); simp [oI, this]]
    refine ⟨fun hc => absurd rfl hc, fun _ => ⟨c, ⟨hc, rfl⟩, fun h => ?_, fun h => ?_⟩⟩
    · rw [hx, hz] at h
      have h2 : ¬ nI k = nI key := h
      rw [nI_ne (by omega) (by omega)] at h2
      rw [show (k == key) = false by simpa using h2] at hQ
      exact hR _ _ hQ (Or.inl rfl)
    · rw [hx, hz] at h
      have h2 : nI k = nI key := h
      rw [nI_ne (by omega) (by omega)] at h2
      rw [show (k == key) = true by simpa using h2] at hQ
      exact hR _ _ hQ (Or.inr rfl)
/-- what the log holds behind a new version -/
def sp_add (σ : vs_S) (a : Nat) (kx vx : Int32) (kn : Nat → Int32) : vs_S := w_md (w_ky (w_vl (w_au (w_cl σ (fun i => if 5 * s_md σ ≤ i ∧ i < 5 * s_md σ + 5 then (if i = 5 * s_md σ + a then 1 + nI (vs_cnt (fun u => s_au σ u == nI a && s_ky σ u == kx) (s_md σ)) else kn (i - 5 * s_md σ)) else s_cl σ i)) (va_up (s_au σ) (s_md σ) (nI a))) (va_up (s_vl σ) (s_md σ) vx)) (va_up (s_ky σ) (s_md σ) kx)) (s_md σ + 1)
theorem add_mo {σ : vs_S} {a : Nat} {kx vx : Int32} {kn : Nat → Int32} : s_mo (sp_add σ a kx vx kn) = s_mo σ := by
  unfold sp_add
  rw [sw_mo_md, sw_mo_ky, sw_mo_vl, sw_mo_au, sw_mo_cl]
theorem add_rd {σ : vs_S} {a : Nat} {kx vx : Int32} {kn : Nat → Int32} : s_rd (sp_add σ a kx vx kn) = s_rd σ := by
  unfold sp_add
  rw [sw_rd_md, sw_rd_ky, sw_rd_vl, sw_rd_au, sw_rd_cl]
theorem add_wr {σ : vs_S} {a : Nat} {kx vx : Int32} {kn : Nat → Int32} : s_wr (sp_add σ a kx vx kn) = s_wr σ := by
  unfold sp_add
  rw [sw_wr_md, sw_wr_ky, sw_wr_vl, sw_wr_au, sw_wr_cl]
theorem add_ow {σ : vs_S} {a : Nat} {kx vx : Int32} {kn : Nat → Int32} : s_ow (sp_add σ a kx vx kn) = s_ow σ := by
  unfold sp_add
  rw [sw_ow_md, sw_ow_ky, sw_ow_vl, sw_ow_au, sw_ow_cl]
theorem add_up {σ : vs_S} {a : Nat} {kx vx : Int32} {kn : Nat → Int32} : s_up (sp_add σ a kx vx kn) = s_up σ := by
  unfold sp_add
  rw [sw_up_md, sw_up_ky, sw_up_vl, sw_up_au, sw_up_cl]
theorem add_cu {σ : vs_S} {a : Nat} {kx vx : Int32} {kn : Nat → Int32} : s_cu (sp_add σ a kx vx kn) = s_cu σ := by
  unfold sp_add
  rw [sw_cu_md, sw_cu_ky, sw_cu_vl, sw_cu_au, sw_cu_cl]
theorem add_hs {σ : vs_S} {a : Nat} {kx vx : Int32} {kn : Nat → Int32} : s_hs (sp_add σ a kx vx kn) = s_hs σ := by
  unfold sp_add
  rw [sw_hs_md, sw_hs_ky, sw_hs_vl, sw_hs_au, sw_hs_cl]
theorem add_hi {σ : vs_S} {a : Nat} {kx vx : Int32} {kn : Nat → Int32} : s_hi (sp_add σ a kx vx kn) = s_hi σ := by
  unfold sp_add
  rw [sw_hi_md, sw_hi_ky, sw_hi_vl, sw_hi_au, sw_hi_cl]
theorem add_xk {σ : vs_S} {a : Nat} {kx vx : Int32} {kn : Nat → Int32} : s_xk (sp_add σ a kx vx kn) = s_xk σ := by
  unfold sp_add
  rw [sw_xk_md, sw_xk_ky, sw_xk_vl, sw_xk_au, sw_xk_cl]
theorem add_xc {σ : vs_S} {a : Nat} {kx vx : Int32} {kn : Nat → Int32} : s_xc (sp_add σ a kx vx kn) = s_xc σ := by
  unfold sp_add
  rw [sw_xc_md, sw_xc_ky, sw_xc_vl, sw_xc_au, sw_xc_cl]
theorem add_fd {σ : vs_S} {a : Nat} {kx vx : Int32} {kn : Nat → Int32} : s_fd (sp_add σ a kx vx kn) = s_fd σ := by
  unfold sp_add
  rw [sw_fd_md, sw_fd_ky, sw_fd_vl, sw_fd_au, sw_fd_cl]
theorem add_rp {σ : vs_S} {a : Nat} {kx vx : Int32} {kn : Nat → Int32} : s_rp (sp_add σ a kx vx kn) = s_rp σ := by
  unfold sp_add
  rw [sw_rp_md, sw_rp_ky, sw_rp_vl, sw_rp_au, sw_rp_cl]
theorem add_md {σ : vs_S} {a : Nat} {kx vx : Int32} {kn : Nat → Int32} : s_md (sp_add σ a kx vx kn) = s_md σ + 1 := by
  unfold sp_add
  rw [sw_md_md]
theorem add_ky {σ : vs_S} {a : Nat} {kx vx : Int32} {kn : Nat → Int32} : s_ky (sp_add σ a kx vx kn) = va_up (s_ky σ) (s_md σ) kx := by
  unfold sp_add
  rw [sw_ky_md, sw_ky_ky]
theorem add_vl {σ : vs_S} {a : Nat} {kx vx : Int32} {kn : Nat → Int32} : s_vl (sp_add σ a kx vx kn) = va_up (s_vl σ) (s_md σ) vx := by
  unfold sp_add
  rw [sw_vl_md, sw_vl_ky, sw_vl_vl]
theorem add_au {σ : vs_S} {a : Nat} {kx vx : Int32} {kn : Nat → Int32} : s_au (sp_add σ a kx vx kn) = va_up (s_au σ) (s_md σ) (nI a) := by
  unfold sp_add
  rw [sw_au_md, sw_au_ky, sw_au_vl, sw_au_au]
theorem add_cl {σ : vs_S} {a : Nat} {kx vx : Int32} {kn : Nat → Int32} : s_cl (sp_add σ a kx vx kn) = (fun i => if 5 * s_md σ ≤ i ∧ i < 5 * s_md σ + 5 then (if i = 5 * s_md σ + a then 1 + nI (vs_cnt (fun u => s_au σ u == nI a && s_ky σ u == kx) (s_md σ)) else kn (i - 5 * s_md σ)) else s_cl σ i) := by
  unfold sp_add
  rw [sw_cl_md, sw_cl_ky, sw_cl_vl, sw_cl_au, sw_cl_cl]
theorem vs_C_add {σ : vs_S} {M M' : jw_Mem} {a : Nat} {kx vx : Int32} {kn : Nat → Int32} (hC : vs_C σ M) (ho : ∀ k, k ≠ 4 → k ≠ 5 → k ≠ 6 → k ≠ 7 → k ≠ 8 → M' k = M k) (h4 : M' 4 4 = nI (s_md σ + 1)) (h5 : ∀ u, u < 40 → M' 5 u = if u = s_md σ then kx else M 5 u) (h6 : ∀ u, u < 40 → M' 6 u = if u = s_md σ then vx else M 6 u) (h7 : ∀ u, u < 40 → M' 7 u = if u = s_md σ then nI a else M 7 u)
    (h8 : ∀ i, i < 200 → M' 8 i = if i = 5 * s_md σ + a then 1 + nI (vs_cnt (fun u => s_au σ u == nI a && s_ky σ u == kx) (s_md σ)) else if 5 * s_md σ ≤ i ∧ i < 5 * s_md σ + 5 then kn (i - 5 * s_md σ) else M 8 i) (ha : a < 5) : vs_C (sp_add σ a kx vx kn) M' := by
  unfold vs_C
  rw [add_mo, add_rd, add_wr, add_ow, add_up, add_cu, add_md, add_ky, add_vl, add_au, add_cl, add_hs, add_hi, add_xk, add_xc, add_fd, add_rp]
  obtain ⟨⟨a1, a2, a3⟩, xow, xup, xcu, xmd, ⟨f1, f2, f3, f4⟩, xhs, xhi, xxk, xxc, xfd, xrp⟩ := hC
  have q : ∀ k, k ≠ 4 ∧ k ≠ 5 ∧ k ≠ 6 ∧ k ≠ 7 ∧ k ≠ 8 → M' k = M k := fun k h => ho k h.1 h.2.1 h.2.2.1 h.2.2.2.1 h.2.2.2.2
  refine ⟨⟨by rw [q 1 (by omega)]; exact a1, by rw [q 0 (by omega)]; exact a2, by rw [q 0 (by omega)]; exact a3⟩, fun p hp => by rw [q 2 (by omega)]; exact xow p hp, fun a ha => by rw [q (10 + 3 * a) (by omega)]; exact xup a ha, fun a b ha hb => by rw [q 34 (by omega)]; exact xcu a b ha hb, h4, ⟨fun u hu => ?_, fun u hu => ?_, fun u hu => ?_, fun i hi => ?_⟩, fun a u ha hu => by rw [q (11 + 3 * a) (by omega)]; exact xhs a u ha hu, fun a u ha hu => by rw [q (12 + 3 * a) (by omega)]; exact xhi a u ha hu, fun c hc => by rw [q (26 + 2 * c) (by omega)]; exact xxk c hc, fun c z hc hz => by rw [q (27 + 2 * c) (by omega)]; exact xxc c z hc hz, fun u hu => by rw [q 35 (by omega)]; exact xfd u hu, by rw [q 0 (by omega)]; exact xrp⟩
  · rw [h5 u hu]
    unfold va_up
    rw [f1 u hu]
  · rw [h6 u hu]
    unfold va_up
    rw [f2 u hu]
  · rw [h7 u hu]
    unfold va_up
    rw [f3 u hu]
  · rw [h8 i hi]
    show _ = (if 5 * s_md σ ≤ i ∧ i < 5 * s_md σ + 5 then (if i = 5 * s_md σ + a then 1 + nI (vs_cnt (fun u => s_au σ u == nI a && s_ky σ u == kx) (s_md σ)) else kn (i - 5 * s_md σ)) else s_cl σ i)
    by_cases e : i = 5 * s_md σ + a
    · rw [if_pos e, if_pos (by omega), if_pos e]
    · rw [if_neg e]
      by_cases e2 : 5 * s_md σ ≤ i ∧ i < 5 * s_md σ + 5
      · rw [if_pos e2, if_pos e2, if_neg e]
      · rw [if_neg e2, if_neg e2, f4 i hi]
theorem vs_add_M {M M1 : jw_Mem} {kn : Nat → Int32} {md a : Nat} {kx vx c : Int32} (hmd : md < 40) (ha : a < 5) (h1 : M1 = jw_UA M 8 (va_cpy kn (M 8) 0 (5 * md) 5)) (h4 : M 4 4 = nI md) {M' : jw_Mem} (hM : M' = jw_U (jw_U (jw_U (jw_U (jw_U M1 8 (5 * md + a) c) 5 md kx) 6 md vx) 7 md (nI a)) 4 4 (((jw_U (jw_U (jw_U (jw_U M1 8 (5 * md + a) c) 5 md kx) 6 md vx) 7 md (nI a)) 4 4) + 1)) :
    (∀ k, k ≠ 4 → k ≠ 5 → k ≠ 6 → k ≠ 7 → k ≠ 8 → M' k = M k) ∧ M' 4 4 = nI (md + 1) ∧ (∀ u, M' 5 u = if u = md then kx else M 5 u) ∧ (∀ u, M' 6 u = if u = md then vx else M 6 u) ∧ (∀ u, M' 7 u = if u = md then nI a else M 7 u) ∧ (∀ i, M' 8 i = if i = 5 * md + a then c else if 5 * md ≤ i ∧ i < 5 * md + 5 then kn (i - 5 * md) else M 8 i) := by
  subst h1
  subst hM
  refine ⟨fun k k4 k5 k6 k7 k8 => ?_, ?_, fun u => ?_, fun u => ?_, fun u => ?_, fun i => ?_⟩
  · rw [jw_Une k4, jw_Une k7, jw_Une k6, jw_Une k5, jw_Une k8, jw_UAne k8]
  · rw [jw_Uat, if_pos rfl, jw_Une (by decide), jw_Une (by decide), jw_Une (by decide), jw_Une (by decide), jw_UAne (by decide), h4, nI_1]
  · rw [jw_Une (by decide), jw_Une (by decide), jw_Une (by decide), jw_Uat, jw_Une (by decide), jw_UAne (by decide)]
  · rw [jw_Une (by decide), jw_Une (by decide), jw_Uat, jw_Une (by decide), jw_Une (by decide), jw_UAne (by decide)]
  · rw [jw_Une (by decide), jw_Uat, jw_Une (by decide), jw_Une (by decide), jw_Une (by decide), jw_UAne (by decide)]
  · rw [jw_Une (by decide), jw_Une (by decide), jw_Une (by decide), jw_Une (by decide), jw_Uat, jw_UAat]
    unfold va_cpy
    rw [Nat.zero_add]
theorem nI_x5 (md : Nat) : nI md * 5 = nI (5 * md) := by rw [show (5 : Int32) = nI 5 from rfl, pk_mul, Nat.mul_comm]
theorem c_G_add {l : Launch} {G : jw_G} {A : Nat → Prop} {M : jw_Mem} {Q : Int32 → jw_Mem → Prop} {σ : vs_S} {a q : Nat} {kx vx : Int32} {kn : Nat → Int32} (hC : vs_C σ M) (hmd : s_md σ < 40) (ha : a < 5) (hq : jw_KT[q]? = some (1, 5, [])) (hkn : ∀ k, k < 5 → M q k = kn k) (hQ : ∀ M' : jw_Mem, vs_C (sp_add σ a kx vx kn) M' → (∀ k, k ≠ 4 → k ≠ 5 → k ≠ 6 → k ≠ 7 → k ≠ 8 → M' k = M k) → Q (nI (s_md σ)) M') : jw_M l (jw_g G) A f_G_add [jw_a G 4, .int kx, .int vx, .int (nI a), jw_a G q] M Q := by
  have h4 := hC.2.2.2.2.1
  have q8 : ∀ i, (jw_UA M 8 (va_cpy (M q) (M 8) 0 (5 * s_md σ) 5)) i = if i = 8 then va_cpy (M q) (M 8) 0 (5 * s_md σ) 5 else M i := fun i => rfl
  refine e_G_add hq (fun X hR => ⟨5 * s_md σ, ⟨by omega, by rw [h4]; exact nI_x5 _⟩, c_G_numberWritten (md := s_md σ) (by rw [jw_UAne (by decide)]; exact h4) (by omega) ⟨5 * s_md σ + a, ⟨by omega, by rw [h4]; exact nI_lin _ _⟩, s_md σ, ⟨hmd, h4⟩, s_md σ, ⟨hmd, h4⟩, s_md σ, ⟨hmd, h4⟩, ?_⟩⟩)
  obtain ⟨g0, g4, g5, g6, g7, g8⟩ := vs_add_M (vx := vx) (kx := kx) (c := 1 + nI (vs_cnt (fun u => jw_UA M 8 (va_cpy (M q) (M 8) 0 (5 * s_md σ) 5) 7 u == nI a && jw_UA M 8 (va_cpy (M q) (M 8) 0 (5 * s_md σ) 5) 5 u == kx) (s_md σ))) hmd ha rfl h4 rfl
  rw [h4]
  have ec : vs_cnt (fun u => jw_UA M 8 (va_cpy (M q) (M 8) 0 (5 * s_md σ) 5) 7 u == nI a && jw_UA M 8 (va_cpy (M q) (M 8) 0 (5 * s_md σ) 5) 5 u == kx) (s_md σ) = vs_cnt (fun u => s_au σ u == nI a && s_ky σ u == kx) (s_md σ) := vs_cnt_c (fun u hu => by rw [jw_UAne (by decide), jw_UAne (by decide), hC.2.2.2.2.2.1.2.2.1 u (by omega), hC.2.2.2.2.2.1.1 u (by omega)])
  refine hR _ _ (hQ _ (vs_C_add hC g0 g4 (fun u _ => g5 u) (fun u _ => g6 u) (fun u _ => g7 u) (fun i _ => ?_) ha) g0)
  rw [g8 i, ec]
  by_cases e : i = 5 * s_md σ + a
  · rw [if_pos e, if_pos e]
  · rw [if_neg e, if_neg e]
    by_cases e2 : 5 * s_md σ ≤ i ∧ i < 5 * s_md σ + 5
    · rw [if_pos e2, if_pos e2, hkn _ (by omega)]
    · rw [if_neg e2, if_neg e2]
theorem c_G_adds {l : Launch} {G : jw_G} {A : Nat → Prop} {M : jw_Mem} {Q : Int32 → jw_Mem → Prop} {σ : vs_S} {a : Nat} {kx vx : Int32} (hC : vs_C σ M) (hmd : s_md σ < 40) (ha : a < 5) (hQ : ∀ M' : jw_Mem, vs_C (sp_add σ a kx vx (fun _ => 0)) M' → (∀ k, k ≠ 4 → k ≠ 5 → k ≠ 6 → k ≠ 7 → k ≠ 8 → M' k = M k) → Q (nI (s_md σ)) M') : jw_M l (jw_g G) A f_G_add [jw_a G 4, .int kx, .int vx, .int (nI a), .ref G.2.2.2] M Q := by
  have h4 := hC.2.2.2.2.1
  refine e_G_adds (fun X hR => ⟨5 * s_md σ, ⟨by omega, by rw [h4]; exact nI_x5 _⟩, c_G_numberWritten (md := s_md σ) (by rw [jw_UAne (by decide)]; exact h4) (by omega) ⟨5 * s_md σ + a, ⟨by omega, by rw [h4]; exact nI_lin _ _⟩, s_md σ, ⟨hmd, h4⟩, s_md σ, ⟨hmd, h4⟩, s_md σ, ⟨hmd, h4⟩, ?_⟩⟩)
  obtain ⟨g0, g4, g5, g6, g7, g8⟩ := vs_add_M (vx := vx) (kx := kx) (c := 1 + nI (vs_cnt (fun u => jw_UA M 8 (va_cpy (fun _ => 0) (M 8) 0 (5 * s_md σ) 5) 7 u == nI a && jw_UA M 8 (va_cpy (fun _ => 0) (M 8) 0 (5 * s_md σ) 5) 5 u == kx) (s_md σ))) hmd ha rfl h4 rfl
  rw [h4]
  have ec : vs_cnt (fun u => jw_UA M 8 (va_cpy (fun _ => 0) (M 8) 0 (5 * s_md σ) 5) 7 u == nI a && jw_UA M 8 (va_cpy (fun _ => 0) (M 8) 0 (5 * s_md σ) 5) 5 u == kx) (s_md σ) = vs_cnt (fun u => s_au σ u == nI a && s_ky σ u == kx) (s_md σ) := vs_cnt_c (fun u hu => by rw [jw_UAne (by decide), jw_UAne (by decide), hC.2.2.2.2.2.1.2.2.1 u (by omega), hC.2.2.2.2.2.1.1 u (by omega)])
  refine hR _ _ (hQ _ (vs_C_add hC g0 g4 (fun u _ => g5 u) (fun u _ => g6 u) (fun u _ => g7 u) (fun i _ => ?_) ha) g0)
  rw [g8 i, ec]
theorem vs_blw_c {cl cl' : Nat → Int32} (h : ∀ i, i < 200 → cl i = cl' i) {u v : Nat} (hu : u < 40) (hv : v < 40) : blw cl u v = blw cl' u v := vs_all_c (fun n hn => by rw [h _ (by omega), h _ (by omega)])
theorem vs_pas_c {h : Nat → Bool} {ky ky' cl cl' : Nat → Int32} (hk : ∀ u, u < 40 → ky u = ky' u) (hc : ∀ i, i < 200 → cl i = cl' i) {md v : Nat} (hmd : md ≤ 40) (hv : v < 40) : vs_pas h ky cl md v = vs_pas h ky' cl' md v := vs_any_c (fun u hu => by unfold vs_bes; rw [hk u (by omega), hk v hv, vs_blw_c hc hv (show u < 40 by omega)])
theorem vs_tk_c {h : Nat → Bool} {ky ky' cl cl' : Nat → Int32} (hk : ∀ u, u < 40 → ky u = ky' u) (hc : ∀ i, i < 200 → cl i = cl' i) {md v u : Nat} (hmd : md ≤ 40) (hv : v < 40) (hu : u < 40) : vs_tk h ky cl md v u = vs_tk h ky' cl' md v u := by
  unfold vs_tk vs_cut
  rw [vs_pas_c hk hc hmd hv, hk u hu, hk v hv, vs_blw_c hc hu hv]
theorem c_V_sendToHomes {l : Launch} {G : jw_G} {A : Nat → Prop} {M : jw_Mem} {Q : Int32 → jw_Mem → Prop} {σ : vs_S} {T : List Nat} {hm v : Nat} (hok : s_md σ ≤ 40) (hC : vs_C σ M) (hI : vs_AI M T hm) (hT : T.length ≤ 5) (hh : hm ≤ T.length) (hT5 : ∀ k, k < T.length → T.getD k 0 < 5) (hv : v < 40)
    (hQ : ∀ M' : jw_Mem, vs_C (w_hs σ (vs_sn (s_hs σ) (fun h => vs_tk h (s_ky σ) (s_cl σ) (s_md σ) v) T hm)) M' → (∀ k, (∀ a, a < 5 → k ≠ 11 + 3 * a) → M' k = M k) → Q 0 M') : jw_M l (jw_g G) A f_V_sendToHomes [jw_a G 0, .int (nI v)] M Q := by
  refine e_V_sendToHomes (fun X hR => ?_)
  have key : ∀ i, i ≤ hm → ∀ M' : jw_Mem, (∀ k, (∀ a, a < 5 → k ≠ 11 + 3 * a) → M' k = M k) → (∀ a u, a < 5 → u < 40 → M' (11 + 3 * a) u = bI (vs_sn (s_hs σ) (fun h => vs_tk h (s_ky σ) (s_cl σ) (s_md σ) v) T i a u)) → jw_X l X (jw_g G) A f_V_sendToHomes 2 [some (jw_a G 0), some (.int (nI v)), some (.int (nI i))] [] M' := by
    refine vs_up ?_ ?_
    · intro M' ho hr
      refine k_V_sendToHomes_2 ⟨fun _ => hR _ (hQ M' (vs_C_hs hC ho hr) ho), fun hc => absurd ?_ hc⟩
      rw [ho 0 (fun z hz => by omega), hI.2.1]
      exact nI_le (Nat.le_refl _) (by omega)
    · intro i hi ih M' ho hr
      have ht := hT5 i (by omega)
      refine k_V_sendToHomes_2 ⟨fun hc => absurd hc ?_, fun _ => ⟨i, ⟨by omega, rfl⟩, T.getD i 0, ⟨ht, ?_⟩, ?_⟩⟩
      · rw [ho 0 (fun z hz => by omega), hI.2.1]
        exact nI_ge hi (by omega)
      · rw [ho 36 (fun z hz => by omega)]
        exact hI.2.2 i (by omega)
      · refine c_N_take (h := vs_sn (s_hs σ) (fun h => vs_tk h (s_ky σ) (s_cl σ) (s_md σ) v) T i (T.getD i 0)) (md := s_md σ) ht hv (by rw [ho 4 (fun z hz => by omega)]; exact hC.2.2.2.2.1) hok (fun u hu => hr _ u ht hu) (fun M2 ho2 hr2 => ?_)
        rw [nI_1]
        refine ih M2 (fun k hk => (ho2 k (hk _ ht)).trans (ho k hk)) (fun a u ha hu => ?_)
        show _ = bI (va_up (α := Nat → Bool) _ (T.getD i 0) _ a u)
        unfold va_up
        by_cases e : a = T.getD i 0
        · rw [if_pos e, e, hr2 u hu]
          congr 1
          exact vs_tk_c (fun u hu => by rw [ho 5 (fun z hz => by omega)]; exact hC.2.2.2.2.2.1.1 u hu) (fun i hi => by rw [ho 8 (fun z hz => by omega)]; exact hC.2.2.2.2.2.1.2.2.2 i hi) hok hv hu
        · rw [if_neg e, ho2 _ (by omega)]
          exact hr a u ha hu
  exact key 0 (Nat.zero_le _) M (fun _ _ => rfl) hC.2.2.2.2.2.2.1
theorem c_V_leaveHints {l : Launch} {G : jw_G} {A : Nat → Prop} {M : jw_Mem} {Q : Int32 → jw_Mem → Prop} {σ : vs_S} {r : List Nat} {a v : Nat} (hmo : s_mo σ ≤ 3) (hC : vs_C σ M) (hL : vs_LU M (s_mo σ) r) (hI : vs_AI M (vs_tg (s_mo σ) r (vs_rch (s_up σ) (s_cu σ) a)) (vs_th (s_mo σ) r (vs_rch (s_up σ) (s_cu σ) a))) (hrl : r.length ≤ 5) (hr5 : ∀ x, x ∈ r → x < 5) (ha : a < 5) (hv : v < 40)
    (hQ : ∀ M' : jw_Mem, vs_C (w_hi σ (vs_hn (s_hi σ) v (vs_tg (s_mo σ) r (vs_rch (s_up σ) (s_cu σ) a)) (vs_th (s_mo σ) r (vs_rch (s_up σ) (s_cu σ) a)) (vs_ul (s_mo σ) r (vs_rch (s_up σ) (s_cu σ) a)) ((vs_tg (s_mo σ) r (vs_rch (s_up σ) (s_cu σ) a)).length - vs_th (s_mo σ) r (vs_rch (s_up σ) (s_cu σ) a)))) M' → (∀ k, (∀ a, a < 5 → k ≠ 12 + 3 * a) → M' k = M k) → Q 0 M') : jw_M l (jw_g G) A f_V_leaveHints [jw_a G 0, .int (nI a), .int (nI v)] M Q := by
  refine e_V_leaveHints (fun X hR => ?_)
  generalize hp : vs_rch (s_up σ) (s_cu σ) a = p at hQ hI
  generalize hT : vs_tg (s_mo σ) r p = T at hQ hI
  generalize hh : vs_th (s_mo σ) r p = hm at hQ hI
  generalize hU : vs_ul (s_mo σ) r p = U at hQ
  have hTm : T.length ≤ s_mo σ := by rw [← hT]; exact vs_tg_mo _ _ _
  have hhT : hm ≤ T.length := by rw [← hT, ← hh]; exact vs_th_le _ _ _
  have hST : T.length ≤ hm + U.length := by rw [← hT, ← hh, ← hU]; exact vs_str_le _ _ _
  have hT5 : ∀ k, k < T.length → T.getD k 0 < 5 := fun k hk => by
    rw [← hT] at hk ⊢
    exact hr5 _ (vs_tg_in hk)
  have key : ∀ i, i ≤ min (s_mo σ) r.length → ∀ kk, kk = min ((r.take i).filter (fun x => !p x)).length (T.length - hm) → ∀ M' : jw_Mem, (∀ k, (∀ a, a < 5 → k ≠ 12 + 3 * a) → M' k = M k) → (∀ a u, a < 5 → u < 40 → M' (12 + 3 * a) u = oI (vs_hn (s_hi σ) v T hm U kk a u)) → jw_X l X (jw_g G) A f_V_leaveHints 8 [some (jw_a G 0), some (.int (nI a)), some (.int (nI v)), some (.int (nI (hm + kk))), some (.int (nI i)), none] [] M' := by
    refine vs_up ?_ ?_
    · intro kk hkk M' ho hr
      have e : kk = T.length - hm := by
        rw [vs_un_all, hU] at hkk
        omega
      rw [e] at hr
      refine k_V_leaveHints_8 ⟨fun _ => hR _ (hQ M' (vs_C_hi hC ho hr) ho), fun hc => absurd ?_ hc⟩
      rw [ho 1 (fun z hz => by omega), hL.2.2.1]
      exact nI_le (Nat.le_refl _) (by omega)
    · intro i hi ih kk hkk M' ho hr
      have hx5 : r.getD i 0 < 5 := hr5 _ (vs_getD_mem (by omega))
      have hun := vs_un_s (p := p) (show i < r.length by omega)
      have skip : min ((r.take (i + 1)).filter (fun x => !p x)).length (T.length - hm) = kk → jw_X l X (jw_g G) A f_V_leaveHints 8 [some (jw_a G 0), some (.int (nI a)), some (.int (nI v)), some (.int (nI (hm + kk))), some (.int (nI i + 1)), none] [] M' := by
        intro e
        rw [nI_1]
        exact ih kk e.symm M' ho hr
      refine k_V_leaveHints_8 ⟨fun hc => absurd hc ?_, fun _ => ⟨i, ⟨by omega, rfl⟩, fun h1 => skip ?_, fun h1 => ?_⟩⟩
      · rw [ho 1 (fun z hz => by omega), hL.2.2.1]
        exact nI_ge hi (by omega)
      · rw [ho 0 (fun z hz => by omega), hI.1, nI_leI (by omega) (by omega)] at h1
        rw [hun]
        omega
      · rw [ho 0 (fun z hz => by omega), hI.1, nI_leI (by omega) (by omega)] at h1
        rw [ho 3 (fun z hz => by omega), hL.2.2.2 i (by omega)]
        refine c_V_reaches (up := s_up σ) (cu := s_cu σ) ha hx5 (fun a ha => by rw [ho (10 + 3 * a) (fun z hz => by omega)]; exact hC.2.2.1 a ha) (fun a b ha hb => by rw [ho 34 (fun z hz => by omega)]; exact hC.2.2.2.1 a b ha hb) ?_
        rw [hp]
        refine ⟨fun h2 => skip ?_, fun h2 => ⟨hm + kk, ⟨by omega, rfl⟩, T.getD (hm + kk) 0, ⟨hT5 _ (by omega), ?_⟩, v, ⟨hv, rfl⟩, ?_⟩⟩
        · rw [bI_n0] at h2
          rw [hun, if_pos h2]
          exact hkk.symm
        · rw [ho 36 (fun z hz => by omega)]
          exact hI.2.2 _ (by omega)
        · rw [bI_0] at h2
          have e1 : kk = ((r.take i).filter (fun x => !p x)).length := by omega
          have e2 : U.getD kk 0 = r.getD i 0 := by
            rw [← hU, e1]
            exact vs_ul_at (by omega) (by omega) h2
          rw [nI_1, nI_1]
          refine ih (kk + 1) ?_ _ (fun k hk => (jw_Une (hk _ (hT5 _ (by omega)))).trans (ho k hk)) (fun b u hb hu => ?_)
          · rw [hun, h2]
            simp
            omega
          · show _ = oI (if b = T.getD (hm + kk) 0 ∧ u = v then some (U.getD kk 0) else vs_hn (s_hi σ) v T hm U kk b u)
            by_cases e : b = T.getD (hm + kk) 0
            · subst e
              rw [jw_Uat]
              by_cases e3 : u = v
              · rw [if_pos e3, if_pos ⟨rfl, e3⟩, e2]
                rfl
              · rw [if_neg e3, if_neg (fun z => e3 z.2)]
                exact hr _ u hb hu
            · rw [jw_Une (by omega), if_neg (fun z => e z.1)]
              exact hr b u hb hu
  rw [hI.2.1]
  have h0 : jw_X l X (jw_g G) A f_V_leaveHints 8 [some (jw_a G 0), some (.int (nI a)), some (.int (nI v)), some (.int (nI (hm + 0))), some (.int (nI 0)), none] [] M := key 0 (Nat.zero_le _) 0 (by simp) M (fun _ _ => rfl) hC.2.2.2.2.2.2.2.1
  exact h0
