/-! Each call on the class and on the reference: the same answer, and both hold the same state -/
theorem vs_M_41 {σ : vs_S} {M M' : jw_Mem} (h : ∀ k, 41 ≤ k → M' k = M k) (hC : vs_M σ M) : vs_M σ M' := by
  obtain ⟨⟨a1, a2, a3⟩, xow, xup, xcu, xmd, ⟨f1, f2, f3, f4⟩, xhs, xhi, xs, xk, xc, ⟨xf, xl⟩, xrp⟩ := hC
  exact ⟨⟨by rw [h 41 (by omega)]; exact a1, by rw [h 41 (by omega)]; exact a2, by rw [h 41 (by omega)]; exact a3⟩, fun p hp => by rw [h 44 (by omega)]; exact xow p hp, fun a ha => by rw [h 42 (by omega)]; exact xup a ha, fun a b ha hb => by rw [h 43 (by omega)]; exact xcu a b ha hb, by rw [h 41 (by omega)]; exact xmd, ⟨fun u hu => by rw [h 45 (by omega)]; exact f1 u hu, fun u hu => by rw [h 46 (by omega)]; exact f2 u hu, fun u hu => by rw [h 47 (by omega)]; exact f3 u hu, fun u hu => by rw [h 48 (by omega)]; exact f4 u hu⟩, fun a u ha hu => by rw [h 49 (by omega)]; exact xhs a u ha hu, fun a u ha hu => by rw [h 50 (by omega)]; exact xhi a u ha hu, fun c hc => by rw [h 53 (by omega)]; exact xs c hc, fun c k hc hk => by rw [h 52 (by omega)]; exact xk c k hc hk, fun c k hc hk hx => by rw [h 54 (by omega)]; exact xc c k hc hk hx, ⟨by rw [h 41 (by omega)]; exact xf, fun u hu hx => by rw [h 55 (by omega)]; exact xl u hu hx⟩, by rw [h 41 (by omega)]; exact xrp⟩
theorem vs_C_41 {σ : vs_S} {M M' : jw_Mem} (h : ∀ k, k < 41 → M' k = M k) (hC : vs_C σ M) : vs_C σ M' := by
  obtain ⟨⟨a1, a2, a3⟩, xow, xup, xcu, xmd, ⟨f1, f2, f3, f4⟩, xhs, xhi, xxk, xxc, xfd, xrp⟩ := hC
  exact ⟨⟨by rw [h 1 (by omega)]; exact a1, by rw [h 0 (by omega)]; exact a2, by rw [h 0 (by omega)]; exact a3⟩, fun p hp => by rw [h 2 (by omega)]; exact xow p hp, fun a ha => by rw [h (10 + 3 * a) (by omega)]; exact xup a ha, fun a b ha hb => by rw [h 34 (by omega)]; exact xcu a b ha hb, by rw [h 4 (by omega)]; exact xmd, ⟨fun u hu => by rw [h 5 (by omega)]; exact f1 u hu, fun u hu => by rw [h 6 (by omega)]; exact f2 u hu, fun u hu => by rw [h 7 (by omega)]; exact f3 u hu, fun u hu => by rw [h 8 (by omega)]; exact f4 u hu⟩, fun a u ha hu => by rw [h (11 + 3 * a) (by omega)]; exact xhs a u ha hu, fun a u ha hu => by rw [h (12 + 3 * a) (by omega)]; exact xhi a u ha hu, fun c hc => by rw [h (26 + 2 * c) (by omega)]; exact xxk c hc, fun c z hc hz => by rw [h (27 + 2 * c) (by omega)]; exact xxc c z hc hz, fun u hu => by rw [h 35 (by omega)]; exact xfd u hu, by rw [h 0 (by omega)]; exact xrp⟩
theorem vs_sm_lo {M M' : jw_Mem} (h : vs_sm M M') : ∀ k, k < 41 → M' k = M k := fun k hk => h.1 k (by omega) (by omega) (by omega) (by omega)
def vs_I (σ : vs_S) (M : jw_Mem) : Prop := vs_ok σ ∧ vs_C σ M ∧ vs_M σ M
theorem vs_ok_ow {σ : vs_S} {f : Nat → Option Nat} (h : vs_ok σ) (hf : ∀ p o, f p = some o → o < 5) : vs_ok (w_ow σ f) := ⟨h.1, h.2.1, h.2.2.1, hf, h.2.2.2.2⟩
theorem vs_ok_up {σ : vs_S} {f : Nat → Bool} (h : vs_ok σ) : vs_ok (w_up σ f) := h
theorem vs_ok_cu {σ : vs_S} {f : Nat → Nat → Bool} (h : vs_ok σ) : vs_ok (w_cu σ f) := h
theorem vs_ok_rp {σ : vs_S} {n : Nat} (h : vs_ok σ) : vs_ok (w_rp σ n) := h
theorem vs_ok_fd {σ : vs_S} {f : Nat → Bool} (h : vs_ok σ) (hf : ∀ u, f u = true → u < s_md σ) : vs_ok (w_fd σ f) := ⟨h.1, h.2.1, h.2.2.1, h.2.2.2.1, h.2.2.2.2.1, h.2.2.2.2.2.1, h.2.2.2.2.2.2.1, hf⟩
theorem vs_ok_x {σ : vs_S} {f : Nat → Option Nat} {g : Nat → Nat → Int32} (h : vs_ok σ) (hf : ∀ c k, f c = some k → k < 32) (hg : ∀ c k, f c = none → g c k = 0) : vs_ok (w_xc (w_xk σ f) g) := ⟨h.1, h.2.1, h.2.2.1, h.2.2.2.1, h.2.2.2.2.1, hf, hg, h.2.2.2.2.2.2.2⟩
theorem vs_ok_add {σ : vs_S} {a : Nat} {kx vx : Int32} {kn : Nat → Int32} (h : vs_ok σ) (hm : s_md σ < 40) : vs_ok (sp_add σ a kx vx kn) := by
  unfold vs_ok
  rw [add_mo, add_rd, add_wr, add_md, add_ow, add_hi, add_xk, add_xc, add_fd]
  exact ⟨h.1, h.2.1, by omega, h.2.2.2.1, h.2.2.2.2.1, h.2.2.2.2.2.1, h.2.2.2.2.2.2.1, fun u hu => Nat.lt_succ_of_lt (h.2.2.2.2.2.2.2 u hu)⟩
theorem vs_hn_lt {hi : Nat → Nat → Option Nat} {v : Nat} {T : List Nat} {hm : Nat} {U : List Nat} (h : ∀ a u o, hi a u = some o → o < 5) (hU : ∀ k, U.getD k 0 < 5) : ∀ k a u o, vs_hn hi v T hm U k a u = some o → o < 5
  | 0, a, u, o, e => h a u o e
  | k + 1, a, u, o, e => by
    unfold vs_hn at e
    by_cases c : a = T.getD (hm + k) 0 ∧ u = v
    · rw [if_pos c] at e
      have e2 : U.getD k 0 = o := Option.some.inj e
      rw [← e2]
      exact hU k
    · rw [if_neg c] at e
      exact vs_hn_lt h hU k a u o e
theorem sp_U_lt {σ : vs_S} {a key : Nat} (h : vs_ok σ) (k : Nat) : (sp_U σ a key).getD k 0 < 5 := by
  by_cases e : k < (sp_U σ a key).length
  · have hm := vs_getD_mem e
    generalize (sp_U σ a key).getD k 0 = x at hm ⊢
    unfold sp_U vs_ul at hm
    exact vs_row_lt h.2.2.2.1 16 (key := key) _ (List.mem_of_mem_take (List.mem_filter.mp hm).1)
  · rw [List.getD_eq_getElem?_getD, List.getElem?_eq_none (by omega)]
    decide
theorem vs_ok_puts {σ : vs_S} {a key : Nat} {vx : Int32} {kn : Nat → Int32} (h : vs_ok σ) : vs_ok (sp_puts σ a key vx kn) := by
  unfold sp_puts
  by_cases e1 : s_up σ a = false
  · rw [if_pos e1]; exact h
  · rw [if_neg e1]
    by_cases e2 : 40 ≤ s_md σ
    · rw [if_pos e2]; exact h
    · rw [if_neg e2]
      by_cases e3 : (sp_T σ a key).length < s_wr σ
      · rw [if_pos e3]; exact h
      · rw [if_neg e3]
        unfold sp_put1
        have h0 : vs_ok (sp_put0 σ a key vx kn) := by
          unfold sp_put0
          exact vs_ok_hs (vs_ok_add h (by omega))
        refine vs_ok_hi h0 (vs_hn_lt (fun b u o e => h0.2.2.2.2.1 b u o e) (sp_U_lt h) _)
theorem vs_ok_gets {σ : vs_S} {a key c : Nat} (h : vs_ok σ) (hk : key < 32) : vs_ok (sp_gets σ a key c) := by
  unfold sp_gets
  by_cases e1 : s_up σ a = false
  · rw [if_pos e1]; exact h
  · rw [if_neg e1]
    by_cases e3 : (sp_T σ a key).length < s_rd σ
    · rw [if_pos e3]; exact h
    · rw [if_neg e3]
      unfold sp_get2
      refine vs_ok_hs (vs_ok_rp ?_)
      unfold sp_get1
      refine vs_ok_x (vs_ok_fd h (fun u hu => sp_fo_lt hu)) (fun d k e => ?_) (fun d k e => ?_)
      · unfold va_up at e
        by_cases c2 : d = c
        · rw [if_pos c2] at e
          have := Option.some.inj e
          omega
        · rw [if_neg c2] at e
          exact h.2.2.2.2.2.1 d k e
      · show va_up (α := Nat → Int32) _ c _ d k = 0
        unfold va_up at e ⊢
        by_cases c2 : d = c
        · rw [if_pos c2] at e
          cases e
        · rw [if_neg c2] at e ⊢
          exact h.2.2.2.2.2.2.1 d k e
theorem vs_ok_token {σ : vs_S} {a p : Nat} (h : vs_ok σ) (ha : a < 5) : vs_ok (sp_token σ a p) := by
  unfold sp_token
  by_cases e : (s_ow σ p).isNone = true
  · rw [if_pos e]
    refine vs_ok_ow h (fun q o e2 => ?_)
    unfold va_up at e2
    by_cases c : q = p
    · rw [if_pos c] at e2
      have := Option.some.inj e2
      omega
    · rw [if_neg c] at e2
      exact h.2.2.2.1 q o e2
  · rw [if_neg e]; exact h
theorem vs_ok_remove {σ : vs_S} {p : Nat} (h : vs_ok σ) : vs_ok (sp_remove σ p) := by
  unfold sp_remove
  by_cases e : (s_ow σ p).isNone = true
  · rw [if_pos e]; exact h
  · rw [if_neg e]
    refine vs_ok_ow h (fun q o e2 => ?_)
    unfold va_up at e2
    by_cases c : q = p
    · rw [if_pos c] at e2
      cases e2
    · rw [if_neg c] at e2
      exact h.2.2.2.1 q o e2
theorem vs_cu_sy {σ : vs_S} {M : jw_Mem} (hC : vs_C σ M) {a b : Nat} (ha : a < 5) (hb : b < 5) : s_cu σ a b = s_cu σ b a := by
  have h1 := hC.2.2.2.1 a b ha hb
  have h2 := hC.2.2.2.1 b a hb ha
  rw [Nat.min_comm, Nat.max_comm, h2] at h1
  exact bI_inj.mp h1.symm
/-- both calls, one behind the other: the same answer, and one state -/
def vs_two (l : Launch) (G : jw_G) (A : Nat → Prop) (f g : jw_F) (As : List Value) (M : jw_Mem) : Prop := jw_M l (jw_g G) A f (jw_a G 0 :: As) M (fun r1 M1 => jw_M l (jw_g G) A g (jw_a G 41 :: As) M1 (fun r2 M2 => r1 = r2 ∧ ∃ σ, vs_I σ M2))
section
variable {l : Launch} {G : jw_G} {A : Nat → Prop} {M : jw_Mem} {σ : vs_S}
theorem vs_fin {σ' : vs_S} {M1 M2 : jw_Mem} (hok : vs_ok σ') (hC : vs_C σ' M1) (hM : vs_M σ' M2) (ho : ∀ k, k < 41 → M2 k = M1 k) : ∃ σ, vs_I σ M2 := ⟨σ', hok, vs_C_41 ho hC, hM⟩
theorem p_token (hI : vs_I σ M) {x1 x2 : Int32} : vs_two l G A f_V_token f_M_token [.int x1, .int x2] M := by
  obtain ⟨hok, hC, hM⟩ := hI
  rcases vs_io x1 (n := 5) (by decide) with h1 | ⟨a, ha, rfl⟩
  · exact c_V_token_f (Or.inl h1) (c_M_token_f (Or.inl h1) ⟨rfl, σ, hok, hC, hM⟩)
  · rcases vs_io x2 (n := 16) (by decide) with h2 | ⟨p, hp, rfl⟩
    · exact c_V_token_f (Or.inr h2) (c_M_token_f (Or.inr h2) ⟨rfl, σ, hok, hC, hM⟩)
    · exact c_V_token hok hC ha hp (fun M1 hC1 ho1 => c_M_token hok (vs_M_41 ho1 hM) ha hp (fun M2 hM2 ho2 => ⟨rfl, vs_fin (vs_ok_token hok ha) hC1 hM2 ho2⟩))
theorem p_remove (hI : vs_I σ M) {x1 : Int32} : vs_two l G A f_V_remove f_M_remove [.int x1] M := by
  obtain ⟨hok, hC, hM⟩ := hI
  rcases vs_io x1 (n := 16) (by decide) with h1 | ⟨p, hp, rfl⟩
  · exact c_V_remove_f h1 (c_M_remove_f h1 ⟨rfl, σ, hok, hC, hM⟩)
  · exact c_V_remove hok hC hp (fun M1 hC1 ho1 => c_M_remove hok (vs_M_41 ho1 hM) hp (fun M2 hM2 ho2 => ⟨rfl, vs_fin (vs_ok_remove hok) hC1 hM2 ho2⟩))
theorem p_power (hI : vs_I σ M) {x1 : Int32} (b : Bool) : vs_two l G A f_V_power f_M_power [.int x1, .int (bI b)] M := by
  obtain ⟨hok, hC, hM⟩ := hI
  rcases vs_io x1 (n := 5) (by decide) with h1 | ⟨a, ha, rfl⟩
  · exact c_V_power_f h1 (c_M_power_f h1 ⟨rfl, σ, hok, hC, hM⟩)
  · exact c_V_power hC ha (fun M1 hC1 ho1 => c_M_power (vs_M_41 ho1 hM) ha (fun M2 hM2 ho2 => ⟨rfl, vs_fin (vs_ok_up hok) hC1 hM2 ho2⟩))
theorem p_cut (hI : vs_I σ M) {x1 x2 : Int32} (v : Bool) : vs_two l G A f_V_cut f_M_cut [.int x1, .int x2, .int (bI v)] M := by
  obtain ⟨hok, hC, hM⟩ := hI
  rcases vs_io x1 (n := 5) (by decide) with h1 | ⟨a, ha, rfl⟩
  · exact c_V_cut_f (Or.inl h1) (c_M_cut_f (Or.inl h1) ⟨rfl, σ, hok, hC, hM⟩)
  · rcases vs_io x2 (n := 5) (by decide) with h2 | ⟨b, hb, rfl⟩
    · exact c_V_cut_f (Or.inr (Or.inl h2)) (c_M_cut_f (Or.inr (Or.inl h2)) ⟨rfl, σ, hok, hC, hM⟩)
    · by_cases e : a = b
      · have e2 : nI a = nI b := by rw [e]
        exact c_V_cut_f (Or.inr (Or.inr e2)) (c_M_cut_f (Or.inr (Or.inr e2)) ⟨rfl, σ, hok, hC, hM⟩)
      · exact c_V_cut hC ha hb e (fun M1 hC1 ho1 => c_M_cut (vs_M_41 ho1 hM) (vs_cu_sy hC ha hb) ha hb e (fun M2 hM2 ho2 => ⟨rfl, vs_fin (vs_ok_cu hok) hC1 hM2 ho2⟩))
theorem p_put (hI : vs_I σ M) {x1 x2 x3 x4 : Int32} : vs_two l G A f_V_put f_M_put [.int x1, .int x2, .int x3, .int x4] M := by
  obtain ⟨hok, hC, hM⟩ := hI
  rcases vs_io x1 (n := 5) (by decide) with h1 | ⟨a, ha, rfl⟩
  · exact c_V_put_f (Or.inl h1) (c_M_put_f (Or.inl h1) ⟨rfl, σ, hok, hC, hM⟩)
  · rcases vs_io x2 (n := 32) (by decide) with h2 | ⟨key, hk, rfl⟩
    · exact c_V_put_f (Or.inr h2) (c_M_put_f (Or.inr h2) ⟨rfl, σ, hok, hC, hM⟩)
    · have go : ∀ kn, sp_kn σ key x4 kn → vs_two l G A f_V_put f_M_put [.int (nI a), .int (nI key), .int x3, .int x4] M := fun kn hx => c_V_put hok hC ha hk hx (fun M1 hC1 ho1 => c_M_put hok (vs_M_41 ho1 hM) ha hk hx (fun M2 hM2 ho2 => ⟨rfl, vs_fin (vs_ok_puts hok) hC1 hM2 ho2⟩))
      have stop : ((vs_out x4 4 ∧ ¬ x4 = -1) ∨ ∃ c, c < 4 ∧ x4 = nI c ∧ sp_may σ c key = false) → vs_two l G A f_V_put f_M_put [.int (nI a), .int (nI key), .int x3, .int x4] M := fun h => c_V_put_x hok hC ha hk h (c_M_put_x hok hM ha hk h ⟨rfl, σ, hok, hC, hM⟩)
      by_cases e : x4 = -1
      · exact go (fun _ => 0) (Or.inl ⟨e, rfl⟩)
      · rcases vs_io x4 (n := 4) (by decide) with h4 | ⟨c, hc, e4⟩
        · exact stop (Or.inl ⟨h4, e⟩)
        · cases hm : sp_may σ c key with
          | false => exact stop (Or.inr ⟨c, hc, e4, hm⟩)
          | true => exact go (s_xc σ c) (Or.inr ⟨c, hc, e4, hm, rfl⟩)
theorem p_get (hI : vs_I σ M) {x1 x2 x3 : Int32} : vs_two l G A f_V_get f_M_get [.int x1, .int x2, .int x3] M := by
  obtain ⟨hok, hC, hM⟩ := hI
  rcases vs_io x1 (n := 5) (by decide) with h1 | ⟨a, ha, rfl⟩
  · exact c_V_get_f (Or.inl h1) (c_M_get_f (Or.inl h1) ⟨rfl, σ, hok, hC, hM⟩)
  · rcases vs_io x2 (n := 32) (by decide) with h2 | ⟨key, hk, rfl⟩
    · exact c_V_get_f (Or.inr (Or.inl h2)) (c_M_get_f (Or.inr (Or.inl h2)) ⟨rfl, σ, hok, hC, hM⟩)
    · rcases vs_io x3 (n := 4) (by decide) with h3 | ⟨c, hc, rfl⟩
      · exact c_V_get_f (Or.inr (Or.inr h3)) (c_M_get_f (Or.inr (Or.inr h3)) ⟨rfl, σ, hok, hC, hM⟩)
      · exact c_V_get hok hC ha hk hc (c_K_fill hc) (fun M1 hC1 ho1 => c_M_get hok (vs_M_41 ho1 hM) ha hk hc (fun M2 hM2 ho2 => ⟨rfl, vs_fin (vs_ok_gets hok hk) hC1 hM2 ho2⟩))
theorem p_found (hI : vs_I σ M) {x1 : Int32} : vs_two l G A f_V_found f_M_found [.int x1] M := by
  obtain ⟨hok, hC, hM⟩ := hI
  exact c_V_found hok hC (c_M_found hM ⟨rfl, σ, hok, hC, hM⟩)
theorem p_repaired (hI : vs_I σ M) : vs_two l G A f_V_repaired f_M_repaired [] M := by
  obtain ⟨hok, hC, hM⟩ := hI
  exact c_V_repaired hC (c_M_repaired hM ⟨rfl, σ, hok, hC, hM⟩)
theorem p_versions (hI : vs_I σ M) : vs_two l G A f_V_versions f_M_versions [] M := by
  obtain ⟨hok, hC, hM⟩ := hI
  exact c_V_versions hC (c_M_versions hM ⟨rfl, σ, hok, hC, hM⟩)
theorem p_handOver (hI : vs_I σ M) {x1 : Int32} : vs_two l G A f_V_handOver f_M_handOver [.int x1] M := by
  obtain ⟨hok, hC, hM⟩ := hI
  rcases vs_io x1 (n := 5) (by decide) with h1 | ⟨a, ha, rfl⟩
  · exact c_V_handOver_f h1 (c_M_handOver_f h1 ⟨rfl, σ, hok, hC, hM⟩)
  · exact c_V_handOver hok hC ha (fun M1 hC1 ho1 => c_M_handOver hok (vs_M_41 ho1 hM) ha (fun M2 hM2 ho2 => ⟨rfl, vs_fin (vs_ok_ho hok) hC1 hM2 ho2⟩))
theorem p_compare (hI : vs_I σ M) {x1 x2 : Int32} : vs_two l G A f_V_compare f_M_compare [.int x1, .int x2] M := by
  obtain ⟨hok, hC, hM⟩ := hI
  rcases vs_io x1 (n := 5) (by decide) with h1 | ⟨a, ha, rfl⟩
  · exact c_V_compare_f (Or.inl h1) (c_M_compare_f (Or.inl h1) ⟨rfl, σ, hok, hC, hM⟩)
  · rcases vs_io x2 (n := 5) (by decide) with h2 | ⟨b, hb, rfl⟩
    · exact c_V_compare_f (Or.inr (Or.inl h2)) (c_M_compare_f (Or.inr (Or.inl h2)) ⟨rfl, σ, hok, hC, hM⟩)
    · by_cases e : a = b
      · have e2 : nI a = nI b := by rw [e]
        exact c_V_compare_f (Or.inr (Or.inr e2)) (c_M_compare_f (Or.inr (Or.inr e2)) ⟨rfl, σ, hok, hC, hM⟩)
      · exact c_V_compare hok hC ha hb e (fun M1 hC1 ho1 => c_M_compare hok (vs_M_41 ho1 hM) ha hb e (fun M2 hM2 ho2 => ⟨rfl, vs_fin (vs_ok_cos hok) hC1 hM2 ho2⟩))
theorem vs_nn (x : Int32) : x < 0 ∨ ∃ k : Nat, k < 2147483648 ∧ x = nI k := by
  by_cases h : x < 0
  · exact Or.inl h
  · obtain ⟨j, hj, rfl⟩ := nI_of h
    exact Or.inr ⟨j, by omega, rfl⟩
theorem p_home (hI : vs_I σ M) {x1 x2 : Int32} : vs_two l G A f_V_home f_M_home [.int x1, .int x2] M := by
  obtain ⟨hok, hC, hM⟩ := hI
  rcases vs_io x1 (n := 32) (by decide) with h1 | ⟨key, hk, rfl⟩
  · exact c_V_home_f (Or.inl h1) (c_M_home_f (Or.inl h1) ⟨rfl, σ, hok, hC, hM⟩)
  · rcases vs_nn x2 with h2 | ⟨k, hk2, rfl⟩
    · exact c_V_home_f (Or.inr h2) (c_M_home_f (Or.inr h2) ⟨rfl, σ, hok, hC, hM⟩)
    · exact c_V_home hok hC hk hk2 (fun M1 hs1 => c_M_home hok (vs_M_41 (vs_same_41 hs1) hM) hk hk2 (fun M2 hs2 => ⟨rfl, vs_fin hok (vs_same_C hs1 hC) (vs_sm_M hs2 (vs_M_41 (vs_same_41 hs1) hM)) (vs_sm_lo hs2)⟩))
theorem p_targets (hI : vs_I σ M) {x1 x2 : Int32} : vs_two l G A f_V_targets f_M_targets [.int x1, .int x2] M := by
  obtain ⟨hok, hC, hM⟩ := hI
  rcases vs_io x1 (n := 5) (by decide) with h1 | ⟨a, ha, rfl⟩
  · exact c_V_targets_f (Or.inl h1) (c_M_targets_f (Or.inl h1) ⟨rfl, σ, hok, hC, hM⟩)
  · rcases vs_io x2 (n := 32) (by decide) with h2 | ⟨key, hk, rfl⟩
    · exact c_V_targets_f (Or.inr h2) (c_M_targets_f (Or.inr h2) ⟨rfl, σ, hok, hC, hM⟩)
    · exact c_V_targets hok hC ha hk (fun M1 hs1 => c_M_targets hok (vs_M_41 (vs_same_41 hs1) hM) ha hk (fun M2 hs2 => ⟨rfl, vs_fin hok (vs_same_C hs1 hC) (vs_sm_M hs2 (vs_M_41 (vs_same_41 hs1) hM)) (vs_sm_lo hs2)⟩))
theorem p_holds (hI : vs_I σ M) {x1 x2 : Int32} : vs_two l G A f_V_holds f_M_holds [.int x1, .int x2] M := by
  obtain ⟨hok, hC, hM⟩ := hI
  have hmd := hok.2.2.1
  rcases vs_io x1 (n := 5) (by decide) with h1 | ⟨a, ha, rfl⟩
  · exact c_V_holds_f hC (Or.inl h1) hok (c_M_holds_f hM (Or.inl h1) ⟨rfl, σ, hok, hC, hM⟩)
  · rcases vs_io x2 (n := s_md σ) (by omega) with h2 | ⟨v, hv, rfl⟩
    · exact c_V_holds_f hC (Or.inr h2) hok (c_M_holds_f hM (Or.inr h2) ⟨rfl, σ, hok, hC, hM⟩)
    · exact c_V_holds hok hC ha hv (c_M_holds hok hM ha hv ⟨rfl, σ, hok, hC, hM⟩)
theorem p_count (hI : vs_I σ M) {x1 x2 : Int32} : vs_two l G A f_V_count f_M_count [.int x1, .int x2] M := by
  obtain ⟨hok, hC, hM⟩ := hI
  rcases vs_io x1 (n := 5) (by decide) with h1 | ⟨a, ha, rfl⟩
  · exact c_V_count_f (Or.inl h1) (c_M_count_f (Or.inl h1) ⟨rfl, σ, hok, hC, hM⟩)
  · rcases vs_io x2 (n := 32) (by decide) with h2 | ⟨key, hk, rfl⟩
    · exact c_V_count_f (Or.inr h2) (c_M_count_f (Or.inr h2) ⟨rfl, σ, hok, hC, hM⟩)
    · exact c_V_count hok hC ha hk (fun M1 hs1 => c_M_count hok (vs_M_41 (vs_same_41 hs1) hM) ha hk ⟨rfl, σ, hok, vs_same_C hs1 hC, vs_M_41 (vs_same_41 hs1) hM⟩)
theorem p_hints (hI : vs_I σ M) {x1 : Int32} : vs_two l G A f_V_hints f_M_hints [.int x1] M := by
  obtain ⟨hok, hC, hM⟩ := hI
  rcases vs_io x1 (n := 5) (by decide) with h1 | ⟨a, ha, rfl⟩
  · exact c_V_hints_f h1 (c_M_hints_f h1 ⟨rfl, σ, hok, hC, hM⟩)
  · exact c_V_hints hok hC ha (c_M_hints hok hM ha ⟨rfl, σ, hok, hC, hM⟩)
theorem p_version (hI : vs_I σ M) {x1 x2 : Int32} : vs_two l G A f_V_version f_M_version [.int x1, .int x2] M := by
  obtain ⟨hok, hC, hM⟩ := hI
  have hmd := hok.2.2.1
  rcases vs_io x1 (n := s_md σ) (by omega) with h1 | ⟨v, hv, rfl⟩
  · exact c_V_version_f hC h1 (c_M_version_f hM h1 ⟨rfl, σ, hok, hC, hM⟩)
  · exact c_V_version hok hC hv (c_M_version hok hM hv ⟨rfl, σ, hok, hC, hM⟩)
theorem p_context (hI : vs_I σ M) {x1 x2 : Int32} : vs_two l G A f_V_context f_M_context [.int x1, .int x2] M := by
  obtain ⟨hok, hC, hM⟩ := hI
  rcases vs_io x1 (n := 4) (by decide) with h1 | ⟨c, hc, rfl⟩
  · exact c_V_context_f (Or.inl h1) (c_M_context_f (Or.inl h1) ⟨rfl, σ, hok, hC, hM⟩)
  · rcases vs_io x2 (n := 5) (by decide) with h2 | ⟨n, hn, rfl⟩
    · exact c_V_context_f (Or.inr h2) (c_M_context_f (Or.inr h2) ⟨rfl, σ, hok, hC, hM⟩)
    · exact c_V_context hok hC hc hn (c_M_context hM hc hn ⟨rfl, σ, hok, hC, hM⟩)
end
