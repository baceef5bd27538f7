/-! The law's loop: as long as both hold one state, every answer is the same -/
theorem nI_p2 (i : Nat) : nI i + 2 = nI (i + 2) := by rw [show (2 : Int32) = nI 2 from rfl, nI_add]
theorem nI_p3 (i : Nat) : nI i + 3 = nI (i + 3) := by rw [show (3 : Int32) = nI 3 from rfl, nI_add]
theorem nI_p4 (i : Nat) : nI i + 4 = nI (i + 4) := by rw [show (4 : Int32) = nI 4 from rfl, nI_add]
theorem nI_p5 (i : Nat) : nI i + 5 = nI (i + 5) := by rw [show (5 : Int32) = nI 5 from rfl, nI_add]
theorem nI_m5 {n : Nat} (hn : n ≤ 2563) : (nI n - 5).toInt = (n : Int) - 5 := by
  have h5 : ((5 : Int32)).toInt = 5 := by decide
  rw [Int32.toInt_sub, nI_toInt (by omega), h5]
  exact Int.bmod_eq_of_le (by omega) (by omega)
theorem law_end {n i : Nat} (hn : n ≤ 2563) (hi : i ≤ 3000) : nI n - 5 < nI i ↔ n < i + 5 := by
  rw [Int32.lt_iff_toInt_lt, nI_m5 hn, nI_toInt (by omega)]
  omega
set_option maxHeartbeats 4000000 in
theorem law_case {l : Launch} {X : jw_X0} {G : jw_G} {A : Nat → Prop} {b n : Nat} {xs : Nat → Int32} (hX : jw_scr X A b n xs) (hn : n ≤ 2563) {i : Nat} {σ : vs_S} {M : jw_Mem} (hi : i + 5 ≤ n) (hI : vs_I σ M) (go : ∀ M2, (∃ σ, vs_I σ M2) → jw_X l X (jw_g G) A f_L_law 734 [some (.ref b), some (jw_a G 0), some (jw_a G 41), some (.int (nI i))] [] M2) : ∀ c, c < 32 → jw_X l X (jw_g G) A f_L_law (jw_lt_L_law c) [some (.ref b), some (jw_a G 0), some (jw_a G 41), some (.int (nI i))] [] M
  | 0, _ => k_L_law_148 hX ⟨i + 1, ⟨by omega, by omega, nI_1 i⟩, i + 2, ⟨by omega, by omega, nI_p2 i⟩, jw_M_mono (p_token hI) (fun r1 M1 h1 => ⟨i + 1, ⟨by omega, by omega, nI_1 i⟩, i + 2, ⟨by omega, by omega, nI_p2 i⟩, jw_M_mono h1 (fun r2 M2 h2 => ⟨fun _ => go M2 h2.2, fun hne => absurd h2.1 hne⟩)⟩)⟩
  | 1, _ => k_L_law_181 hX ⟨i + 1, ⟨by omega, by omega, nI_1 i⟩, jw_M_mono (p_remove hI) (fun r1 M1 h1 => ⟨i + 1, ⟨by omega, by omega, nI_1 i⟩, jw_M_mono h1 (fun r2 M2 h2 => ⟨fun _ => go M2 h2.2, fun hne => absurd h2.1 hne⟩)⟩)⟩
  | 2, _ => k_L_law_204 hX ⟨i + 1, ⟨by omega, by omega, nI_1 i⟩, i + 2, ⟨by omega, by omega, nI_p2 i⟩, fun hz => jw_M_mono (p_power hI false) (fun r1 M1 h1 => ⟨i + 1, ⟨by omega, by omega, nI_1 i⟩, i + 2, ⟨by omega, by omega, nI_p2 i⟩, fun _ => jw_M_mono h1 (fun r2 M2 h2 => ⟨fun _ => go M2 h2.2, fun hne => absurd h2.1 hne⟩), fun z => absurd hz z⟩), fun hz => jw_M_mono (p_power hI true) (fun r1 M1 h1 => ⟨i + 1, ⟨by omega, by omega, nI_1 i⟩, i + 2, ⟨by omega, by omega, nI_p2 i⟩, fun z => absurd z hz, fun _ => jw_M_mono h1 (fun r2 M2 h2 => ⟨fun _ => go M2 h2.2, fun hne => absurd h2.1 hne⟩)⟩)⟩
  | 3, _ => k_L_law_253 hX ⟨i + 1, ⟨by omega, by omega, nI_1 i⟩, i + 2, ⟨by omega, by omega, nI_p2 i⟩, i + 3, ⟨by omega, by omega, nI_p3 i⟩, fun hz => jw_M_mono (p_cut hI false) (fun r1 M1 h1 => ⟨i + 1, ⟨by omega, by omega, nI_1 i⟩, i + 2, ⟨by omega, by omega, nI_p2 i⟩, i + 3, ⟨by omega, by omega, nI_p3 i⟩, fun _ => jw_M_mono h1 (fun r2 M2 h2 => ⟨fun _ => go M2 h2.2, fun hne => absurd h2.1 hne⟩), fun z => absurd hz z⟩), fun hz => jw_M_mono (p_cut hI true) (fun r1 M1 h1 => ⟨i + 1, ⟨by omega, by omega, nI_1 i⟩, i + 2, ⟨by omega, by omega, nI_p2 i⟩, i + 3, ⟨by omega, by omega, nI_p3 i⟩, fun z => absurd z hz, fun _ => jw_M_mono h1 (fun r2 M2 h2 => ⟨fun _ => go M2 h2.2, fun hne => absurd h2.1 hne⟩)⟩)⟩
  | 4, _ => k_L_law_312 hX ⟨i + 1, ⟨by omega, by omega, nI_1 i⟩, i + 2, ⟨by omega, by omega, nI_p2 i⟩, i + 3, ⟨by omega, by omega, nI_p3 i⟩, i + 4, ⟨by omega, by omega, nI_p4 i⟩, jw_M_mono (p_put hI) (fun r1 M1 h1 => ⟨i + 1, ⟨by omega, by omega, nI_1 i⟩, i + 2, ⟨by omega, by omega, nI_p2 i⟩, i + 3, ⟨by omega, by omega, nI_p3 i⟩, i + 4, ⟨by omega, by omega, nI_p4 i⟩, jw_M_mono h1 (fun r2 M2 h2 => ⟨fun _ => go M2 h2.2, fun hne => absurd h2.1 hne⟩)⟩)⟩
  | 5, _ => k_L_law_365 hX ⟨i + 1, ⟨by omega, by omega, nI_1 i⟩, i + 2, ⟨by omega, by omega, nI_p2 i⟩, i + 3, ⟨by omega, by omega, nI_p3 i⟩, jw_M_mono (p_get hI) (fun r1 M1 h1 => ⟨i + 1, ⟨by omega, by omega, nI_1 i⟩, i + 2, ⟨by omega, by omega, nI_p2 i⟩, i + 3, ⟨by omega, by omega, nI_p3 i⟩, jw_M_mono h1 (fun r2 M2 h2 => ⟨fun _ => go M2 h2.2, fun hne => absurd h2.1 hne⟩)⟩)⟩
  | 6, _ => k_L_law_408 hX ⟨i + 1, ⟨by omega, by omega, nI_1 i⟩, jw_M_mono (p_found hI) (fun r1 M1 h1 => ⟨i + 1, ⟨by omega, by omega, nI_1 i⟩, jw_M_mono h1 (fun r2 M2 h2 => ⟨fun _ => go M2 h2.2, fun hne => absurd h2.1 hne⟩)⟩)⟩
  | 7, _ => k_L_law_431 hX (jw_M_mono (p_repaired hI) (fun r1 M1 h1 => jw_M_mono h1 (fun r2 M2 h2 => ⟨fun _ => go M2 h2.2, fun hne => absurd h2.1 hne⟩)))
  | 8, _ => k_L_law_444 hX ⟨i + 1, ⟨by omega, by omega, nI_1 i⟩, jw_M_mono (p_handOver hI) (fun r1 M1 h1 => ⟨i + 1, ⟨by omega, by omega, nI_1 i⟩, jw_M_mono h1 (fun r2 M2 h2 => ⟨fun _ => go M2 h2.2, fun hne => absurd h2.1 hne⟩)⟩)⟩
  | 9, _ => k_L_law_467 hX ⟨i + 1, ⟨by omega, by omega, nI_1 i⟩, i + 2, ⟨by omega, by omega, nI_p2 i⟩, jw_M_mono (p_compare hI) (fun r1 M1 h1 => ⟨i + 1, ⟨by omega, by omega, nI_1 i⟩, i + 2, ⟨by omega, by omega, nI_p2 i⟩, jw_M_mono h1 (fun r2 M2 h2 => ⟨fun _ => go M2 h2.2, fun hne => absurd h2.1 hne⟩)⟩)⟩
  | 10, _ => k_L_law_500 hX ⟨i + 1, ⟨by omega, by omega, nI_1 i⟩, i + 2, ⟨by omega, by omega, nI_p2 i⟩, jw_M_mono (p_home hI) (fun r1 M1 h1 => ⟨i + 1, ⟨by omega, by omega, nI_1 i⟩, i + 2, ⟨by omega, by omega, nI_p2 i⟩, jw_M_mono h1 (fun r2 M2 h2 => ⟨fun _ => go M2 h2.2, fun hne => absurd h2.1 hne⟩)⟩)⟩
  | 11, _ => k_L_law_533 hX ⟨i + 1, ⟨by omega, by omega, nI_1 i⟩, i + 2, ⟨by omega, by omega, nI_p2 i⟩, jw_M_mono (p_targets hI) (fun r1 M1 h1 => ⟨i + 1, ⟨by omega, by omega, nI_1 i⟩, i + 2, ⟨by omega, by omega, nI_p2 i⟩, jw_M_mono h1 (fun r2 M2 h2 => ⟨fun _ => go M2 h2.2, fun hne => absurd h2.1 hne⟩)⟩)⟩
  | 12, _ => k_L_law_566 hX ⟨i + 1, ⟨by omega, by omega, nI_1 i⟩, i + 2, ⟨by omega, by omega, nI_p2 i⟩, jw_M_mono (p_holds hI) (fun r1 M1 h1 => ⟨i + 1, ⟨by omega, by omega, nI_1 i⟩, i + 2, ⟨by omega, by omega, nI_p2 i⟩, jw_M_mono h1 (fun r2 M2 h2 => ⟨fun _ => go M2 h2.2, fun hne => absurd h2.1 hne⟩)⟩)⟩
  | 13, _ => k_L_law_599 hX ⟨i + 1, ⟨by omega, by omega, nI_1 i⟩, i + 2, ⟨by omega, by omega, nI_p2 i⟩, jw_M_mono (p_count hI) (fun r1 M1 h1 => ⟨i + 1, ⟨by omega, by omega, nI_1 i⟩, i + 2, ⟨by omega, by omega, nI_p2 i⟩, jw_M_mono h1 (fun r2 M2 h2 => ⟨fun _ => go M2 h2.2, fun hne => absurd h2.1 hne⟩)⟩)⟩
  | 14, _ => k_L_law_632 hX ⟨i + 1, ⟨by omega, by omega, nI_1 i⟩, jw_M_mono (p_hints hI) (fun r1 M1 h1 => ⟨i + 1, ⟨by omega, by omega, nI_1 i⟩, jw_M_mono h1 (fun r2 M2 h2 => ⟨fun _ => go M2 h2.2, fun hne => absurd h2.1 hne⟩)⟩)⟩
  | 15, _ => k_L_law_655 hX (jw_M_mono (p_versions hI) (fun r1 M1 h1 => jw_M_mono h1 (fun r2 M2 h2 => ⟨fun _ => go M2 h2.2, fun hne => absurd h2.1 hne⟩)))
  | 16, _ => k_L_law_668 hX ⟨i + 1, ⟨by omega, by omega, nI_1 i⟩, i + 2, ⟨by omega, by omega, nI_p2 i⟩, jw_M_mono (p_version hI) (fun r1 M1 h1 => ⟨i + 1, ⟨by omega, by omega, nI_1 i⟩, i + 2, ⟨by omega, by omega, nI_p2 i⟩, jw_M_mono h1 (fun r2 M2 h2 => ⟨fun _ => go M2 h2.2, fun hne => absurd h2.1 hne⟩)⟩)⟩
  | 17, _ => k_L_law_701 hX ⟨i + 1, ⟨by omega, by omega, nI_1 i⟩, i + 2, ⟨by omega, by omega, nI_p2 i⟩, jw_M_mono (p_context hI) (fun r1 M1 h1 => ⟨i + 1, ⟨by omega, by omega, nI_1 i⟩, i + 2, ⟨by omega, by omega, nI_p2 i⟩, jw_M_mono h1 (fun r2 M2 h2 => ⟨fun _ => go M2 h2.2, fun hne => absurd h2.1 hne⟩)⟩)⟩
  | c + 18, _ => by
    rw [jw_lt_out (Nat.le_add_left 18 c)]
    exact go M ⟨σ, hI⟩
theorem law_loop {l : Launch} {X : jw_X0} {G : jw_G} {A : Nat → Prop} {b n : Nat} {xs : Nat → Int32} (hX : jw_scr X A b n xs) (hn : n ≤ 2563) (hR : ∀ M, jw_R l X (jw_g G) A f_L_law 1 M) : ∀ d i, i ≤ n + 5 → n ≤ i + d → ∀ (σ : vs_S) (M : jw_Mem), vs_I σ M → jw_X l X (jw_g G) A f_L_law 48 [some (.ref b), some (jw_a G 0), some (jw_a G 41), some (.int (nI i))] [] M
  | 0, i, hi, hd, σ, M, hI => k_L_law_48 hX ⟨fun _ => hR M, fun hc => absurd ((law_end hn (by omega)).mpr (by omega)) hc⟩
  | d + 1, i, hi, hd, σ, M, hI => by
    refine k_L_law_48 hX ⟨fun _ => hR M, fun hc => ?_⟩
    have h5 : i + 5 ≤ n := by
      rw [law_end hn (by omega)] at hc
      omega
    obtain ⟨c, hc2, e⟩ := pk_andE (xs i) (m := 31) 5 (by decide)
    refine ⟨i, ⟨by omega, by omega, rfl⟩, c, ⟨hc2, e⟩, law_case hX hn h5 hI (fun M2 h2 => ?_) c hc2⟩
    obtain ⟨σ2, hI2⟩ := h2
    refine k_L_law_734 hX ?_
    rw [nI_p5]
    exact law_loop hX hn hR d (i + 5) (by omega) (by omega) σ2 M2 hI2
