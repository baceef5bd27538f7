/-! The class: get, whole -/
theorem vs_mxr_c {cl cl' : Nat → Int32} {row : Nat → Bool} (hc : ∀ i, i < 200 → cl i = cl' i) {n : Nat} (hn : n < 5) : ∀ i, i ≤ 40 → vs_mxr cl row i n = vs_mxr cl' row i n
  | 0, _ => rfl
  | i + 1, hi => by
    unfold vs_mxr
    rw [vs_mxr_c hc hn i (by omega), hc (5 * i + n) (by omega)]
def sp_fo (σ : vs_S) (a key : Nat) : Nat → Bool := vs_fo σ (sp_T σ a key) key
def sp_get1 (σ : vs_S) (a key c : Nat) : vs_S := w_xc (w_xk (w_fd σ (sp_fo σ a key)) (va_up (s_xk σ) c (some key))) (va_up (s_xc σ) c (vs_mxr (s_cl σ) (sp_fo σ a key) (s_md σ)))
def sp_geth (σ : vs_S) (a key : Nat) (i : Nat) : Nat → Nat → Bool := vs_sn (s_hs σ) (fun h => vs_tkA h (s_ky σ) (s_cl σ) (s_md σ) (sp_fo σ a key) (s_md σ)) (sp_T σ a key) i
def sp_getp (σ : vs_S) (a key : Nat) (i : Nat) : Nat := vs_rp (s_hs σ) (s_ky σ) (s_cl σ) (s_md σ) (sp_fo σ a key) (sp_T σ a key) i
def sp_get2 (σ : vs_S) (a key c : Nat) : vs_S := w_hs (w_rp (sp_get1 σ a key c) (sp_getp σ a key (sp_H σ a key))) (sp_geth σ a key (sp_H σ a key))
def sp_getr (σ : vs_S) (a key : Nat) : Int32 := if s_up σ a = false then -2 else if (sp_T σ a key).length < s_rd σ then -3 else nI (vs_cnt (sp_fo σ a key) (s_md σ))
def sp_gets (σ : vs_S) (a key c : Nat) : vs_S := if s_up σ a = false then σ else if (sp_T σ a key).length < s_rd σ then σ else sp_get2 σ a key c
theorem c_V_get_f {l : Launch} {G : jw_G} {A : Nat → Prop} {M : jw_Mem} {Q : Int32 → jw_Mem → Prop} {x1 x2 x3 : Int32} (h : vs_out x1 5 ∨ vs_out x2 32 ∨ vs_out x3 4) (hQ : Q (-1) M) : jw_M l (jw_g G) A f_V_get [jw_a G 0, .int x1, .int x2, .int x3] M Q := by
  refine e_V_get (fun X hR => ?_)
  rcases vs_io x1 (n := 5) (by decide) with h1 | ⟨a, ha, rfl⟩
  · exact c_V_isNode_f h1 ⟨fun _ => hR _ _ hQ, fun hc => absurd rfl hc⟩
  · refine c_V_isNode_t ha ⟨fun _ => hR _ _ hQ, fun _ => ?_⟩
    rcases vs_io x2 (n := 32) (by decide) with h2 | ⟨p, hp, rfl⟩
    · exact c_V_isKey_f h2 ⟨fun _ => hR _ _ hQ, fun hc => absurd rfl hc⟩
    · refine c_V_isKey_t hp ⟨fun _ => hR _ _ hQ, fun _ => ?_⟩
      rcases vs_io x3 (n := 4) (by decide) with h3 | ⟨c, hc, rfl⟩
      · exact c_V_isContext_f h3 ⟨fun hc => absurd rfl hc, fun _ => hR _ _ hQ⟩
      · exact absurd h (fun z => z.elim (vs_out_n ha) (fun z => z.elim (vs_out_n hp) (vs_out_n hc)))
theorem c_V_getLoop {l : Launch} {X : jw_X0} {G : jw_G} {A : Nat → Prop} {M : jw_Mem} {σ : vs_S} {a key c : Nat} {x1 x2 x3 x4 : Int32} (hok : vs_ok σ) (hC : vs_C (sp_get1 σ a key c) M) (hI : vs_AI M (sp_T σ a key) (sp_H σ a key)) (hTl : (sp_T σ a key).length ≤ 3) (hHl : sp_H σ a key ≤ (sp_T σ a key).length) (hT5 : ∀ k, k < (sp_T σ a key).length → (sp_T σ a key).getD k 0 < 5)
    (hR : ∀ M' : jw_Mem, vs_C (sp_get2 σ a key c) M' → (∀ k, 41 ≤ k → M' k = M k) → jw_R l X (jw_g G) A f_V_get x4 M') : jw_X l X (jw_g G) A f_V_get 95 [some (jw_a G 0), some (.int x1), some (.int x2), some (.int x3), some (.int x4), some (.int 0)] [] (jw_U M 0 8 0) := by
  have hmd := hok.2.2.1
  have c4 : M 4 4 = nI (s_md σ) := hC.2.2.2.2.1
  have c5 : ∀ u, u < 40 → M 5 u = s_ky σ u := hC.2.2.2.2.2.1.1
  have c8 : ∀ u, u < 200 → M 8 u = s_cl σ u := hC.2.2.2.2.2.1.2.2.2
  have c11 : ∀ a u, a < 5 → u < 40 → M (11 + 3 * a) u = bI (s_hs σ a u) := hC.2.2.2.2.2.2.1
  have c35 : ∀ u, u < 40 → M 35 u = bI (sp_fo σ a key u) := hC.2.2.2.2.2.2.2.2.2.2.1
  have key2 : ∀ i, i ≤ sp_H σ a key → ∀ M' : jw_Mem, (∀ k, k ≠ 0 → (∀ b, b < 5 → k ≠ 11 + 3 * b) → M' k = M k) → (∀ j, j ≠ 8 → M' 0 j = M 0 j) → M' 0 8 = nI (sp_getp σ a key i) → (∀ b u, b < 5 → u < 40 → M' (11 + 3 * b) u = bI (sp_geth σ a key i b u)) → jw_X l X (jw_g G) A f_V_get 95 [some (jw_a G 0), some (.int x1), some (.int x2), some (.int x3), some (.int x4), some (.int (nI i))] [] M' := by
    refine vs_up ?_ ?_
    · intro M' ho h0 hp hr
      have hC2 : vs_C (w_rp (sp_get1 σ a key c) (sp_getp σ a key (sp_H σ a key))) (fun k => if k = 0 then M' 0 else M k) := vs_C_rp hC (fun k hk => if_neg hk) (fun j hj => h0 j hj) hp
      refine k_V_get_95 ⟨fun _ => hR M' (vs_C_hs hC2 (fun k hk => ?_) hr) (fun k hk => ho k (by omega) (fun z hz => by omega)), fun hc => absurd ?_ hc⟩
      · show M' k = if k = 0 then M' 0 else M k
        by_cases e : k = 0
        · rw [if_pos e, e]
        · rw [if_neg e]
          exact ho k e hk
      · rw [h0 11 (by decide), hI.2.1]
        exact nI_le (Nat.le_refl _) (by omega)
    · intro i hi ih M' ho h0 hp hr
      have ht := hT5 i (by omega)
      have e5 : M' 5 = M 5 := ho 5 (by decide) (fun z hz => by omega)
      have e8 : M' 8 = M 8 := ho 8 (by decide) (fun z hz => by omega)
      refine k_V_get_95 ⟨fun hc => absurd hc ?_, fun _ => ⟨i, ⟨by omega, rfl⟩, (sp_T σ a key).getD i 0, ⟨ht, ?_⟩, ?_⟩⟩
      · rw [h0 11 (by decide), hI.2.1]
        exact nI_ge hi (by omega)
      · rw [ho 36 (by decide) (fun z hz => by omega)]
        exact hI.2.2 i (by omega)
      · refine c_N_takeAll (h := sp_geth σ a key i ((sp_T σ a key).getD i 0)) (md := s_md σ) (row := sp_fo σ a key) ht jw_k35 (by omega) (by rw [ho 4 (by decide) (fun z hz => by omega)]; exact c4) hmd (fun u hu => hr _ u ht hu) (fun u hu => by rw [ho 35 (by decide) (fun z hz => by omega)]; exact c35 u (by omega)) (fun M2 ho2 hr2 => ?_)
        rw [nI_1]
        have eA := vs_tkA_c (h := sp_geth σ a key i ((sp_T σ a key).getD i 0)) (row := sp_fo σ a key) (ky := M' 5) (cl := M' 8) (ky' := s_ky σ) (cl' := s_cl σ) (fun u hu => by rw [e5]; exact c5 u hu) (fun u hu => by rw [e8]; exact c8 u hu) hmd _ (Nat.le_refl _)
        have eN := vs_tkN_c (h := sp_geth σ a key i ((sp_T σ a key).getD i 0)) (row := sp_fo σ a key) (ky := M' 5) (cl := M' 8) (ky' := s_ky σ) (cl' := s_cl σ) (fun u hu => by rw [e5]; exact c5 u hu) (fun u hu => by rw [e8]; exact c8 u hu) hmd _ (Nat.le_refl _)
        refine ih _ (fun k k0 hk => ?_) (fun j hj => ?_) ?_ (fun b u hb hu => ?_)
        · rw [jw_Une k0, ho2 k (hk _ ht)]
          exact ho k k0 hk
        · rw [jw_Uat, if_neg hj, ho2 0 (by omega)]
          exact h0 j hj
        · rw [jw_Uat, if_pos rfl, hp, eN, nI_add]
          rfl
        · rw [jw_Une (by omega)]
          show _ = bI (va_up (α := Nat → Bool) _ ((sp_T σ a key).getD i 0) _ b u)
          unfold va_up
          by_cases e : b = (sp_T σ a key).getD i 0
          · rw [if_pos e, e, hr2 u hu, eA u hu]
            rfl
          · rw [if_neg e, ho2 _ (by omega)]
            exact hr b u hb hu
  exact key2 0 (Nat.zero_le _) _ (fun k hk _ => jw_Une hk) (fun j hj => by rw [jw_Uat, if_neg hj]) (by rw [jw_Uat, if_pos rfl]; rfl) (fun b u hb hu => by rw [jw_Une (by omega)]; exact c11 b u hb hu)
theorem c_V_get {l : Launch} {G : jw_G} {A : Nat → Prop} {M : jw_Mem} {Q : Int32 → jw_Mem → Prop} {σ : vs_S} {a key c : Nat} (hok : vs_ok σ) (hC : vs_C σ M) (ha : a < 5) (hk : key < 32) (hc : c < 4)
    (hfill : ∀ (M : jw_Mem) (T : Int32 → jw_Mem → Prop), (∀ M' : jw_Mem, (∀ k, k ≠ 27 + 2 * c → M' k = M k) → (∀ n, n < 5 → M' (27 + 2 * c) n = 0) → T 0 M') → jw_M l (jw_g G) A f_J_fill [jw_a G (27 + 2 * c), .int 0] M T)
    (hQ : ∀ M' : jw_Mem, vs_C (sp_gets σ a key c) M' → (∀ k, 41 ≤ k → M' k = M k) → Q (sp_getr σ a key) M') : jw_M l (jw_g G) A f_V_get [jw_a G 0, .int (nI a), .int (nI key), .int (nI c)] M Q := by
  have hmd := hok.2.2.1
  have how := hok.2.2.2.1
  have hup := hC.2.2.1 a ha
  have hrd := hok.1.2.1
  have hmo := hok.2.1
  refine e_V_get (fun X hR => c_V_isNode_t ha ⟨fun hc => absurd hc (by decide), fun _ => c_V_isKey_t hk ⟨fun hc => absurd hc (by decide), fun _ => c_V_isContext_t hc ⟨fun _ => ⟨a, ⟨ha, rfl⟩, fun hu => ?_, fun hu => hR _ _ ?_⟩, fun hc => absurd hc (by decide)⟩⟩⟩)
  · rw [hup, bI_n0] at hu
    have n1 : ¬ s_up σ a = false := by rw [hu]; decide
    refine c_V_aim hok hC ha hk (fun M4 hs hL hI => ?_)
    have hI' : vs_AI M4 (sp_T σ a key) (sp_H σ a key) := hI
    have hC4 := vs_same_C hs hC
    have hr5 := vs_row_lt how 16 (key := key)
    have hTl : (sp_T σ a key).length ≤ s_mo σ := vs_tg_mo _ _ _
    have hT5 : ∀ k, k < (sp_T σ a key).length → (sp_T σ a key).getD k 0 < 5 := fun k hk => hr5 _ (vs_tg_in hk)
    refine ⟨fun hw => ?_, fun hw => hR _ _ ?_⟩
    · rw [hC4.1.2.1, hI'.1, nI_leI (by omega) (by omega)] at hw
      refine c_V_lookAtTargets hok hC4 hI' (by omega) hT5 (fun M5 ho5 hs5 => ?_)
      have hC5 : vs_C σ M5 := vs_same_C ⟨fun k _ _ _ _ k37 _ _ _ => ho5 k k37, by rw [ho5 0 (by decide)], by rw [ho5 0 (by decide)], by rw [ho5 0 (by decide)], by rw [ho5 1 (by decide)]⟩ hC4
      refine c_V_keepLatest hok hC5.2.2.2.2.1 hC5.2.2.2.2.2.1.2.2.2 hs5 (fun M6 ho6 hf6 hg6 => ⟨c, ⟨hc, rfl⟩, ?_⟩)
      have hC6 : vs_C (w_fd σ (sp_fo σ a key)) M6 := by
        refine vs_C_fd hC5 ho6 (fun u hu => ?_)
        by_cases e : u < s_md σ
        · exact hf6 u e
        · rw [hg6 u (by omega), hC5.2.2.2.2.2.2.2.2.2.2.1 u hu]
          congr 1
          have e1 : s_fd σ u = false := Bool.eq_false_iff.mpr (fun z => e (hok.2.2.2.2.2.2.2 u z))
          have e2 : sp_fo σ a key u = false := by simp [sp_fo, vs_fo, e]
          rw [e1, e2]
      refine c_C_learn (md := s_md σ) (row := sp_fo σ a key) hc jw_k35 (by rw [ho6 4 (by decide)]; exact hC5.2.2.2.2.1) hmd hf6 hfill (fun M7 ho7 hx7 hc7 => ?_)
      have hC7 : vs_C (sp_get1 σ a key c) M7 := by
        refine vs_C_x hC6 (fun k hk => ho7 k (hk c hc).1 (hk c hc).2) (fun z hz => ?_) (fun z n hz hn => ?_)
        · unfold va_up
          by_cases e : z = c
          · rw [if_pos e, e]
            exact hx7
          · rw [if_neg e, ho7 _ (by omega) (by omega)]
            exact hC6.2.2.2.2.2.2.2.2.1 z hz
        · show _ = va_up (α := Nat → Int32) _ c _ z n
          unfold va_up
          by_cases e : z = c
          · rw [if_pos e, e, hc7 n hn]
            exact vs_mxr_c (fun i hi => by rw [ho6 8 (by decide)]; exact hC5.2.2.2.2.2.1.2.2.2 i hi) hn _ hmd
          · rw [if_neg e, ho7 _ (by omega) (by omega)]
            exact hC6.2.2.2.2.2.2.2.2.2.1 z n hz hn
      have e0 : M7 0 = M4 0 := by rw [ho7 0 (by omega) (by omega), ho6 0 (by decide), ho5 0 (by decide)]
      have e36 : M7 36 = M4 36 := by rw [ho7 36 (by omega) (by omega), ho6 36 (by decide), ho5 36 (by decide)]
      have hI7 : vs_AI M7 (sp_T σ a key) (sp_H σ a key) := by unfold vs_AI; rw [e0, e36]; exact hI'
      refine c_V_getLoop hok hC7 hI7 (by omega) (vs_th_le _ _ _) hT5 (fun M8 hC8 ho8 => hR _ _ ?_)
      have e1 : sp_gets σ a key c = sp_get2 σ a key c := by
        unfold sp_gets
        rw [if_neg n1, if_neg (show ¬ (sp_T σ a key).length < s_rd σ by omega)]
      have e2 : sp_getr σ a key = nI (vs_cnt (sp_fo σ a key) (s_md σ)) := by
        unfold sp_getr
        rw [if_neg n1, if_neg (show ¬ (sp_T σ a key).length < s_rd σ by omega)]
      rw [e1, e2] at hQ
      refine hQ M8 hC8 (fun k hk => ?_)
      rw [ho8 k hk, ho7 k (by omega) (by omega), ho6 k (by omega), ho5 k (by omega)]
      exact vs_same_41 hs k hk
    · rw [hC4.1.2.1, hI'.1, nI_leI (by omega) (by omega)] at hw
      have e1 : sp_gets σ a key c = σ := by
        unfold sp_gets
        rw [if_neg n1, if_pos (show (sp_T σ a key).length < s_rd σ by omega)]
      have e2 : sp_getr σ a key = -3 := by
        unfold sp_getr
        rw [if_neg n1, if_pos (show (sp_T σ a key).length < s_rd σ by omega)]
      rw [e1, e2] at hQ
      exact hQ M4 hC4 (vs_same_41 hs)
  · rw [hup, bI_0] at hu
    have e1 : sp_gets σ a key c = σ := by
      unfold sp_gets
      rw [if_pos hu]
    have e2 : sp_getr σ a key = -2 := by
      unfold sp_getr
      rw [if_pos hu]
    rw [e1, e2] at hQ
    exact hQ M hC (fun _ _ => rfl)
