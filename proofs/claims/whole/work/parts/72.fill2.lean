/-! Arrays.fill inside a constructor; the law's cell -/
theorem jn_fill {l : Launch} {X : jw_X0} {D : va_G} {A : Nat → Prop} {f : jw_F} {Z : Nat × Nat} {nC nS pc i q n idx t0 : Nat} {cA : ClassId} {μ : Nat → Int32} {x : Int32} {L : List (Option Value)} {S : List Value} {ws : va_W} {tys : jn_T} (hd : decode f.2.1 pc = .ok (.invokestatic idx, 3)) (hi : ws[i]? = some (q, .inl (cA, n, .inl μ))) (ht : tys[t0]? = some (cA, .int)) (hn : n < 2147483648) (ok : jw_ok f.1.cls idx f_J_fill 2) (hdep : 0 < f.2.2.2.2.1 ∧ 23 ≤ f.2.2.2.2.2) (h8 : (S.map fun v => v.category).sum ≤ 8) (h7 : nC ≤ Z.1 ∧ nS ≤ Z.2)
    (h : ∀ μ' : Nat → Int32, (∀ j, j < n → μ' j = x) → jn_X l X D A f Z nC nS (pc + 3) L S (ws.set i (q, .inl (cA, n, .inl μ'))) tys) : jn_X l X D A f Z nC nS pc L (.int x :: .ref q :: S) ws tys := by
  obtain ⟨p, e, R, s, m, args, below, meth, c, cells, slots, Q⟩ := X
  intro C H locs ls hP hK hD hS hl
  have hR := C.2.2.2.2.2.2.2.2.1
  have hts := C.2.2.2.2.2.1
  have hFc := jn_free hD hS C.2.2.2.2.2.2.2.1 hi
  let E1 : jw_E := (D, fun _ => cA, fun _ => q, [(1, n, [])], none)
  have hM : jw_M l E1 (va_A [(q, .inl (cA, n, .inl μ))] H.size) f_J_fill [.ref q, .int x] (fun _ => μ) (fun _ M' => ∀ j, j < n → M' 0 j = x) := c_J_fill (E := E1) (k := 0) (n := n) (rs := []) rfl hn (fun M' _ hr => hr)
  have hPc : va_P D vwCl [(q, .inl (cA, n, .inl μ))] H := fun k x hk => by
    cases k with
    | zero => simp at hk; subst hk; exact hP i _ hi
    | succ k => simp at hk
  have hD1 : jw_D E1 (va_A [(q, .inl (cA, n, .inl μ))] H.size) := ⟨fun i j h1 h2 _ => by have a1 : i < 1 := h1; have a2 : j < 1 := h2; omega, fun k _ => Or.inl ⟨0, _, rfl⟩⟩
  have hK1 : ∀ U : State, s.vm.Alike U.vm → jw_K E1 U := by
    intro U hU
    have hK2 := va_K.moved hU hK
    refine ⟨hK2.1, fun k kd n' rs hk h0 => ?_⟩
    cases k with
    | zero =>
      have hk' : (1, n, ([] : List (Option Nat))) = (kd, n', rs) := Option.some.inj hk
      cases hk'
      exact hK2.2 t0 _ ht
    | succ k =>
      have hk' : (none : Option (Nat × Nat × List (Option Nat))) = some (kd, n', rs) := by simpa [E1] using hk
      cases hk'
  have hZ : ∀ U : State, jw_Z E1 (va_A [(q, .inl (cA, n, .inl μ))] H.size) U U.heap := fun U t ht => absurd (show (none : Option Nat) = some t from ht) (by simp)
  have hrun := va_runS (cells := nC) (slots := nS) (e := e) (below := below) (meth := meth) (locs := locs) (g := F0 m pc ls (.int x :: .ref q :: S)) (rest := S) (Ts := jw_ws) (own := f.1.cls) ⟨C.1, C.2.1, C.2.2.2.1, C.2.2.2.2.1, hts⟩ hM
    ⟨callB_of 2 hts (jw_good ok.2.2.1) rfl rfl rfl (hts _ ok.2.1) (hts _ ok.1) ok.2.2.2 ⟨Nat.le_trans hdep.1 hR.1, Nat.le_trans hdep.2 hR.2.1⟩, hts _ jw_st_f_J_fill⟩
    ⟨jw_blind, fun U hU hW => ⟨rfl, by rw [hU]; exact hPc, And.intro (hK1 U hW.alike) (And.intro (hZ U) hD1)⟩⟩ rfl rfl hl.1 rfl (lv_room h8) hd ⟨Nat.le_trans h7.1 hR.2.2.1, Nat.le_trans h7.2 hR.2.2.2⟩
  refine va_callv (a := [Value.ref q, .int x].toArray) (post := fun M' : jw_Mem => ∀ j, j < n → M' 0 j = x) (B := jw_B E1) hrun hS (fun a _ z => hFc a z) hFc (fun u t H1 locs1 ht2 hvm hp hB hz hk hS1 => ?_)
  have hP1 : va_P D vwCl [(q, .inl (cA, n, .inl (u 0)))] t.heap := hB
  rw [ht2] at hP1
  have hD2 : va_D (va_A [(q, .inl (cA, n, .inl μ))] H.size) [(q, .inl (cA, n, .inl (u 0)))] := jw_D_va hD1 u
  obtain ⟨hP3, hD3⟩ := jn_join hP hD hi hk hFc hP1 hD2
  rw [List.append_nil] at hP3 hD3
  exact h (u 0) hp C H1 locs1 ls hP3 hK hD3 hS1 hl
def f_L_cell : jw_F := (y_L_cell, b_L_cell, 2, some .int, 0, 0)
def vs_cell (n : Nat) (xs : Nat → Int32) (k : Nat) : Int32 := if k < n then xs k else 0
set_option maxRecDepth 100000 in
theorem c_L_cell {l : Launch} {b n k : Nat} {xs : Nat → Int32} (hn : n < 2147483648) (hk : k < 2147483648) : Met l f_L_cell.1 (jw_w f_L_cell) (jw_rm f_L_cell) (va_Pc [.ref b, .int (nI k)] (fun U => va_X b n xs U U.heap ∧ b < U.heap.size)) (va_Qi (fun r (_ : Unit) => r = vs_cell n xs k) (fun _ _ => True) (fun _ => False)) 0 0 (fun _ => False) := by
  refine Met.ofW (cc := b_L_cell) (maxL := 2) (ret := some .int) (by decide) rfl ?_
  intro p e s m args below meth c s₁ B hml hv
  obtain ⟨rfl, hX, hb0⟩ := hv
  have hx := B.exec
  have hb := B.bytes
  have hr := B.returns
  have hS : va_S (fun _ => False) s.heap s.heap [] := va_S.rf
  have hl := lv_entry ([.ref b, .int (nI k)]) (n := 2) (Nat.le_of_ble_eq_true rfl)
  rw [lg_entry_eq]
  generalize (lg_sl ([.ref b, .int (nI k)]) ++ List.replicate (2 - (lg_sl ([.ref b, .int (nI k)])).length) Slot.unset).toArray = ls at hl ⊢
  have hl : lv_has ls 2 [(0, .ref b), (1, .int (nI k))] := hl
  have fin : ∀ v, v = vs_cell n xs k → W p l e (headSpec (jw_w f_L_cell) (jw_rm f_L_cell)).room s m [Value.ref b, .int (nI k)].toArray below meth c s.heap [] 0 0 (MQ below (va_Qi (fun r (_ : Unit) => r = vs_cell n xs k) (fun _ _ => True) (fun _ => False)) [Value.ref b, .int (nI k)].toArray s 0 0 (fun _ => False)) (F0 m 13 ls [.int v]) := fun v hv => W.iret (v := v) hx hb hr (fun t ht hW => ⟨⟨v, (), rfl, hv, trivial⟩, hS.F ht⟩) hS.2.2 d_L_cell_13
  refine lv_iload_n hx hb d_L_cell_0 rfl (lv_at hl 1 rfl) ?_
  refine lv_aload_n hx hb d_L_cell_1 rfl (lv_at hl 0 rfl) ?_
  refine va_slen hx hb hX hb0 (fun h => h) hS d_L_cell_2 ?_
  refine lv_icmp_ge (tgt := 12) hx hb d_L_cell_3 rfl (fun c1 => ?_) (fun c1 => ?_)
  · refine lv_iconst (v := 0) hx hb d_L_cell_12 jc_i_0 ?_
    refine fin 0 ?_
    have c2 : nI n ≤ nI k := c1
    rw [nI_leI (by omega) (by omega)] at c2
    unfold vs_cell
    rw [if_neg (by omega)]
  · have c2 : ¬ nI n ≤ nI k := c1
    rw [nI_leI (by omega) (by omega)] at c2
    refine lv_aload_n hx hb d_L_cell_6 rfl (lv_at hl 0 rfl) ?_
    refine lv_iload_n hx hb d_L_cell_7 rfl (lv_at hl 1 rfl) ?_
    refine va_sld hx hb hX hb0 (fun h => h) hS (jw_inb hn ⟨by omega, rfl⟩) d_L_cell_8 ?_
    refine lv_goto (tgt := 13) hx hb d_L_cell_9 rfl ?_
    refine fin _ ?_
    rw [jw_cl (n := n) (j := k) hn ⟨by omega, rfl⟩]
    unfold vs_cell
    rw [if_pos (by omega)]
