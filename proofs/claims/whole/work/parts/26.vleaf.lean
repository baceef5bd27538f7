/-! In range or not: isNode, isPosition, isKey, isContext of the class; isNode, isKey of the reference -/
def vs_out (x : Int32) (n : Nat) : Prop := x < 0 ∨ nI n ≤ x
theorem c_V_isNode_t {l : Launch} {G : jw_G} {A : Nat → Prop} {M : jw_Mem} {Q : Int32 → jw_Mem → Prop} {a : Nat} (ha : a < 5) (hQ : Q 1 M) : jw_M l (jw_g G) A f_V_isNode [.int (nI a)] M Q := e_V_isNode (fun X hR => ⟨fun h => absurd h (nI_pos (by omega)), fun _ => ⟨fun h => absurd h (nI_ge (b := 5) ha (by omega)), fun _ => hR _ _ hQ (Or.inr rfl)⟩⟩)
theorem c_V_isNode_f {l : Launch} {G : jw_G} {A : Nat → Prop} {M : jw_Mem} {Q : Int32 → jw_Mem → Prop} {x : Int32} (hx : vs_out x 5) (hQ : Q 0 M) : jw_M l (jw_g G) A f_V_isNode [.int x] M Q := e_V_isNode (fun X hR => ⟨fun _ => hR _ _ hQ (Or.inl rfl), fun h0 => ⟨fun _ => hR _ _ hQ (Or.inl rfl), fun h1 => hx.elim (fun z => absurd z h0) (fun z => absurd z h1)⟩⟩)
theorem c_V_isPosition_t {l : Launch} {G : jw_G} {A : Nat → Prop} {M : jw_Mem} {Q : Int32 → jw_Mem → Prop} {a : Nat} (ha : a < 16) (hQ : Q 1 M) : jw_M l (jw_g G) A f_V_isPosition [.int (nI a)] M Q := e_V_isPosition (fun X hR => ⟨fun h => absurd h (nI_pos (by omega)), fun _ => ⟨fun h => absurd h (nI_ge (b := 16) ha (by omega)), fun _ => hR _ _ hQ (Or.inr rfl)⟩⟩)
theorem c_V_isPosition_f {l : Launch} {G : jw_G} {A : Nat → Prop} {M : jw_Mem} {Q : Int32 → jw_Mem → Prop} {x : Int32} (hx : vs_out x 16) (hQ : Q 0 M) : jw_M l (jw_g G) A f_V_isPosition [.int x] M Q := e_V_isPosition (fun X hR => ⟨fun _ => hR _ _ hQ (Or.inl rfl), fun h0 => ⟨fun _ => hR _ _ hQ (Or.inl rfl), fun h1 => hx.elim (fun z => absurd z h0) (fun z => absurd z h1)⟩⟩)
theorem c_V_isKey_t {l : Launch} {G : jw_G} {A : Nat → Prop} {M : jw_Mem} {Q : Int32 → jw_Mem → Prop} {a : Nat} (ha : a < 32) (hQ : Q 1 M) : jw_M l (jw_g G) A f_V_isKey [.int (nI a)] M Q := e_V_isKey (fun X hR => ⟨fun h => absurd h (nI_pos (by omega)), fun _ => ⟨fun h => absurd h (nI_ge (b := 32) ha (by omega)), fun _ => hR _ _ hQ (Or.inr rfl)⟩⟩)
theorem c_V_isKey_f {l : Launch} {G : jw_G} {A : Nat → Prop} {M : jw_Mem} {Q : Int32 → jw_Mem → Prop} {x : Int32} (hx : vs_out x 32) (hQ : Q 0 M) : jw_M l (jw_g G) A f_V_isKey [.int x] M Q := e_V_isKey (fun X hR => ⟨fun _ => hR _ _ hQ (Or.inl rfl), fun h0 => ⟨fun _ => hR _ _ hQ (Or.inl rfl), fun h1 => hx.elim (fun z => absurd z h0) (fun z => absurd z h1)⟩⟩)
theorem c_V_isContext_t {l : Launch} {G : jw_G} {A : Nat → Prop} {M : jw_Mem} {Q : Int32 → jw_Mem → Prop} {a : Nat} (ha : a < 4) (hQ : Q 1 M) : jw_M l (jw_g G) A f_V_isContext [.int (nI a)] M Q := e_V_isContext (fun X hR => ⟨fun h => absurd h (nI_pos (by omega)), fun _ => ⟨fun h => absurd h (nI_ge (b := 4) ha (by omega)), fun _ => hR _ _ hQ (Or.inr rfl)⟩⟩)
theorem c_V_isContext_f {l : Launch} {G : jw_G} {A : Nat → Prop} {M : jw_Mem} {Q : Int32 → jw_Mem → Prop} {x : Int32} (hx : vs_out x 4) (hQ : Q 0 M) : jw_M l (jw_g G) A f_V_isContext [.int x] M Q := e_V_isContext (fun X hR => ⟨fun _ => hR _ _ hQ (Or.inl rfl), fun h0 => ⟨fun _ => hR _ _ hQ (Or.inl rfl), fun h1 => hx.elim (fun z => absurd z h0) (fun z => absurd z h1)⟩⟩)
theorem c_M_isNode_t {l : Launch} {G : jw_G} {A : Nat → Prop} {M : jw_Mem} {Q : Int32 → jw_Mem → Prop} {a : Nat} (ha : a < 5) (hQ : Q 1 M) : jw_M l (jw_g G) A f_M_isNode [.int (nI a)] M Q := e_M_isNode (fun X hR => ⟨fun h => absurd h (nI_pos (by omega)), fun _ => ⟨fun h => absurd h (nI_nlt (a := 4) (b := a) (by omega) (by omega)), fun _ => hR _ _ hQ (Or.inr rfl)⟩⟩)
theorem vs_gt5 {x : Int32} (h : nI 5 ≤ x) : 4 < x := by
  rw [Int32.lt_iff_toInt_lt]
  have h1 := Int32.le_iff_toInt_le.mp h
  rw [nI_toInt (by decide)] at h1
  have h2 : (4 : Int32).toInt = 4 := by decide
  omega
theorem c_M_isNode_f {l : Launch} {G : jw_G} {A : Nat → Prop} {M : jw_Mem} {Q : Int32 → jw_Mem → Prop} {x : Int32} (hx : vs_out x 5) (hQ : Q 0 M) : jw_M l (jw_g G) A f_M_isNode [.int x] M Q := e_M_isNode (fun X hR => ⟨fun _ => hR _ _ hQ (Or.inl rfl), fun h0 => ⟨fun _ => hR _ _ hQ (Or.inl rfl), fun h1 => hx.elim (fun z => absurd z h0) (fun z => absurd (vs_gt5 z) h1)⟩⟩)
theorem c_M_isKey_t {l : Launch} {G : jw_G} {A : Nat → Prop} {M : jw_Mem} {Q : Int32 → jw_Mem → Prop} {a : Nat} (ha : a < 32) (hQ : Q 1 M) : jw_M l (jw_g G) A f_M_isKey [.int (nI a)] M Q := e_M_isKey (fun X hR => ⟨fun h => absurd h (nI_pos (by omega)), fun _ => ⟨fun h => absurd h (nI_nlt (a := 31) (b := a) (by omega) (by omega)), fun _ => hR _ _ hQ (Or.inr rfl)⟩⟩)
theorem vs_gt32 {x : Int32} (h : nI 32 ≤ x) : 31 < x := by
  rw [Int32.lt_iff_toInt_lt]
  have h1 := Int32.le_iff_toInt_le.mp h
  rw [nI_toInt (by decide)] at h1
  have h2 : (31 : Int32).toInt = 31 := by decide
  omega
theorem c_M_isKey_f {l : Launch} {G : jw_G} {A : Nat → Prop} {M : jw_Mem} {Q : Int32 → jw_Mem → Prop} {x : Int32} (hx : vs_out x 32) (hQ : Q 0 M) : jw_M l (jw_g G) A f_M_isKey [.int x] M Q := e_M_isKey (fun X hR => ⟨fun _ => hR _ _ hQ (Or.inl rfl), fun h0 => ⟨fun _ => hR _ _ hQ (Or.inl rfl), fun h1 => hx.elim (fun z => absurd z h0) (fun z => absurd (vs_gt32 z) h1)⟩⟩)
theorem vs_io (x : Int32) {n : Nat} (hn : n < 2147483648) : vs_out x n ∨ ∃ j : Nat, j < n ∧ x = nI j := by
  rcases pk_ix x (n := n) (by omega) with h | h | h
  · exact Or.inl (Or.inl h)
  · exact Or.inl (Or.inr h)
  · exact Or.inr h
theorem vs_out_n {a n : Nat} (ha : a < n) (hn : n < 2147483648 := by decide) : ¬ vs_out (nI a) n := by
  rintro (h | h)
  · exact nI_pos (by omega) h
  · exact nI_ge ha (by omega) h
theorem c_V_line {l : Launch} {G : jw_G} {A : Nat → Prop} {M : jw_Mem} {Q : Int32 → jw_Mem → Prop} {a b : Nat} (ha : a < 5) (hb : b < 5) (hQ : Q (nI (5 * min a b + max a b)) M) : jw_M l (jw_g G) A f_V_line [.int (nI a), .int (nI b)] M Q := by
  refine e_V_line (fun X hR => hR _ _ ?_)
  have e1 : (if nI b < nI a then nI b else nI a) = nI (min a b) := by
    by_cases h : b < a
    · rw [if_pos (nI_lt h (by omega)), Nat.min_eq_right (by omega)]
    · rw [if_neg (nI_nlt (by omega) (by omega)), Nat.min_eq_left (by omega)]
  have e2 : (if nI a < nI b then nI b else nI a) = nI (max a b) := by
    by_cases h : a < b
    · rw [if_pos (nI_lt h (by omega)), Nat.max_eq_right (by omega)]
    · rw [if_neg (nI_nlt (by omega) (by omega)), Nat.max_eq_left (by omega)]
  rw [e1, e2, nI_lin]
  exact hQ
def vs_rch (up : Nat → Bool) (cu : Nat → Nat → Bool) (a b : Nat) : Bool := up a && up b && !cu a b
theorem vs_mm {a b : Nat} (ha : a < 5) (hb : b < 5) : 5 * min a b + max a b < 25 := by omega
theorem c_V_reaches {l : Launch} {G : jw_G} {A : Nat → Prop} {M : jw_Mem} {Q : Int32 → jw_Mem → Prop} {a b : Nat} {up : Nat → Bool} {cu : Nat → Nat → Bool} (ha : a < 5) (hb : b < 5) (hu : ∀ a, a < 5 → M (10 + 3 * a) 3 = bI (up a)) (hc : ∀ a b, a < 5 → b < 5 → M 34 (5 * min a b + max a b) = bI (cu a b)) (hQ : Q (bI (vs_rch up cu a b)) M) : jw_M l (jw_g G) A f_V_reaches [jw_a G 0, .int (nI a), .int (nI b)] M Q := by
  refine e_V_reaches (fun X hR => ⟨a, ⟨ha, rfl⟩, fun h1 => ?_, fun h1 => ⟨b, ⟨hb, rfl⟩, fun h2 => ?_, fun h2 => c_V_line ha hb ⟨5 * min a b + max a b, ⟨vs_mm ha hb, rfl⟩, fun h3 => ?_, fun h3 => ?_⟩⟩⟩)
  · rw [hu a ha, bI_0] at h1
    refine hR _ _ ?_ (Or.inl rfl)
    simpa [vs_rch, h1, bI] using hQ
  · rw [hu a ha, bI_n0] at h1
    rw [hu b hb, bI_0] at h2
    refine hR _ _ ?_ (Or.inl rfl)
    simpa [vs_rch, h1, h2, bI] using hQ
  · rw [hu a ha, bI_n0] at h1
    rw [hu b hb, bI_n0] at h2
    rw [hc a b ha hb, bI_n0] at h3
    refine hR _ _ ?_ (Or.inl rfl)
    simpa [vs_rch, h1, h2, h3, bI] using hQ
  · rw [hu a ha, bI_n0] at h1
    rw [hu b hb, bI_n0] at h2
    rw [hc a b ha hb, bI_0] at h3
    refine hR _ _ ?_ (Or.inr rfl)
    simpa [vs_rch, h1, h2, h3, bI] using hQ
theorem c_M_reaches {l : Launch} {G : jw_G} {A : Nat → Prop} {M : jw_Mem} {Q : Int32 → jw_Mem → Prop} {a b : Nat} {up : Nat → Bool} {cu : Nat → Nat → Bool} (ha : a < 5) (hb : b < 5) (hu : ∀ a, a < 5 → M 42 a = bI (!up a)) (hc : ∀ a b, a < 5 → b < 5 → M 43 (5 * a + b) = bI (cu a b)) (hQ : Q (bI (vs_rch up cu a b)) M) : jw_M l (jw_g G) A f_M_reaches [jw_a G 41, .int (nI a), .int (nI b)] M Q := by
  refine e_M_reaches (fun X hR => ⟨a, ⟨ha, rfl⟩, fun h1 => ?_, fun h1 => ⟨b, ⟨hb, rfl⟩, fun h2 => ?_, fun h2 => ⟨5 * a + b, ⟨by omega, nI_lin5 a b⟩, fun h3 => ?_, fun h3 => ?_⟩⟩⟩)
  · rw [hu a ha, bI_n0] at h1
    have h1' : up a = false := by simpa using h1
    refine hR _ _ ?_ (Or.inl rfl)
    simpa [vs_rch, h1', bI] using hQ
  · rw [hu a ha, bI_0] at h1
    rw [hu b hb, bI_n0] at h2
    have h1' : up a = true := by simpa using h1
    have h2' : up b = false := by simpa using h2
    refine hR _ _ ?_ (Or.inl rfl)
    simpa [vs_rch, h1', h2', bI] using hQ
  · rw [hu a ha, bI_0] at h1
    rw [hu b hb, bI_0] at h2
    rw [hc a b ha hb, bI_n0] at h3
    have h1' : up a = true := by simpa using h1
    have h2' : up b = true := by simpa using h2
    refine hR _ _ ?_ (Or.inl rfl)
    simpa [vs_rch, h1', h2', h3, bI] using hQ
  · rw [hu a ha, bI_0] at h1
    rw [hu b hb, bI_0] at h2
    rw [hc a b ha hb, bI_0] at h3
    have h1' : up a = true := by simpa using h1
    have h2' : up b = true := by simpa using h2
    refine hR _ _ ?_ (Or.inr rfl)
    simpa [vs_rch, h1', h2', h3, bI] using hQ
