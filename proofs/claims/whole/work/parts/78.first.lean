/-! The first state -/
def jn_cs (X : jw_X0) : Nat × Nat := match X with
  | (_, _, _, _, _, _, _, _, _, cells, slots, _) => (cells, slots)
theorem jn_to_jw {l : Launch} {X : jw_X0} {A : Nat → Prop} {f : jw_F} {Z : Nat × Nat} {nC nS pc : Nat} {L : List (Option Value)} {S : List Value} {ws : va_W} {tys : jn_T} (G : jw_G) (M : jw_Mem) (hW : ws = jw_W (jw_g G) M) (hT : ∀ k kd n rs, jw_KT[k]? = some (kd, n, rs) → kd ≠ 0 → ∃ t : Nat, tys[t]? = some (G.2.1 k, jw_ty kd)) (hZ : jw_Z (jw_g G) A X.2.2.2.1 X.2.2.2.1.heap) (hcs : jn_cs X = Z) (h1 : nC ≤ Z.1) (h2 : nS ≤ Z.2) (h : jw_X l X (jw_g G) A f pc L S M) : jn_X l X G.1 A f Z nC nS pc L S ws tys := by
  obtain ⟨p, e, R, s, m, args, below, meth, c, cells, slots, Q⟩ := X
  intro C H locs ls hP hK hD hS hl
  subst hW
  have hcs' : (cells, slots) = Z := hcs
  subst hcs'
  have hKj : jw_K (jw_g G) s := ⟨hK.1, fun k kd n rs hk h0 => by
    obtain ⟨t, ht⟩ := hT k kd n rs hk h0
    exact hK.2 t _ ht⟩
  have hDj : jw_D (jw_g G) A := ⟨fun i j hi hj hij => hD.1 i j _ _ (jw_W_at hi) (jw_W_at hj) hij, fun k hk => hD.2 k _ (jw_W_at hk)⟩
  exact W.widen h1 h2 (h ⟨C.1, C.2.1, C.2.2.1, C.2.2.2.1, C.2.2.2.2.1, C.2.2.2.2.2.1, C.2.2.2.2.2.2.1, ⟨hKj, hZ, hDj⟩, C.2.2.2.2.2.2.2.2.1⟩ H locs ls hP hS hl)
theorem vs_n1 : ∀ j, j < 4 → (if (3 : Int32) < 1 + nI j then 3 else 1 + nI j) = nI (min (1 + j) 3) := by decide
theorem vs_n2 : ∀ j, j < 4 → ∀ k, k < 4 → (if nI (min (1 + j) 3) < 1 + nI k then nI (min (1 + j) 3) else 1 + nI k) = nI (min (min (1 + j) 3) (1 + k)) := by decide
theorem vs_n3 : ∀ j, j < 4 → (if nI j = 3 then (3 : Int32) else 1 + nI j) = nI (min (1 + j) 3) := by decide
theorem vs_n4 : ∀ j, j < 4 → ∀ k, k < 4 → (if nI (min (1 + j) 3) ≤ 1 + nI k then nI (min (1 + j) 3) else 1 + nI k) = nI (min (min (1 + j) 3) (1 + k)) := by decide
theorem vs_cnt_no : ∀ n, vs_cnt (fun _ => false) n = 0
  | 0 => rfl
  | n + 1 => by rw [vs_cnt_s, vs_cnt_no n]; rfl
def vs_0 (mo rd wr : Nat) : vs_S := (mo, rd, wr, fun _ => none, fun _ => true, fun _ _ => false, 0, fun _ => 0, fun _ => 0, fun _ => 0, fun _ => 0, fun _ _ => false, fun _ _ => none, fun _ => none, fun _ _ => 0, fun _ => false, 0)
theorem vs_first {M : jw_Mem} {x1 x2 x3 mo rd wr : Int32} (hmo : mo = if x1 &&& 3 = 3 then 3 else 1 + (x1 &&& 3)) (hrd : rd = if mo ≤ 1 + (x2 &&& 3) then mo else 1 + (x2 &&& 3)) (hwr : wr = if mo ≤ 1 + (x3 &&& 3) then mo else 1 + (x3 &&& 3))
    (c1 : M 1 0 = if 3 < 1 + (x1 &&& 3) then 3 else 1 + (x1 &&& 3)) (c05 : M 0 5 = if (if 3 < 1 + (x1 &&& 3) then 3 else 1 + (x1 &&& 3)) < 1 + (x2 &&& 3) then (if 3 < 1 + (x1 &&& 3) then 3 else 1 + (x1 &&& 3)) else 1 + (x2 &&& 3)) (c06 : M 0 6 = if (if 3 < 1 + (x1 &&& 3) then 3 else 1 + (x1 &&& 3)) < 1 + (x3 &&& 3) then (if 3 < 1 + (x1 &&& 3) then 3 else 1 + (x1 &&& 3)) else 1 + (x3 &&& 3))
    (c2 : ∀ p, p < 16 → M 2 p = -1) (c10 : ∀ a, a < 5 → M (10 + 3 * a) 3 = 1) (c34 : ∀ j, M 34 j = 0) (c44 : M 4 4 = 0) (c5 : ∀ j, M 5 j = 0) (c6 : ∀ j, M 6 j = 0) (c7 : ∀ j, M 7 j = 0) (c8 : ∀ j, M 8 j = 0) (c11 : ∀ a, a < 5 → ∀ u, M (11 + 3 * a) u = 0) (c12 : ∀ a, a < 5 → ∀ u, u < 40 → M (12 + 3 * a) u = -1) (c26 : ∀ c, c < 4 → M (26 + 2 * c) 1 = -1) (c27 : ∀ c, c < 4 → ∀ k, M (27 + 2 * c) k = 0) (c35 : ∀ u, M 35 u = 0) (c08 : M 0 8 = 0)
    (m0 : M 41 0 = mo) (m1 : M 41 1 = rd) (m2 : M 41 2 = wr) (m44 : ∀ j, M 44 j = 0) (m42 : ∀ j, M 42 j = 0) (m43 : ∀ j, M 43 j = 0) (m6 : M 41 6 = 0) (m45 : ∀ j, M 45 j = 0) (m46 : ∀ j, M 46 j = 0) (m47 : ∀ j, M 47 j = 0) (m48 : ∀ j, M 48 j = 0) (m49 : ∀ j, M 49 j = 0) (m50 : ∀ j, M 50 j = 0) (m53 : ∀ j, M 53 j = 0) (m18 : M 41 18 = 0) (m19 : M 41 19 = 0) : ∃ σ, vs_I σ M := by
  obtain ⟨j1, h1, e1⟩ := pk_andE x1 (m := 3) 2 (by decide)
  obtain ⟨j2, h2, e2⟩ := pk_andE x2 (m := 3) 2 (by decide)
  obtain ⟨j3, h3, e3⟩ := pk_andE x3 (m := 3) 2 (by decide)
  have h1' : j1 < 4 := h1
  have h2' : j2 < 4 := h2
  have h3' : j3 < 4 := h3
  rw [e1, vs_n3 j1 h1'] at hmo
  rw [hmo, e2, vs_n4 j1 h1' j2 h2'] at hrd
  rw [hmo, e3, vs_n4 j1 h1' j3 h3'] at hwr
  rw [e1, vs_n1 j1 h1'] at c1
  rw [e1, e2, vs_n1 j1 h1', vs_n2 j1 h1' j2 h2'] at c05
  rw [e1, e3, vs_n1 j1 h1', vs_n2 j1 h1' j3 h3'] at c06
  refine ⟨vs_0 (min (1 + j1) 3) (min (min (1 + j1) 3) (1 + j2)) (min (min (1 + j1) 3) (1 + j3)), ⟨⟨?_, ?_, ?_⟩, ?_, ?_, fun p o e => ?_, fun a u o e => ?_, fun c k e => ?_, fun c k e => rfl, fun u e => ?_⟩, ⟨⟨c1, c05, c06⟩, c2, c10, fun a b _ _ => c34 _, c44, ⟨fun u _ => c5 u, fun u _ => c6 u, fun u _ => c7 u, fun u _ => c8 u⟩, fun a u ha _ => c11 a ha u, fun a u ha hu => c12 a ha u hu, c26, fun c k hc _ => c27 c hc k, fun u _ => c35 u, c08⟩, ⟨⟨m0.trans hmo, m1.trans hrd, m2.trans hwr⟩, fun p _ => m44 p, fun a _ => m42 a, fun a b _ _ => m43 _, m6, ⟨fun u _ => m45 u, fun u _ => m46 u, fun u _ => m47 u, fun u _ => m48 u⟩, fun a u _ _ => m49 _, fun a u _ _ => m50 _, fun c _ => m53 c, fun c k _ e => ?_, fun c k _ _ e => absurd rfl e, ⟨?_, fun u _ e => ?_⟩, m19⟩⟩
  · show 1 ≤ min (1 + j1) 3
    omega
  · show min (min (1 + j1) 3) (1 + j2) ≤ 3
    omega
  · show min (min (1 + j1) 3) (1 + j3) ≤ 3
    omega
  · show min (1 + j1) 3 ≤ 3
    omega
  · show 0 ≤ 40
    omega
  · cases e
  · cases e
  · cases e
  · cases e
  · cases e
  · show M 41 18 = nI (vs_cnt (fun _ => false) 40)
    rw [vs_cnt_no]
    exact m18
  · cases e
