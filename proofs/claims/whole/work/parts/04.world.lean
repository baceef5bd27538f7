/-! The cells of the two systems: 0 the class, 1 its ring (2 owners, 3 list), 4 its log (5 keys, 6 values, 7 authors, 8 clocks), 9 nodes, 10 + 3 a node a (11 + 3 a has, 12 + 3 a hintFor), 25 contexts, 26 + 2 a context a (27 + 2 a clock), 34 cuts, 35 latest, 36 aims, 37 seen, 38 ones, 39 others, 40 differs; 41 the reference (42 down, 43 severed, 44 ring, 45 keyOf, 46 valueOf, 47 writer, 48 clock, 49 has, 50 hint, 51 before, 52 contextKey, 53 contextSet, 54 contextClock, 55 lately, 56 row, 57 aims) -/
def jw_KT : List (Nat × Nat × List (Option Nat)) := [(0, 0, [some 1, some 4, some 9, some 34, some 25, none, none, some 35, none, some 36, none, none, some 37, some 38, some 39, some 40]), (0, 1, [none, some 2, some 3, none, none]), (1, 16, []), (1, 5, []), (0, 2, [some 5, some 6, some 7, some 8, none]), (1, 40, []), (1, 40, []), (1, 40, []), (1, 200, []), (3, 5, [some 10, some 13, some 16, some 19, some 22]), (0, 3, [some 4, some 11, some 12, none]), (2, 40, []), (1, 40, []), (0, 3, [some 4, some 14, some 15, none]), (2, 40, []), (1, 40, []), (0, 3, [some 4, some 17, some 18, none]), (2, 40, []), (1, 40, []), (0, 3, [some 4, some 20, some 21, none]), (2, 40, []), (1, 40, []), (0, 3, [some 4, some 23, some 24, none]), (2, 40, []), (1, 40, []), (4, 4, [some 26, some 28, some 30, some 32]), (0, 4, [some 27, none]), (1, 5, []), (0, 4, [some 29, none]), (1, 5, []), (0, 4, [some 31, none]), (1, 5, []), (0, 4, [some 33, none]), (1, 5, []), (2, 25, []), (2, 40, []), (1, 5, []), (2, 40, []), (2, 40, []), (2, 40, []), (2, 32, []), (0, 5, [none, none, none, some 42, some 43, some 44, none, some 45, some 46, some 47, some 48, some 49, some 50, some 51, some 52, some 53, some 54, some 55, none, none, some 56, none, some 57, none]), (2, 5, []), (2, 25, []), (1, 16, []), (1, 40, []), (1, 40, []), (1, 40, []), (1, 200, []), (2, 200, []), (1, 200, []), (2, 80, []), (1, 4, []), (2, 4, []), (1, 20, []), (1, 40, []), (1, 5, []), (1, 5, [])]
def jw_g (G : jw_G) : jw_E := (G.1, G.2.1, G.2.2.1, jw_KT, some G.2.2.2)
abbrev jw_a (G : jw_G) (k : Nat) : Value := .ref ((jw_g G).2.2.1 k)
theorem jw_k0 : jw_KT[0]? = some (0, 0, [some 1, some 4, some 9, some 34, some 25, none, none, some 35, none, some 36, none, none, some 37, some 38, some 39, some 40]) := rfl
theorem jw_k1 : jw_KT[1]? = some (0, 1, [none, some 2, some 3, none, none]) := rfl
theorem jw_k2 : jw_KT[2]? = some (1, 16, []) := rfl
theorem jw_k3 : jw_KT[3]? = some (1, 5, []) := rfl
theorem jw_k4 : jw_KT[4]? = some (0, 2, [some 5, some 6, some 7, some 8, none]) := rfl
theorem jw_k5 : jw_KT[5]? = some (1, 40, []) := rfl
theorem jw_k6 : jw_KT[6]? = some (1, 40, []) := rfl
theorem jw_k7 : jw_KT[7]? = some (1, 40, []) := rfl
theorem jw_k8 : jw_KT[8]? = some (1, 200, []) := rfl
theorem jw_k9 : jw_KT[9]? = some (3, 5, [some 10, some 13, some 16, some 19, some 22]) := rfl
theorem jw_k25 : jw_KT[25]? = some (4, 4, [some 26, some 28, some 30, some 32]) := rfl
theorem jw_k34 : jw_KT[34]? = some (2, 25, []) := rfl
theorem jw_k35 : jw_KT[35]? = some (2, 40, []) := rfl
theorem jw_k36 : jw_KT[36]? = some (1, 5, []) := rfl
theorem jw_k37 : jw_KT[37]? = some (2, 40, []) := rfl
theorem jw_k38 : jw_KT[38]? = some (2, 40, []) := rfl
theorem jw_k39 : jw_KT[39]? = some (2, 40, []) := rfl
theorem jw_k40 : jw_KT[40]? = some (2, 32, []) := rfl
theorem jw_k41 : jw_KT[41]? = some (0, 5, [none, none, none, some 42, some 43, some 44, none, some 45, some 46, some 47, some 48, some 49, some 50, some 51, some 52, some 53, some 54, some 55, none, none, some 56, none, some 57, none]) := rfl
theorem jw_k42 : jw_KT[42]? = some (2, 5, []) := rfl
theorem jw_k43 : jw_KT[43]? = some (2, 25, []) := rfl
theorem jw_k44 : jw_KT[44]? = some (1, 16, []) := rfl
theorem jw_k45 : jw_KT[45]? = some (1, 40, []) := rfl
theorem jw_k46 : jw_KT[46]? = some (1, 40, []) := rfl
theorem jw_k47 : jw_KT[47]? = some (1, 40, []) := rfl
theorem jw_k48 : jw_KT[48]? = some (1, 200, []) := rfl
theorem jw_k49 : jw_KT[49]? = some (2, 200, []) := rfl
theorem jw_k50 : jw_KT[50]? = some (1, 200, []) := rfl
theorem jw_k51 : jw_KT[51]? = some (2, 80, []) := rfl
theorem jw_k52 : jw_KT[52]? = some (1, 4, []) := rfl
theorem jw_k53 : jw_KT[53]? = some (2, 4, []) := rfl
theorem jw_k54 : jw_KT[54]? = some (1, 20, []) := rfl
theorem jw_k55 : jw_KT[55]? = some (1, 40, []) := rfl
theorem jw_k56 : jw_KT[56]? = some (1, 5, []) := rfl
theorem jw_k57 : jw_KT[57]? = some (1, 5, []) := rfl
theorem jw_kN : ∀ {a : Nat}, a < 5 → jw_KT[10 + 3 * a]? = some (0, 3, [some 4, some (11 + 3 * a), some (12 + 3 * a), none])
  | 0, _ => rfl
  | 1, _ => rfl
  | 2, _ => rfl
  | 3, _ => rfl
  | 4, _ => rfl
  | a + 5, h => absurd h (by omega)
theorem jw_kH : ∀ {a : Nat}, a < 5 → jw_KT[11 + 3 * a]? = some (2, 40, [])
  | 0, _ => rfl
  | 1, _ => rfl
  | 2, _ => rfl
  | 3, _ => rfl
  | 4, _ => rfl
  | a + 5, h => absurd h (by omega)
theorem jw_kI : ∀ {a : Nat}, a < 5 → jw_KT[12 + 3 * a]? = some (1, 40, [])
  | 0, _ => rfl
  | 1, _ => rfl
  | 2, _ => rfl
  | 3, _ => rfl
  | 4, _ => rfl
  | a + 5, h => absurd h (by omega)
theorem jw_kC : ∀ {a : Nat}, a < 4 → jw_KT[26 + 2 * a]? = some (0, 4, [some (27 + 2 * a), none])
  | 0, _ => rfl
  | 1, _ => rfl
  | 2, _ => rfl
  | 3, _ => rfl
  | a + 4, h => absurd h (by omega)
theorem jw_kK : ∀ {a : Nat}, a < 4 → jw_KT[27 + 2 * a]? = some (1, 5, [])
  | 0, _ => rfl
  | 1, _ => rfl
  | 2, _ => rfl
  | 3, _ => rfl
  | a + 4, h => absurd h (by omega)
theorem jw_uw_V : ∀ w ∈ u_ws R_V T_V 16, w ∈ lw_tbl := by decide +kernel
theorem jw_ug_V : ∀ w ∈ u_ws R_V T_V 16, goodWord w = true := by decide +kernel
theorem jw_uw_R : ∀ w ∈ u_ws R_R T_R 5, w ∈ lw_tbl := by decide +kernel
theorem jw_ug_R : ∀ w ∈ u_ws R_R T_R 5, goodWord w = true := by decide +kernel
theorem jw_uw_G : ∀ w ∈ u_ws R_G T_G 5, w ∈ lw_tbl := by decide +kernel
theorem jw_ug_G : ∀ w ∈ u_ws R_G T_G 5, goodWord w = true := by decide +kernel
theorem jw_uw_N : ∀ w ∈ u_ws R_N T_N 4, w ∈ lw_tbl := by decide +kernel
theorem jw_ug_N : ∀ w ∈ u_ws R_N T_N 4, goodWord w = true := by decide +kernel
theorem jw_uw_C : ∀ w ∈ u_ws R_C T_C 2, w ∈ lw_tbl := by decide +kernel
theorem jw_ug_C : ∀ w ∈ u_ws R_C T_C 2, goodWord w = true := by decide +kernel
theorem jw_uw_M : ∀ w ∈ u_ws R_M T_M 24, w ∈ lw_tbl := by decide +kernel
theorem jw_ug_M : ∀ w ∈ u_ws R_M T_M 24, goodWord w = true := by decide +kernel
theorem jw_c_V : vwCl[0]? = some (R_V, T_V, 16) := rfl
theorem jw_oc_V : jw_okC R_V T_V 16 ty_V := ⟨fun w hw => jw_in (jw_uw_V w hw) (jw_ug_V w hw), by decide +kernel, by decide +kernel⟩
theorem jw_c_R : vwCl[1]? = some (R_R, T_R, 5) := rfl
theorem jw_oc_R : jw_okC R_R T_R 5 ty_R := ⟨fun w hw => jw_in (jw_uw_R w hw) (jw_ug_R w hw), by decide +kernel, by decide +kernel⟩
theorem jw_c_G : vwCl[2]? = some (R_G, T_G, 5) := rfl
theorem jw_oc_G : jw_okC R_G T_G 5 ty_G := ⟨fun w hw => jw_in (jw_uw_G w hw) (jw_ug_G w hw), by decide +kernel, by decide +kernel⟩
theorem jw_c_N : vwCl[3]? = some (R_N, T_N, 4) := rfl
theorem jw_oc_N : jw_okC R_N T_N 4 ty_N := ⟨fun w hw => jw_in (jw_uw_N w hw) (jw_ug_N w hw), by decide +kernel, by decide +kernel⟩
theorem jw_c_C : vwCl[4]? = some (R_C, T_C, 2) := rfl
theorem jw_oc_C : jw_okC R_C T_C 2 ty_C := ⟨fun w hw => jw_in (jw_uw_C w hw) (jw_ug_C w hw), by decide +kernel, by decide +kernel⟩
theorem jw_c_M : vwCl[5]? = some (R_M, T_M, 24) := rfl
theorem jw_oc_M : jw_okC R_M T_M 24 ty_M := ⟨fun w hw => jw_in (jw_uw_M w hw) (jw_ug_M w hw), by decide +kernel, by decide +kernel⟩
theorem jw_noN : ∀ {a : Nat}, a < 5 → ([some 10, some 13, some 16, some 19, some 22] : List (Option Nat))[a]? = some (some (10 + 3 * a))
  | 0, _ => rfl
  | 1, _ => rfl
  | 2, _ => rfl
  | 3, _ => rfl
  | 4, _ => rfl
  | a + 5, h => absurd h (by omega)
theorem jw_noC : ∀ {a : Nat}, a < 4 → ([some 26, some 28, some 30, some 32] : List (Option Nat))[a]? = some (some (26 + 2 * a))
  | 0, _ => rfl
  | 1, _ => rfl
  | 2, _ => rfl
  | 3, _ => rfl
  | a + 4, h => absurd h (by omega)
theorem jw_aaldN {l : Launch} {X : jw_X0} {G : jw_G} {A : Nat → Prop} {f : jw_F} {pc : Nat} {L : List (Option Value)} {S : List Value} {M : jw_Mem} {a : Nat} {i : Int32} (hd : decode f.2.1 pc = .ok (.aaload, 1)) (ha : a < 5 ∧ i = nI a) (h : jw_X l X (jw_g G) A f (pc + 1) L (jw_a G (10 + 3 * a) :: S) M) : jw_X l X (jw_g G) A f pc L (.int i :: jw_a G 9 :: S) M := jw_aald3 (E := jw_g G) (k := 9) (t := 10 + 3 * a) hd jw_k9 (jw_inb (by decide) ha) (by rw [jw_cl (n := 5) (by decide) ha]; exact jw_noN ha.1) h
theorem jw_aaldC {l : Launch} {X : jw_X0} {G : jw_G} {A : Nat → Prop} {f : jw_F} {pc : Nat} {L : List (Option Value)} {S : List Value} {M : jw_Mem} {a : Nat} {i : Int32} (hd : decode f.2.1 pc = .ok (.aaload, 1)) (ha : a < 4 ∧ i = nI a) (h : jw_X l X (jw_g G) A f (pc + 1) L (jw_a G (26 + 2 * a) :: S) M) : jw_X l X (jw_g G) A f pc L (.int i :: jw_a G 25 :: S) M := jw_aald4 (E := jw_g G) (k := 25) (t := 26 + 2 * a) hd jw_k25 (jw_inb (by decide) ha) (by rw [jw_cl (n := 4) (by decide) ha]; exact jw_noC ha.1) h
