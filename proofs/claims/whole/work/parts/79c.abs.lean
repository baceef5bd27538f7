/-! The table's world as a list (by program: wip/whole/gen/world2.py) -/
abbrev lw_ws (cA : Nat → ClassId) (ad : Nat → Nat) (M : jw_Mem) : va_W := [(ad 0, .inr (0, [.ref (ad 1), .ref (ad 4), .ref (ad 9), .ref (ad 34), .ref (ad 25), .int (M 0 5), .int (M 0 6), .ref (ad 35), .int (M 0 8), .ref (ad 36), .int (M 0 10), .int (M 0 11), .ref (ad 37), .ref (ad 38), .ref (ad 39), .ref (ad 40)])), (ad 1, .inr (1, [.int (M 1 0), .ref (ad 2), .ref (ad 3), .int (M 1 3), .int (M 1 4)])), (ad 2, .inl (cA 2, 16, .inl (M 2))), (ad 3, .inl (cA 3, 5, .inl (M 3))), (ad 4, .inr (2, [.ref (ad 5), .ref (ad 6), .ref (ad 7), .ref (ad 8), .int (M 4 4)])), (ad 5, .inl (cA 5, 40, .inl (M 5))), (ad 6, .inl (cA 6, 40, .inl (M 6))), (ad 7, .inl (cA 7, 40, .inl (M 7))), (ad 8, .inl (cA 8, 200, .inl (M 8))), (ad 9, .inl (cA 9, 5, .inr (.inr (.inr (.inr (fun i => (([some 10, some 13, some 16, some 19, some 22] : List (Option Nat)).getD i none).map ad)))))), (ad 10, .inr (3, [.ref (ad 4), .ref (ad 11), .ref (ad 12), .int (M 10 3)])), (ad 11, .inl (cA 11, 40, .inl (M 11))), (ad 12, .inl (cA 12, 40, .inl (M 12))), (ad 13, .inr (3, [.ref (ad 4), .ref (ad 14), .ref (ad 15), .int (M 13 3)])), (ad 14, .inl (cA 14, 40, .inl (M 14))), (ad 15, .inl (cA 15, 40, .inl (M 15))), (ad 16, .inr (3, [.ref (ad 4), .ref (ad 17), .ref (ad 18), .int (M 16 3)])), (ad 17, .inl (cA 17, 40, .inl (M 17))), (ad 18, .inl (cA 18, 40, .inl (M 18))), (ad 19, .inr (3, [.ref (ad 4), .ref (ad 20), .ref (ad 21), .int (M 19 3)])), (ad 20, .inl (cA 20, 40, .inl (M 20))), (ad 21, .inl (cA 21, 40, .inl (M 21))), (ad 22, .inr (3, [.ref (ad 4), .ref (ad 23), .ref (ad 24), .int (M 22 3)])), (ad 23, .inl (cA 23, 40, .inl (M 23))), (ad 24, .inl (cA 24, 40, .inl (M 24))), (ad 25, .inl (cA 25, 4, .inr (.inr (.inr (.inr (fun i => (([some 26, some 28, some 30, some 32] : List (Option Nat)).getD i none).map ad)))))), (ad 26, .inr (4, [.ref (ad 27), .int (M 26 1)])), (ad 27, .inl (cA 27, 5, .inl (M 27))), (ad 28, .inr (4, [.ref (ad 29), .int (M 28 1)])), (ad 29, .inl (cA 29, 5, .inl (M 29))), (ad 30, .inr (4, [.ref (ad 31), .int (M 30 1)])), (ad 31, .inl (cA 31, 5, .inl (M 31))), (ad 32, .inr (4, [.ref (ad 33), .int (M 32 1)])), (ad 33, .inl (cA 33, 5, .inl (M 33))), (ad 34, .inl (cA 34, 25, .inl (M 34))), (ad 35, .inl (cA 35, 40, .inl (M 35))), (ad 36, .inl (cA 36, 5, .inl (M 36))), (ad 37, .inl (cA 37, 40, .inl (M 37))), (ad 38, .inl (cA 38, 40, .inl (M 38))), (ad 39, .inl (cA 39, 40, .inl (M 39))), (ad 40, .inl (cA 40, 32, .inl (M 40))), (ad 41, .inr (5, [.int (M 41 0), .int (M 41 1), .int (M 41 2), .ref (ad 42), .ref (ad 43), .ref (ad 44), .int (M 41 6), .ref (ad 45), .ref (ad 46), .ref (ad 47), .ref (ad 48), .ref (ad 49), .ref (ad 50), .ref (ad 51), .ref (ad 52), .ref (ad 53), .ref (ad 54), .ref (ad 55), .int (M 41 18), .int (M 41 19), .ref (ad 56), .int (M 41 21), .ref (ad 57), .int (M 41 23)])), (ad 42, .inl (cA 42, 5, .inl (M 42))), (ad 43, .inl (cA 43, 25, .inl (M 43))), (ad 44, .inl (cA 44, 16, .inl (M 44))), (ad 45, .inl (cA 45, 40, .inl (M 45))), (ad 46, .inl (cA 46, 40, .inl (M 46))), (ad 47, .inl (cA 47, 40, .inl (M 47))), (ad 48, .inl (cA 48, 200, .inl (M 48))), (ad 49, .inl (cA 49, 200, .inl (M 49))), (ad 50, .inl (cA 50, 200, .inl (M 50))), (ad 51, .inl (cA 51, 80, .inl (M 51))), (ad 52, .inl (cA 52, 4, .inl (M 52))), (ad 53, .inl (cA 53, 4, .inl (M 53))), (ad 54, .inl (cA 54, 20, .inl (M 54))), (ad 55, .inl (cA 55, 40, .inl (M 55))), (ad 56, .inl (cA 56, 5, .inl (M 56))), (ad 57, .inl (cA 57, 5, .inl (M 57)))]
abbrev lw_ty (cA : Nat → ClassId) : jn_T := [(cA 2, .int), (cA 3, .int), (cA 5, .int), (cA 6, .int), (cA 7, .int), (cA 8, .int), (cA 9, .object R_N), (cA 11, .boolean), (cA 12, .int), (cA 14, .boolean), (cA 15, .int), (cA 17, .boolean), (cA 18, .int), (cA 20, .boolean), (cA 21, .int), (cA 23, .boolean), (cA 24, .int), (cA 25, .object R_C), (cA 27, .int), (cA 29, .int), (cA 31, .int), (cA 33, .int), (cA 34, .boolean), (cA 35, .boolean), (cA 36, .int), (cA 37, .boolean), (cA 38, .boolean), (cA 39, .boolean), (cA 40, .boolean), (cA 42, .boolean), (cA 43, .boolean), (cA 44, .int), (cA 45, .int), (cA 46, .int), (cA 47, .int), (cA 48, .int), (cA 49, .boolean), (cA 50, .int), (cA 51, .boolean), (cA 52, .int), (cA 53, .boolean), (cA 54, .int), (cA 55, .int), (cA 56, .int), (cA 57, .int)]
set_option maxRecDepth 100000 in
set_option maxHeartbeats 4000000 in
theorem law_list (D : va_G) (cA : Nat → ClassId) (ad : Nat → Nat) (t : Nat) (M : jw_Mem) : ∀ k : Nat, (lw_ws cA ad M)[k]? = (jw_W (jw_g (D, cA, ad, t)) M)[k]?
  | 0 => (law_c0 D cA ad t M).symm
  | 1 => (law_c1 D cA ad t M).symm
  | 2 => (law_c2 D cA ad t M).symm
  | 3 => (law_c3 D cA ad t M).symm
  | 4 => (law_c4 D cA ad t M).symm
  | 5 => (law_c5 D cA ad t M).symm
  | 6 => (law_c6 D cA ad t M).symm
  | 7 => (law_c7 D cA ad t M).symm
  | 8 => (law_c8 D cA ad t M).symm
  | 9 => (law_c9 D cA ad t M).symm
  | 10 => (law_c10 D cA ad t M).symm
  | 11 => (law_c11 D cA ad t M).symm
  | 12 => (law_c12 D cA ad t M).symm
  | 13 => (law_c13 D cA ad t M).symm
  | 14 => (law_c14 D cA ad t M).symm
  | 15 => (law_c15 D cA ad t M).symm
  | 16 => (law_c16 D cA ad t M).symm
  | 17 => (law_c17 D cA ad t M).symm
  | 18 => (law_c18 D cA ad t M).symm
  | 19 => (law_c19 D cA ad t M).symm
  | 20 => (law_c20 D cA ad t M).symm
  | 21 => (law_c21 D cA ad t M).symm
  | 22 => (law_c22 D cA ad t M).symm
  | 23 => (law_c23 D cA ad t M).symm
  | 24 => (law_c24 D cA ad t M).symm
  | 25 => (law_c25 D cA ad t M).symm
  | 26 => (law_c26 D cA ad t M).symm
  | 27 => (law_c27 D cA ad t M).symm
  | 28 => (law_c28 D cA ad t M).symm
  | 29 => (law_c29 D cA ad t M).symm
  | 30 => (law_c30 D cA ad t M).symm
  | 31 => (law_c31 D cA ad t M).symm
  | 32 => (law_c32 D cA ad t M).symm
  | 33 => (law_c33 D cA ad t M).symm
  | 34 => (law_c34 D cA ad t M).symm
  | 35 => (law_c35 D cA ad t M).symm
  | 36 => (law_c36 D cA ad t M).symm
  | 37 => (law_c37 D cA ad t M).symm
  | 38 => (law_c38 D cA ad t M).symm
  | 39 => (law_c39 D cA ad t M).symm
  | 40 => (law_c40 D cA ad t M).symm
  | 41 => (law_c41 D cA ad t M).symm
  | 42 => (law_c42 D cA ad t M).symm
  | 43 => (law_c43 D cA ad t M).symm
  | 44 => (law_c44 D cA ad t M).symm
  | 45 => (law_c45 D cA ad t M).symm
  | 46 => (law_c46 D cA ad t M).symm
  | 47 => (law_c47 D cA ad t M).symm
  | 48 => (law_c48 D cA ad t M).symm
  | 49 => (law_c49 D cA ad t M).symm
  | 50 => (law_c50 D cA ad t M).symm
  | 51 => (law_c51 D cA ad t M).symm
  | 52 => (law_c52 D cA ad t M).symm
  | 53 => (law_c53 D cA ad t M).symm
  | 54 => (law_c54 D cA ad t M).symm
  | 55 => (law_c55 D cA ad t M).symm
  | 56 => (law_c56 D cA ad t M).symm
  | 57 => (law_c57 D cA ad t M).symm
  | k + 58 => by
    rw [List.getElem?_eq_none (show (lw_ws cA ad M).length ≤ k + 58 from Nat.le_add_left 58 k), List.getElem?_eq_none (by unfold jw_W; rw [List.length_map, List.length_range]; exact Nat.le_add_left 58 k)]
set_option maxRecDepth 100000 in
set_option maxHeartbeats 4000000 in
theorem law_tya (cA : Nat → ClassId) : ∀ k kd n rs, jw_KT[k]? = some (kd, n, rs) → kd ≠ 0 → ∃ t : Nat, (lw_ty cA)[t]? = some (cA k, jw_ty kd)
  | 0, _, _, _, h, h0 => by have h' := Option.some.inj ((show jw_KT[0]? = some (0, 0, [some 1, some 4, some 9, some 34, some 25, none, none, some 35, none, some 36, none, none, some 37, some 38, some 39, some 40]) from rfl).symm.trans h); cases h'; exact absurd rfl h0
  | 1, _, _, _, h, h0 => by have h' := Option.some.inj ((show jw_KT[1]? = some (0, 1, [none, some 2, some 3, none, none]) from rfl).symm.trans h); cases h'; exact absurd rfl h0
  | 2, _, _, _, h, _ => by have h' := Option.some.inj ((show jw_KT[2]? = some (1, 16, []) from rfl).symm.trans h); cases h'; exact ⟨0, rfl⟩
  | 3, _, _, _, h, _ => by have h' := Option.some.inj ((show jw_KT[3]? = some (1, 5, []) from rfl).symm.trans h); cases h'; exact ⟨1, rfl⟩
  | 4, _, _, _, h, h0 => by have h' := Option.some.inj ((show jw_KT[4]? = some (0, 2, [some 5, some 6, some 7, some 8, none]) from rfl).symm.trans h); cases h'; exact absurd rfl h0
  | 5, _, _, _, h, _ => by have h' := Option.some.inj ((show jw_KT[5]? = some (1, 40, []) from rfl).symm.trans h); cases h'; exact ⟨2, rfl⟩
  | 6, _, _, _, h, _ => by have h' := Option.some.inj ((show jw_KT[6]? = some (1, 40, []) from rfl).symm.trans h); cases h'; exact ⟨3, rfl⟩
  | 7, _, _, _, h, _ => by have h' := Option.some.inj ((show jw_KT[7]? = some (1, 40, []) from rfl).symm.trans h); cases h'; exact ⟨4, rfl⟩
  | 8, _, _, _, h, _ => by have h' := Option.some.inj ((show jw_KT[8]? = some (1, 200, []) from rfl).symm.trans h); cases h'; exact ⟨5, rfl⟩
  | 9, _, _, _, h, _ => by have h' := Option.some.inj ((show jw_KT[9]? = some (3, 5, [some 10, some 13, some 16, some 19, some 22]) from rfl).symm.trans h); cases h'; exact ⟨6, rfl⟩
  | 10, _, _, _, h, h0 => by have h' := Option.some.inj ((show jw_KT[10]? = some (0, 3, [some 4, some 11, some 12, none]) from rfl).symm.trans h); cases h'; exact absurd rfl h0
  | 11, _, _, _, h, _ => by have h' := Option.some.inj ((show jw_KT[11]? = some (2, 40, []) from rfl).symm.trans h); cases h'; exact ⟨7, rfl⟩
  | 12, _, _, _, h, _ => by have h' := Option.some.inj ((show jw_KT[12]? = some (1, 40, []) from rfl).symm.trans h); cases h'; exact ⟨8, rfl⟩
  | 13, _, _, _, h, h0 => by have h' := Option.some.inj ((show jw_KT[13]? = some (0, 3, [some 4, some 14, some 15, none]) from rfl).symm.trans h); cases h'; exact absurd rfl h0
  | 14, _, _, _, h, _ => by have h' := Option.some.inj ((show jw_KT[14]? = some (2, 40, []) from rfl).symm.trans h); cases h'; exact ⟨9, rfl⟩
  | 15, _, _, _, h, _ => by have h' := Option.some.inj ((show jw_KT[15]? = some (1, 40, []) from rfl).symm.trans h); cases h'; exact ⟨10, rfl⟩
  | 16, _, _, _, h, h0 => by have h' := Option.some.inj ((show jw_KT[16]? = some (0, 3, [some 4, some 17, some 18, none]) from rfl).symm.trans h); cases h'; exact absurd rfl h0
  | 17, _, _, _, h, _ => by have h' := Option.some.inj ((show jw_KT[17]? = some (2, 40, []) from rfl).symm.trans h); cases h'; exact ⟨11, rfl⟩
  | 18, _, _, _, h, _ => by have h' := Option.some.inj ((show jw_KT[18]? = some (1, 40, []) from rfl).symm.trans h); cases h'; exact ⟨12, rfl⟩
  | 19, _, _, _, h, h0 => by have h' := Option.some.inj ((show jw_KT[19]? = some (0, 3, [some 4, some 20, some 21, none]) from rfl).symm.trans h); cases h'; exact absurd rfl h0
  | 20, _, _, _, h, _ => by have h' := Option.some.inj ((show jw_KT[20]? = some (2, 40, []) from rfl).symm.trans h); cases h'; exact ⟨13, rfl⟩
  | 21, _, _, _, h, _ => by have h' := Option.some.inj ((show jw_KT[21]? = some (1, 40, []) from rfl).symm.trans h); cases h'; exact ⟨14, rfl⟩
  | 22, _, _, _, h, h0 => by have h' := Option.some.inj ((show jw_KT[22]? = some (0, 3, [some 4, some 23, some 24, none]) from rfl).symm.trans h); cases h'; exact absurd rfl h0
  | 23, _, _, _, h, _ => by have h' := Option.some.inj ((show jw_KT[23]? = some (2, 40, []) from rfl).symm.trans h); cases h'; exact ⟨15, rfl⟩
  | 24, _, _, _, h, _ => by have h' := Option.some.inj ((show jw_KT[24]? = some (1, 40, []) from rfl).symm.trans h); cases h'; exact ⟨16, rfl⟩
  | 25, _, _, _, h, _ => by have h' := Option.some.inj ((show jw_KT[25]? = some (4, 4, [some 26, some 28, some 30, some 32]) from rfl).symm.trans h); cases h'; exact ⟨17, rfl⟩
  | 26, _, _, _, h, h0 => by have h' := Option.some.inj ((show jw_KT[26]? = some (0, 4, [some 27, none]) from rfl).symm.trans h); cases h'; exact absurd rfl h0
  | 27, _, _, _, h, _ => by have h' := Option.some.inj ((show jw_KT[27]? = some (1, 5, []) from rfl).symm.trans h); cases h'; exact ⟨18, rfl⟩
  | 28, _, _, _, h, h0 => by have h' := Option.some.inj ((show jw_KT[28]? = some (0, 4, [some 29, none]) from rfl).symm.trans h); cases h'; exact absurd rfl h0
  | 29, _, _, _, h, _ => by have h' := Option.some.inj ((show jw_KT[29]? = some (1, 5, []) from rfl).symm.trans h); cases h'; exact ⟨19, rfl⟩
  | 30, _, _, _, h, h0 => by have h' := Option.some.inj ((show jw_KT[30]? = some (0, 4, [some 31, none]) from rfl).symm.trans h); cases h'; exact absurd rfl h0
  | 31, _, _, _, h, _ => by have h' := Option.some.inj ((show jw_KT[31]? = some (1, 5, []) from rfl).symm.trans h); cases h'; exact ⟨20, rfl⟩
  | 32, _, _, _, h, h0 => by have h' := Option.some.inj ((show jw_KT[32]? = some (0, 4, [some 33, none]) from rfl).symm.trans h); cases h'; exact absurd rfl h0
  | 33, _, _, _, h, _ => by have h' := Option.some.inj ((show jw_KT[33]? = some (1, 5, []) from rfl).symm.trans h); cases h'; exact ⟨21, rfl⟩
  | 34, _, _, _, h, _ => by have h' := Option.some.inj ((show jw_KT[34]? = some (2, 25, []) from rfl).symm.trans h); cases h'; exact ⟨22, rfl⟩
  | 35, _, _, _, h, _ => by have h' := Option.some.inj ((show jw_KT[35]? = some (2, 40, []) from rfl).symm.trans h); cases h'; exact ⟨23, rfl⟩
  | 36, _, _, _, h, _ => by have h' := Option.some.inj ((show jw_KT[36]? = some (1, 5, []) from rfl).symm.trans h); cases h'; exact ⟨24, rfl⟩
  | 37, _, _, _, h, _ => by have h' := Option.some.inj ((show jw_KT[37]? = some (2, 40, []) from rfl).symm.trans h); cases h'; exact ⟨25, rfl⟩
  | 38, _, _, _, h, _ => by have h' := Option.some.inj ((show jw_KT[38]? = some (2, 40, []) from rfl).symm.trans h); cases h'; exact ⟨26, rfl⟩
  | 39, _, _, _, h, _ => by have h' := Option.some.inj ((show jw_KT[39]? = some (2, 40, []) from rfl).symm.trans h); cases h'; exact ⟨27, rfl⟩
  | 40, _, _, _, h, _ => by have h' := Option.some.inj ((show jw_KT[40]? = some (2, 32, []) from rfl).symm.trans h); cases h'; exact ⟨28, rfl⟩
  | 41, _, _, _, h, h0 => by have h' := Option.some.inj ((show jw_KT[41]? = some (0, 5, [none, none, none, some 42, some 43, some 44, none, some 45, some 46, some 47, some 48, some 49, some 50, some 51, some 52, some 53, some 54, some 55, none, none, some 56, none, some 57, none]) from rfl).symm.trans h); cases h'; exact absurd rfl h0
  | 42, _, _, _, h, _ => by have h' := Option.some.inj ((show jw_KT[42]? = some (2, 5, []) from rfl).symm.trans h); cases h'; exact ⟨29, rfl⟩
  | 43, _, _, _, h, _ => by have h' := Option.some.inj ((show jw_KT[43]? = some (2, 25, []) from rfl).symm.trans h); cases h'; exact ⟨30, rfl⟩
  | 44, _, _, _, h, _ => by have h' := Option.some.inj ((show jw_KT[44]? = some (1, 16, []) from rfl).symm.trans h); cases h'; exact ⟨31, rfl⟩
  | 45, _, _, _, h, _ => by have h' := Option.some.inj ((show jw_KT[45]? = some (1, 40, []) from rfl).symm.trans h); cases h'; exact ⟨32, rfl⟩
  | 46, _, _, _, h, _ => by have h' := Option.some.inj ((show jw_KT[46]? = some (1, 40, []) from rfl).symm.trans h); cases h'; exact ⟨33, rfl⟩
  | 47, _, _, _, h, _ => by have h' := Option.some.inj ((show jw_KT[47]? = some (1, 40, []) from rfl).symm.trans h); cases h'; exact ⟨34, rfl⟩
  | 48, _, _, _, h, _ => by have h' := Option.some.inj ((show jw_KT[48]? = some (1, 200, []) from rfl).symm.trans h); cases h'; exact ⟨35, rfl⟩
  | 49, _, _, _, h, _ => by have h' := Option.some.inj ((show jw_KT[49]? = some (2, 200, []) from rfl).symm.trans h); cases h'; exact ⟨36, rfl⟩
  | 50, _, _, _, h, _ => by have h' := Option.some.inj ((show jw_KT[50]? = some (1, 200, []) from rfl).symm.trans h); cases h'; exact ⟨37, rfl⟩
  | 51, _, _, _, h, _ => by have h' := Option.some.inj ((show jw_KT[51]? = some (2, 80, []) from rfl).symm.trans h); cases h'; exact ⟨38, rfl⟩
  | 52, _, _, _, h, _ => by have h' := Option.some.inj ((show jw_KT[52]? = some (1, 4, []) from rfl).symm.trans h); cases h'; exact ⟨39, rfl⟩
  | 53, _, _, _, h, _ => by have h' := Option.some.inj ((show jw_KT[53]? = some (2, 4, []) from rfl).symm.trans h); cases h'; exact ⟨40, rfl⟩
  | 54, _, _, _, h, _ => by have h' := Option.some.inj ((show jw_KT[54]? = some (1, 20, []) from rfl).symm.trans h); cases h'; exact ⟨41, rfl⟩
  | 55, _, _, _, h, _ => by have h' := Option.some.inj ((show jw_KT[55]? = some (1, 40, []) from rfl).symm.trans h); cases h'; exact ⟨42, rfl⟩
  | 56, _, _, _, h, _ => by have h' := Option.some.inj ((show jw_KT[56]? = some (1, 5, []) from rfl).symm.trans h); cases h'; exact ⟨43, rfl⟩
  | 57, _, _, _, h, _ => by have h' := Option.some.inj ((show jw_KT[57]? = some (1, 5, []) from rfl).symm.trans h); cases h'; exact ⟨44, rfl⟩
  | k + 58, _, _, _, h, _ => by
    rw [List.getElem?_eq_none (show jw_KT.length ≤ k + 58 from Nat.le_add_left 58 k)] at h
    cases h
set_option maxRecDepth 100000 in
set_option maxHeartbeats 4000000 in
theorem law_abs {l : Launch} {X : jw_X0} {D : va_G} {A : Nat → Prop} {b t nC nS : Nat} (hcs : jn_cs X = (600000, 7302250)) (hZ : ∀ G : jw_G, G.2.2.2 = t → jw_Z (jw_g G) A X.2.2.2.1 X.2.2.2.1.heap) (h : ∀ (G : jw_G) (σ : vs_S) (M : jw_Mem), vs_I σ M → jw_X l X (jw_g G) A f_L_law 48 [some (.ref b), some (jw_a G 0), some (jw_a G 41), some (.int (nI 3))] [] M) (h1 : nC ≤ 600000) (h2 : nS ≤ 7302250) (cA : Nat → ClassId) (ad : Nat → Nat) (M : jw_Mem) (hI : ∃ σ, vs_I σ M) : jn_X l X D A f_L_law (600000, 7302250) nC nS 48 [some (.ref b), some (.ref (ad 0)), some (.ref (ad 41)), some (.int 3)] [] (lw_ws cA ad M) (lw_ty cA) := by
  obtain ⟨σ, hσ⟩ := hI
  exact jn_to_jw (G := (D, cA, ad, t)) M (List.ext_getElem? (law_list D cA ad t M)) (law_tya cA) (hZ _ rfl) hcs h1 h2 (h (D, cA, ad, t) σ M hσ)
