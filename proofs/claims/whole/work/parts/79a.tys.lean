/-! The first world: the arrays' classes (by program: wip/whole/gen/world.py) -/
set_option maxRecDepth 100000 in
set_option maxHeartbeats 4000000 in
theorem law_tys (q1 : Nat) (q3 : Nat) (q4 : Nat) (c5 : ClassId) (m6 : Nat → Int32) (q7 : Nat) (c8 : ClassId) (q9 : Nat) (q10 : Nat) (c11 : ClassId) (q12 : Nat) (c13 : ClassId) (q14 : Nat) (c15 : ClassId) (q16 : Nat) (c17 : ClassId) (q18 : Nat) (c19 : ClassId) (q20 : Nat) (q21 : Nat) (c22 : ClassId) (q23 : Nat) (c24 : ClassId) (m25 : Nat → Int32) (q26 : Nat) (q27 : Nat) (c28 : ClassId) (q29 : Nat) (c30 : ClassId) (m31 : Nat → Int32) (q32 : Nat) (q33 : Nat) (c34 : ClassId) (q35 : Nat) (c36 : ClassId) (m37 : Nat → Int32) (q38 : Nat) (q39 : Nat) (c40 : ClassId) (q41 : Nat) (c42 : ClassId) (m43 : Nat → Int32) (q44 : Nat) (q45 : Nat) (c46 : ClassId) (q47 : Nat) (c48 : ClassId) (m49 : Nat → Int32) (q50 : Nat) (c51 : ClassId) (q52 : Nat) (q53 : Nat) (c54 : ClassId) (q55 : Nat) (q56 : Nat) (c57 : ClassId) (q58 : Nat) (q59 : Nat) (c60 : ClassId) (q61 : Nat) (q62 : Nat) (c63 : ClassId) (q64 : Nat) (c65 : ClassId) (q66 : Nat) (c67 : ClassId) (q68 : Nat) (c69 : ClassId) (q70 : Nat) (c71 : ClassId) (q72 : Nat) (c73 : ClassId) (q74 : Nat) (c75 : ClassId) (q76 : Nat) (c77 : ClassId) (q84 : Nat) (q86 : Nat) (c87 : ClassId) (q88 : Nat) (c89 : ClassId) (q90 : Nat) (c91 : ClassId) (q92 : Nat) (c93 : ClassId) (q94 : Nat) (c95 : ClassId) (q96 : Nat) (c97 : ClassId) (q98 : Nat) (c99 : ClassId) (q100 : Nat) (c101 : ClassId) (q102 : Nat) (c103 : ClassId) (q104 : Nat) (c105 : ClassId) (q106 : Nat) (c107 : ClassId) (q108 : Nat) (c109 : ClassId) (q110 : Nat) (c111 : ClassId) (q112 : Nat) (c113 : ClassId) (q114 : Nat) (c115 : ClassId) (q116 : Nat) (c117 : ClassId) (m118 : Int32) (r119 : Int32) (w120 : Int32) : ∀ k kd n rs, jw_KT[k]? = some (kd, n, rs) → kd ≠ 0 → ∃ t : Nat, (([(c5, .int), (c8, .int), (c11, .int), (c13, .int), (c15, .int), (c17, .int), (c19, .object R_N), (c22, .boolean), (c24, .int), (c28, .boolean), (c30, .int), (c34, .boolean), (c36, .int), (c40, .boolean), (c42, .int), (c46, .boolean), (c48, .int), (c51, .object R_C), (c54, .int), (c57, .int), (c60, .int), (c63, .int), (c65, .boolean), (c67, .boolean), (c69, .int), (c71, .boolean), (c73, .boolean), (c75, .boolean), (c77, .boolean), (c87, .boolean), (c89, .boolean), (c91, .int), (c93, .int), (c95, .int), (c97, .int), (c99, .int), (c101, .boolean), (c103, .int), (c105, .boolean), (c107, .int), (c109, .boolean), (c111, .int), (c113, .int), (c115, .int), (c117, .int)] : jn_T))[t]? = some ((([0, 0, c5, c8, 0, c11, c13, c15, c17, c19, 0, c22, c24, 0, c28, c30, 0, c34, c36, 0, c40, c42, 0, c46, c48, c51, 0, c54, 0, c57, 0, c60, 0, c63, c65, c67, c69, c71, c73, c75, c77, 0, c87, c89, c91, c93, c95, c97, c99, c101, c103, c105, c107, c109, c111, c113, c115, c117] : List ClassId)).getD k 0, jw_ty kd)
  | 0, _, _, _, h, h0 => by have h' := Option.some.inj ((show jw_KT[0]? = some (0, 0, [some 1, some 4, some 9, some 34, some 25, none, none, some 35, none, some 36, none, none, some 37, some 38, some 39, some 40]) from rfl).symm.trans h); cases h'; exact absurd rfl h0
  | 1, _, _, _, h, h0 => by have h' := Option.some.inj ((show jw_KT[1]? = some (0, 1, [none, some 2, some 3, none, none]) from rfl).symm.trans h); cases h'; exact absurd rfl h0
  | 2, _, _, _, h, _ => by have h' := Option.some.inj ((show jw_KT[2]? = some (1, 16, []) from rfl).symm.trans h); cases h'; exact ⟨0, rfl⟩
  | 3, _, _, _, h, _ => by have h' := Option.some.inj ((show jw_KT[3]? = some (1, 5, []) from rfl).symm.trans h); cases h'; exact ⟨1, rfl⟩
  | 4, _, _, _, h, h0 => by have h' := Option.some.inj ((show jw_KT[4]? = some (0, 2, [some 5, some 6, some 7, some 8, none]) from rfl).symm.trans h); cases h'; exact absurd rfl h0
  | 5, _, _, _, h, _ => by have h' := Option.some.inj ((show jw_KT[5]? = some (1, 40, []) from rfl).symm.trans h); cases h'; exact ⟨2, rfl⟩
  | 6, _, _, _, h, _ => by have h' := Option.some.inj ((show jw_KT[6]? = some (1, 40, []) from rfl).symm.trans h); cases h'; exact ⟨3, rfl⟩
  | 7, _, _, _, h, _ => by have h' := Option.some.inj ((show jw_KT[7]? = some (1, 40, []) from rfl).symm.trans h); cases h'; exact ⟨4, rfl⟩
  | 8, _, _, _, h, _ => by have h' := Option.some.inj ((show jw_KT[8]? = some (1, 200, []) from rfl).symm.trans h); cases h'; exact ⟨5, rfl⟩
  | 9, _, _, _, h, _ => by have h' := Option.some.inj ((show jw_KT[9]? = some (3, 5, [some 10, some 13, some 16, some 19, some 22]) from rfl).symm.trans h); cases h'; exact ⟨6, rfl⟩
  | 10, _, _, _, h, h0 => by have h' := Option.some.inj ((show jw_KT[10]? = some (0, 3, [some 4, some 11, some 12, none]) from rfl).symm.trans h); cases h'; exact absurd rfl h0
  | 11, _, _, _, h, _ => by have h' := Option.some.inj ((show jw_KT[11]? = some (2, 40, []) from rfl).symm.trans h); cases h'; exact ⟨7, rfl⟩
  | 12, _, _, _, h, _ => by have h' := Option.some.inj ((show jw_KT[12]? = some (1, 40, []) from rfl).symm.trans h); cases h'; exact ⟨8, rfl⟩
  | 13, _, _, _, h, h0 => by have h' := Option.some.inj ((show jw_KT[13]? = some (0, 3, [some 4, some 14, some 15, none]) from rfl).symm.trans h); cases h'; exact absurd rfl h0
  | 14, _, _, _, h, _ => by have h' := Option.some.inj ((show jw_KT[14]? = some (2, 40, []) from rfl).symm.trans h); cases h'; exact ⟨9, rfl⟩
  | 15, _, _, _, h, _ => by have h' := Option.some.inj ((show jw_KT[15]? = some (1, 40, []) from rfl).symm.trans h); cases h'; exact ⟨10, rfl⟩
  | 16, _, _, _, h, h0 => by have h' := Option.some.inj ((show jw_KT[16]? = some (0, 3, [some 4, some 17, some 18, none]) from rfl).symm.trans h); cases h'; exact absurd rfl h0
  | 17, _, _, _, h, _ => by have h' := Option.some.inj ((show jw_KT[17]? = some (2, 40, []) from rfl).symm.trans h); cases h'; exact ⟨11, rfl⟩
  | 18, _, _, _, h, _ => by have h' := Option.some.inj ((show jw_KT[18]? = some (1, 40, []) from rfl).symm.trans h); cases h'; exact ⟨12, rfl⟩
  | 19, _, _, _, h, h0 => by have h' := Option.some.inj ((show jw_KT[19]? = some (0, 3, [some 4, some 20, some 21, none]) from rfl).symm.trans h); cases h'; exact absurd rfl h0
  | 20, _, _, _, h, _ => by have h' := Option.some.inj ((show jw_KT[20]? = some (2, 40, []) from rfl).symm.trans h); cases h'; exact ⟨13, rfl⟩
  | 21, _, _, _, h, _ => by have h' := Option.some.inj ((show jw_KT[21]? = some (1, 40, []) from rfl).symm.trans h); cases h'; exact ⟨14, rfl⟩
  | 22, _, _, _, h, h0 => by have h' := Option.some.inj ((show jw_KT[22]? = some (0, 3, [some 4, some 23, some 24, none]) from rfl).symm.trans h); cases h'; exact absurd rfl h0
  | 23, _, _, _, h, _ => by have h' := Option.some.inj ((show jw_KT[23]? = some (2, 40, []) from rfl).symm.trans h); cases h'; exact ⟨15, rfl⟩
  | 24, _, _, _, h, _ => by have h' := Option.some.inj ((show jw_KT[24]? = some (1, 40, []) from rfl).symm.trans h); cases h'; exact ⟨16, rfl⟩
  | 25, _, _, _, h, _ => by have h' := Option.some.inj ((show jw_KT[25]? = some (4, 4, [some 26, some 28, some 30, some 32]) from rfl).symm.trans h); cases h'; exact ⟨17, rfl⟩
  | 26, _, _, _, h, h0 => by have h' := Option.some.inj ((show jw_KT[26]? = some (0, 4, [some 27, none]) from rfl).symm.trans h); cases h'; exact absurd rfl h0
  | 27, _, _, _, h, _ => by have h' := Option.some.inj ((show jw_KT[27]? = some (1, 5, []) from rfl).symm.trans h); cases h'; exact ⟨18, rfl⟩
  | 28, _, _, _, h, h0 => by have h' := Option.some.inj ((show jw_KT[28]? = some (0, 4, [some 29, none]) from rfl).symm.trans h); cases h'; exact absurd rfl h0
  | 29, _, _, _, h, _ => by have h' := Option.some.inj ((show jw_KT[29]? = some (1, 5, []) from rfl).symm.trans h); cases h'; exact ⟨19, rfl⟩
  | 30, _, _, _, h, h0 => by have h' := Option.some.inj ((show jw_KT[30]? = some (0, 4, [some 31, none]) from rfl).symm.trans h); cases h'; exact absurd rfl h0
  | 31, _, _, _, h, _ => by have h' := Option.some.inj ((show jw_KT[31]? = some (1, 5, []) from rfl).symm.trans h); cases h'; exact ⟨20, rfl⟩
  | 32, _, _, _, h, h0 => by have h' := Option.some.inj ((show jw_KT[32]? = some (0, 4, [some 33, none]) from rfl).symm.trans h); cases h'; exact absurd rfl h0
  | 33, _, _, _, h, _ => by have h' := Option.some.inj ((show jw_KT[33]? = some (1, 5, []) from rfl).symm.trans h); cases h'; exact ⟨21, rfl⟩
  | 34, _, _, _, h, _ => by have h' := Option.some.inj ((show jw_KT[34]? = some (2, 25, []) from rfl).symm.trans h); cases h'; exact ⟨22, rfl⟩
  | 35, _, _, _, h, _ => by have h' := Option.some.inj ((show jw_KT[35]? = some (2, 40, []) from rfl).symm.trans h); cases h'; exact ⟨23, rfl⟩
  | 36, _, _, _, h, _ => by have h' := Option.some.inj ((show jw_KT[36]? = some (1, 5, []) from rfl).symm.trans h); cases h'; exact ⟨24, rfl⟩
  | 37, _, _, _, h, _ => by have h' := Option.some.inj ((show jw_KT[37]? = some (2, 40, []) from rfl).symm.trans h); cases h'; exact ⟨25, rfl⟩
  | 38, _, _, _, h, _ => by have h' := Option.some.inj ((show jw_KT[38]? = some (2, 40, []) from rfl).symm.trans h); cases h'; exact ⟨26, rfl⟩
  | 39, _, _, _, h, _ => by have h' := Option.some.inj ((show jw_KT[39]? = some (2, 40, []) from rfl).symm.trans h); cases h'; exact ⟨27, rfl⟩
  | 40, _, _, _, h, _ => by have h' := Option.some.inj ((show jw_KT[40]? = some (2, 32, []) from rfl).symm.trans h); cases h'; exact ⟨28, rfl⟩
  | 41, _, _, _, h, h0 => by have h' := Option.some.inj ((show jw_KT[41]? = some (0, 5, [none, none, none, some 42, some 43, some 44, none, some 45, some 46, some 47, some 48, some 49, some 50, some 51, some 52, some 53, some 54, some 55, none, none, some 56, none, some 57, none]) from rfl).symm.trans h); cases h'; exact absurd rfl h0
  | 42, _, _, _, h, _ => by have h' := Option.some.inj ((show jw_KT[42]? = some (2, 5, []) from rfl).symm.trans h); cases h'; exact ⟨29, rfl⟩
  | 43, _, _, _, h, _ => by have h' := Option.some.inj ((show jw_KT[43]? = some (2, 25, []) from rfl).symm.trans h); cases h'; exact ⟨30, rfl⟩
  | 44, _, _, _, h, _ => by have h' := Option.some.inj ((show jw_KT[44]? = some (1, 16, []) from rfl).symm.trans h); cases h'; exact ⟨31, rfl⟩
  | 45, _, _, _, h, _ => by have h' := Option.some.inj ((show jw_KT[45]? = some (1, 40, []) from rfl).symm.trans h); cases h'; exact ⟨32, rfl⟩
  | 46, _, _, _, h, _ => by have h' := Option.some.inj ((show jw_KT[46]? = some (1, 40, []) from rfl).symm.trans h); cases h'; exact ⟨33, rfl⟩
  | 47, _, _, _, h, _ => by have h' := Option.some.inj ((show jw_KT[47]? = some (1, 40, []) from rfl).symm.trans h); cases h'; exact ⟨34, rfl⟩
  | 48, _, _, _, h, _ => by have h' := Option.some.inj ((show jw_KT[48]? = some (1, 200, []) from rfl).symm.trans h); cases h'; exact ⟨35, rfl⟩
  | 49, _, _, _, h, _ => by have h' := Option.some.inj ((show jw_KT[49]? = some (2, 200, []) from rfl).symm.trans h); cases h'; exact ⟨36, rfl⟩
  | 50, _, _, _, h, _ => by have h' := Option.some.inj ((show jw_KT[50]? = some (1, 200, []) from rfl).symm.trans h); cases h'; exact ⟨37, rfl⟩
  | 51, _, _, _, h, _ => by have h' := Option.some.inj ((show jw_KT[51]? = some (2, 80, []) from rfl).symm.trans h); cases h'; exact ⟨38, rfl⟩
  | 52, _, _, _, h, _ => by have h' := Option.some.inj ((show jw_KT[52]? = some (1, 4, []) from rfl).symm.trans h); cases h'; exact ⟨39, rfl⟩
  | 53, _, _, _, h, _ => by have h' := Option.some.inj ((show jw_KT[53]? = some (2, 4, []) from rfl).symm.trans h); cases h'; exact ⟨40, rfl⟩
  | 54, _, _, _, h, _ => by have h' := Option.some.inj ((show jw_KT[54]? = some (1, 20, []) from rfl).symm.trans h); cases h'; exact ⟨41, rfl⟩
  | 55, _, _, _, h, _ => by have h' := Option.some.inj ((show jw_KT[55]? = some (1, 40, []) from rfl).symm.trans h); cases h'; exact ⟨42, rfl⟩
  | 56, _, _, _, h, _ => by have h' := Option.some.inj ((show jw_KT[56]? = some (1, 5, []) from rfl).symm.trans h); cases h'; exact ⟨43, rfl⟩
  | 57, _, _, _, h, _ => by have h' := Option.some.inj ((show jw_KT[57]? = some (1, 5, []) from rfl).symm.trans h); cases h'; exact ⟨44, rfl⟩
  | k + 58, _, _, _, h, _ => by
    rw [List.getElem?_eq_none (show jw_KT.length ≤ k + 58 from Nat.le_add_left 58 k)] at h
    cases h
