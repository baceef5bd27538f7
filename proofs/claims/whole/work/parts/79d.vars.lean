/-! The first world of the law (by program: wip/whole/gen/world3.py) -/
set_option maxRecDepth 100000 in
set_option maxHeartbeats 4000000 in
theorem law_ad (q1 : Nat) (q3 : Nat) (q4 : Nat) (q7 : Nat) (q9 : Nat) (q10 : Nat) (q12 : Nat) (q14 : Nat) (q16 : Nat) (q18 : Nat) (q20 : Nat) (q21 : Nat) (q23 : Nat) (q26 : Nat) (q27 : Nat) (q29 : Nat) (q32 : Nat) (q33 : Nat) (q35 : Nat) (q38 : Nat) (q39 : Nat) (q41 : Nat) (q44 : Nat) (q45 : Nat) (q47 : Nat) (q50 : Nat) (q52 : Nat) (q53 : Nat) (q55 : Nat) (q56 : Nat) (q58 : Nat) (q59 : Nat) (q61 : Nat) (q62 : Nat) (q64 : Nat) (q66 : Nat) (q68 : Nat) (q70 : Nat) (q72 : Nat) (q74 : Nat) (q76 : Nat) (q84 : Nat) (q86 : Nat) (q88 : Nat) (q90 : Nat) (q92 : Nat) (q94 : Nat) (q96 : Nat) (q98 : Nat) (q100 : Nat) (q102 : Nat) (q104 : Nat) (q106 : Nat) (q108 : Nat) (q110 : Nat) (q112 : Nat) (q114 : Nat) (q116 : Nat) : ∃ f : Nat → Nat, f 0 = q1 ∧ f 1 = q3 ∧ f 2 = q4 ∧ f 3 = q7 ∧ f 4 = q9 ∧ f 5 = q10 ∧ f 6 = q12 ∧ f 7 = q14 ∧ f 8 = q16 ∧ f 9 = q18 ∧ f 10 = q20 ∧ f 11 = q21 ∧ f 12 = q23 ∧ f 13 = q26 ∧ f 14 = q27 ∧ f 15 = q29 ∧ f 16 = q32 ∧ f 17 = q33 ∧ f 18 = q35 ∧ f 19 = q38 ∧ f 20 = q39 ∧ f 21 = q41 ∧ f 22 = q44 ∧ f 23 = q45 ∧ f 24 = q47 ∧ f 25 = q50 ∧ f 26 = q52 ∧ f 27 = q53 ∧ f 28 = q55 ∧ f 29 = q56 ∧ f 30 = q58 ∧ f 31 = q59 ∧ f 32 = q61 ∧ f 33 = q62 ∧ f 34 = q64 ∧ f 35 = q66 ∧ f 36 = q68 ∧ f 37 = q70 ∧ f 38 = q72 ∧ f 39 = q74 ∧ f 40 = q76 ∧ f 41 = q84 ∧ f 42 = q86 ∧ f 43 = q88 ∧ f 44 = q90 ∧ f 45 = q92 ∧ f 46 = q94 ∧ f 47 = q96 ∧ f 48 = q98 ∧ f 49 = q100 ∧ f 50 = q102 ∧ f 51 = q104 ∧ f 52 = q106 ∧ f 53 = q108 ∧ f 54 = q110 ∧ f 55 = q112 ∧ f 56 = q114 ∧ f 57 = q116 :=
  ⟨fun k => ([q1, q3, q4, q7, q9, q10, q12, q14, q16, q18, q20, q21, q23, q26, q27, q29, q32, q33, q35, q38, q39, q41, q44, q45, q47, q50, q52, q53, q55, q56, q58, q59, q61, q62, q64, q66, q68, q70, q72, q74, q76, q84, q86, q88, q90, q92, q94, q96, q98, q100, q102, q104, q106, q108, q110, q112, q114, q116] : List (Nat)).getD k 0, rfl, rfl, rfl, rfl, rfl, rfl, rfl, rfl, rfl, rfl, rfl, rfl, rfl, rfl, rfl, rfl, rfl, rfl, rfl, rfl, rfl, rfl, rfl, rfl, rfl, rfl, rfl, rfl, rfl, rfl, rfl, rfl, rfl, rfl, rfl, rfl, rfl, rfl, rfl, rfl, rfl, rfl, rfl, rfl, rfl, rfl, rfl, rfl, rfl, rfl, rfl, rfl, rfl, rfl, rfl, rfl, rfl, rfl⟩
set_option maxRecDepth 100000 in
set_option maxHeartbeats 4000000 in
theorem law_cA (c5 : ClassId) (c8 : ClassId) (c11 : ClassId) (c13 : ClassId) (c15 : ClassId) (c17 : ClassId) (c19 : ClassId) (c22 : ClassId) (c24 : ClassId) (c28 : ClassId) (c30 : ClassId) (c34 : ClassId) (c36 : ClassId) (c40 : ClassId) (c42 : ClassId) (c46 : ClassId) (c48 : ClassId) (c51 : ClassId) (c54 : ClassId) (c57 : ClassId) (c60 : ClassId) (c63 : ClassId) (c65 : ClassId) (c67 : ClassId) (c69 : ClassId) (c71 : ClassId) (c73 : ClassId) (c75 : ClassId) (c77 : ClassId) (c87 : ClassId) (c89 : ClassId) (c91 : ClassId) (c93 : ClassId) (c95 : ClassId) (c97 : ClassId) (c99 : ClassId) (c101 : ClassId) (c103 : ClassId) (c105 : ClassId) (c107 : ClassId) (c109 : ClassId) (c111 : ClassId) (c113 : ClassId) (c115 : ClassId) (c117 : ClassId) : ∃ f : Nat → ClassId, f 2 = c5 ∧ f 3 = c8 ∧ f 5 = c11 ∧ f 6 = c13 ∧ f 7 = c15 ∧ f 8 = c17 ∧ f 9 = c19 ∧ f 11 = c22 ∧ f 12 = c24 ∧ f 14 = c28 ∧ f 15 = c30 ∧ f 17 = c34 ∧ f 18 = c36 ∧ f 20 = c40 ∧ f 21 = c42 ∧ f 23 = c46 ∧ f 24 = c48 ∧ f 25 = c51 ∧ f 27 = c54 ∧ f 29 = c57 ∧ f 31 = c60 ∧ f 33 = c63 ∧ f 34 = c65 ∧ f 35 = c67 ∧ f 36 = c69 ∧ f 37 = c71 ∧ f 38 = c73 ∧ f 39 = c75 ∧ f 40 = c77 ∧ f 42 = c87 ∧ f 43 = c89 ∧ f 44 = c91 ∧ f 45 = c93 ∧ f 46 = c95 ∧ f 47 = c97 ∧ f 48 = c99 ∧ f 49 = c101 ∧ f 50 = c103 ∧ f 51 = c105 ∧ f 52 = c107 ∧ f 53 = c109 ∧ f 54 = c111 ∧ f 55 = c113 ∧ f 56 = c115 ∧ f 57 = c117 :=
  ⟨fun k => ([0, 0, c5, c8, 0, c11, c13, c15, c17, c19, 0, c22, c24, 0, c28, c30, 0, c34, c36, 0, c40, c42, 0, c46, c48, c51, 0, c54, 0, c57, 0, c60, 0, c63, c65, c67, c69, c71, c73, c75, c77, 0, c87, c89, c91, c93, c95, c97, c99, c101, c103, c105, c107, c109, c111, c113, c115, c117] : List (ClassId)).getD k 0, rfl, rfl, rfl, rfl, rfl, rfl, rfl, rfl, rfl, rfl, rfl, rfl, rfl, rfl, rfl, rfl, rfl, rfl, rfl, rfl, rfl, rfl, rfl, rfl, rfl, rfl, rfl, rfl, rfl, rfl, rfl, rfl, rfl, rfl, rfl, rfl, rfl, rfl, rfl, rfl, rfl, rfl, rfl, rfl, rfl⟩
set_option maxRecDepth 100000 in
set_option maxHeartbeats 4000000 in
theorem law_up9 (ad : Nat → Nat) : (va_up (va_up (va_up (va_up (va_up (fun _ => none) 0 (some (ad 10))) 1 (some (ad 13))) 2 (some (ad 16))) 3 (some (ad 19))) 4 (some (ad 22))) = (fun i => (([some 10, some 13, some 16, some 19, some 22] : List (Option Nat)).getD i none).map ad) := by
  funext i
  match i with
  | 0 => rfl
  | 1 => rfl
  | 2 => rfl
  | 3 => rfl
  | 4 => rfl
  | i + 5 => simp [va_up]
set_option maxRecDepth 100000 in
set_option maxHeartbeats 4000000 in
theorem law_up25 (ad : Nat → Nat) : (va_up (va_up (va_up (va_up (fun _ => none) 0 (some (ad 26))) 1 (some (ad 28))) 2 (some (ad 30))) 3 (some (ad 32))) = (fun i => (([some 26, some 28, some 30, some 32] : List (Option Nat)).getD i none).map ad) := by
  funext i
  match i with
  | 0 => rfl
  | 1 => rfl
  | 2 => rfl
  | 3 => rfl
  | i + 4 => simp [va_up]
