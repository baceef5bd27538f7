/-! The table's world, written out, cell by cell -/
set_option maxRecDepth 100000 in
theorem law_c0 (D : va_G) (cA : Nat → ClassId) (ad : Nat → Nat) (t : Nat) (M : jw_Mem) : (jw_W (jw_g (D, cA, ad, t)) M)[0]? = some (ad 0, .inr (0, [.ref (ad 1), .ref (ad 4), .ref (ad 9), .ref (ad 34), .ref (ad 25), .int (M 0 5), .int (M 0 6), .ref (ad 35), .int (M 0 8), .ref (ad 36), .int (M 0 10), .int (M 0 11), .ref (ad 37), .ref (ad 38), .ref (ad 39), .ref (ad 40)])) := by
  rw [jw_at_0 (E := jw_g (D, cA, ad, t)) (k := 0) (show jw_KT[0]? = some (0, 0, [some 1, some 4, some 9, some 34, some 25, none, none, some 35, none, some 36, none, none, some 37, some 38, some 39, some 40]) from rfl)]
  simp only [jw_fs, jw_fv, jw_g, List.mapIdx_cons, List.mapIdx_nil, Nat.zero_add, Nat.reduceAdd]
set_option maxRecDepth 100000 in
theorem law_c1 (D : va_G) (cA : Nat → ClassId) (ad : Nat → Nat) (t : Nat) (M : jw_Mem) : (jw_W (jw_g (D, cA, ad, t)) M)[1]? = some (ad 1, .inr (1, [.int (M 1 0), .ref (ad 2), .ref (ad 3), .int (M 1 3), .int (M 1 4)])) := by
  rw [jw_at_0 (E := jw_g (D, cA, ad, t)) (k := 1) (show jw_KT[1]? = some (0, 1, [none, some 2, some 3, none, none]) from rfl)]
  simp only [jw_fs, jw_fv, jw_g, List.mapIdx_cons, List.mapIdx_nil, Nat.zero_add, Nat.reduceAdd]
set_option maxRecDepth 100000 in
theorem law_c2 (D : va_G) (cA : Nat → ClassId) (ad : Nat → Nat) (t : Nat) (M : jw_Mem) : (jw_W (jw_g (D, cA, ad, t)) M)[2]? = some (ad 2, .inl (cA 2, 16, .inl (M 2))) := jw_at_1 (E := jw_g (D, cA, ad, t)) (k := 2) (show jw_KT[2]? = some (1, 16, []) from rfl)
set_option maxRecDepth 100000 in
theorem law_c3 (D : va_G) (cA : Nat → ClassId) (ad : Nat → Nat) (t : Nat) (M : jw_Mem) : (jw_W (jw_g (D, cA, ad, t)) M)[3]? = some (ad 3, .inl (cA 3, 5, .inl (M 3))) := jw_at_1 (E := jw_g (D, cA, ad, t)) (k := 3) (show jw_KT[3]? = some (1, 5, []) from rfl)
set_option maxRecDepth 100000 in
theorem law_c4 (D : va_G) (cA : Nat → ClassId) (ad : Nat → Nat) (t : Nat) (M : jw_Mem) : (jw_W (jw_g (D, cA, ad, t)) M)[4]? = some (ad 4, .inr (2, [.ref (ad 5), .ref (ad 6), .ref (ad 7), .ref (ad 8), .int (M 4 4)])) := by
  rw [jw_at_0 (E := jw_g (D, cA, ad, t)) (k := 4) (show jw_KT[4]? = some (0, 2, [some 5, some 6, some 7, some 8, none]) from rfl)]
  simp only [jw_fs, jw_fv, jw_g, List.mapIdx_cons, List.mapIdx_nil, Nat.zero_add, Nat.reduceAdd]
set_option maxRecDepth 100000 in
theorem law_c5 (D : va_G) (cA : Nat → ClassId) (ad : Nat → Nat) (t : Nat) (M : jw_Mem) : (jw_W (jw_g (D, cA, ad, t)) M)[5]? = some (ad 5, .inl (cA 5, 40, .inl (M 5))) := jw_at_1 (E := jw_g (D, cA, ad, t)) (k := 5) (show jw_KT[5]? = some (1, 40, []) from rfl)
set_option maxRecDepth 100000 in
theorem law_c6 (D : va_G) (cA : Nat → ClassId) (ad : Nat → Nat) (t : Nat) (M : jw_Mem) : (jw_W (jw_g (D, cA, ad, t)) M)[6]? = some (ad 6, .inl (cA 6, 40, .inl (M 6))) := jw_at_1 (E := jw_g (D, cA, ad, t)) (k := 6) (show jw_KT[6]? = some (1, 40, []) from rfl)
set_option maxRecDepth 100000 in
theorem law_c7 (D : va_G) (cA : Nat → ClassId) (ad : Nat → Nat) (t : Nat) (M : jw_Mem) : (jw_W (jw_g (D, cA, ad, t)) M)[7]? = some (ad 7, .inl (cA 7, 40, .inl (M 7))) := jw_at_1 (E := jw_g (D, cA, ad, t)) (k := 7) (show jw_KT[7]? = some (1, 40, []) from rfl)
set_option maxRecDepth 100000 in
theorem law_c8 (D : va_G) (cA : Nat → ClassId) (ad : Nat → Nat) (t : Nat) (M : jw_Mem) : (jw_W (jw_g (D, cA, ad, t)) M)[8]? = some (ad 8, .inl (cA 8, 200, .inl (M 8))) := jw_at_1 (E := jw_g (D, cA, ad, t)) (k := 8) (show jw_KT[8]? = some (1, 200, []) from rfl)
set_option maxRecDepth 100000 in
theorem law_c9 (D : va_G) (cA : Nat → ClassId) (ad : Nat → Nat) (t : Nat) (M : jw_Mem) : (jw_W (jw_g (D, cA, ad, t)) M)[9]? = some (ad 9, .inl (cA 9, 5, .inr (.inr (.inr (.inr (fun i => (([some 10, some 13, some 16, some 19, some 22] : List (Option Nat)).getD i none).map ad)))))) := jw_at_3 (E := jw_g (D, cA, ad, t)) (k := 9) (show jw_KT[9]? = some (3, 5, [some 10, some 13, some 16, some 19, some 22]) from rfl)
set_option maxRecDepth 100000 in
theorem law_c10 (D : va_G) (cA : Nat → ClassId) (ad : Nat → Nat) (t : Nat) (M : jw_Mem) : (jw_W (jw_g (D, cA, ad, t)) M)[10]? = some (ad 10, .inr (3, [.ref (ad 4), .ref (ad 11), .ref (ad 12), .int (M 10 3)])) := by
  rw [jw_at_0 (E := jw_g (D, cA, ad, t)) (k := 10) (show jw_KT[10]? = some (0, 3, [some 4, some 11, some 12, none]) from rfl)]
  simp only [jw_fs, jw_fv, jw_g, List.mapIdx_cons, List.mapIdx_nil, Nat.zero_add, Nat.reduceAdd]
set_option maxRecDepth 100000 in
theorem law_c11 (D : va_G) (cA : Nat → ClassId) (ad : Nat → Nat) (t : Nat) (M : jw_Mem) : (jw_W (jw_g (D, cA, ad, t)) M)[11]? = some (ad 11, .inl (cA 11, 40, .inl (M 11))) := jw_at_2 (E := jw_g (D, cA, ad, t)) (k := 11) (show jw_KT[11]? = some (2, 40, []) from rfl)
set_option maxRecDepth 100000 in
theorem law_c12 (D : va_G) (cA : Nat → ClassId) (ad : Nat → Nat) (t : Nat) (M : jw_Mem) : (jw_W (jw_g (D, cA, ad, t)) M)[12]? = some (ad 12, .inl (cA 12, 40, .inl (M 12))) := jw_at_1 (E := jw_g (D, cA, ad, t)) (k := 12) (show jw_KT[12]? = some (1, 40, []) from rfl)
set_option maxRecDepth 100000 in
theorem law_c13 (D : va_G) (cA : Nat → ClassId) (ad : Nat → Nat) (t : Nat) (M : jw_Mem) : (jw_W (jw_g (D, cA, ad, t)) M)[13]? = some (ad 13, .inr (3, [.ref (ad 4), .ref (ad 14), .ref (ad 15), .int (M 13 3)])) := by
  rw [jw_at_0 (E := jw_g (D, cA, ad, t)) (k := 13) (show jw_KT[13]? = some (0, 3, [some 4, some 14, some 15, none]) from rfl)]
  simp only [jw_fs, jw_fv, jw_g, List.mapIdx_cons, List.mapIdx_nil, Nat.zero_add, Nat.reduceAdd]
set_option maxRecDepth 100000 in
theorem law_c14 (D : va_G) (cA : Nat → ClassId) (ad : Nat → Nat) (t : Nat) (M : jw_Mem) : (jw_W (jw_g (D, cA, ad, t)) M)[14]? = some (ad 14, .inl (cA 14, 40, .inl (M 14))) := jw_at_2 (E := jw_g (D, cA, ad, t)) (k := 14) (show jw_KT[14]? = some (2, 40, []) from rfl)
set_option maxRecDepth 100000 in
theorem law_c15 (D : va_G) (cA : Nat → ClassId) (ad : Nat → Nat) (t : Nat) (M : jw_Mem) : (jw_W (jw_g (D, cA, ad, t)) M)[15]? = some (ad 15, .inl (cA 15, 40, .inl (M 15))) := jw_at_1 (E := jw_g (D, cA, ad, t)) (k := 15) (show jw_KT[15]? = some (1, 40, []) from rfl)
set_option maxRecDepth 100000 in
theorem law_c16 (D : va_G) (cA : Nat → ClassId) (ad : Nat → Nat) (t : Nat) (M : jw_Mem) : (jw_W (jw_g (D, cA, ad, t)) M)[16]? = some (ad 16, .inr (3, [.ref (ad 4), .ref (ad 17), .ref (ad 18), .int (M 16 3)])) := by
  rw [jw_at_0 (E := jw_g (D, cA, ad, t)) (k := 16) (show jw_KT[16]? = some (0, 3, [some 4, some 17, some 18, none]) from rfl)]
  simp only [jw_fs, jw_fv, jw_g, List.mapIdx_cons, List.mapIdx_nil, Nat.zero_add, Nat.reduceAdd]
set_option maxRecDepth 100000 in
theorem law_c17 (D : va_G) (cA : Nat → ClassId) (ad : Nat → Nat) (t : Nat) (M : jw_Mem) : (jw_W (jw_g (D, cA, ad, t)) M)[17]? = some (ad 17, .inl (cA 17, 40, .inl (M 17))) := jw_at_2 (E := jw_g (D, cA, ad, t)) (k := 17) (show jw_KT[17]? = some (2, 40, []) from rfl)
set_option maxRecDepth 100000 in
theorem law_c18 (D : va_G) (cA : Nat → ClassId) (ad : Nat → Nat) (t : Nat) (M : jw_Mem) : (jw_W (jw_g (D, cA, ad, t)) M)[18]? = some (ad 18, .inl (cA 18, 40, .inl (M 18))) := jw_at_1 (E := jw_g (D, cA, ad, t)) (k := 18) (show jw_KT[18]? = some (1, 40, []) from rfl)
set_option maxRecDepth 100000 in
theorem law_c19 (D : va_G) (cA : Nat → ClassId) (ad : Nat → Nat) (t : Nat) (M : jw_Mem) : (jw_W (jw_g (D, cA, ad, t)) M)[19]? = some (ad 19, .inr (3, [.ref (ad 4), .ref (ad 20), .ref (ad 21), .int (M 19 3)])) := by
  rw [jw_at_0 (E := jw_g (D, cA, ad, t)) (k := 19) (show jw_KT[19]? = some (0, 3, [some 4, some 20, some 21, none]) from rfl)]
  simp only [jw_fs, jw_fv, jw_g, List.mapIdx_cons, List.mapIdx_nil, Nat.zero_add, Nat.reduceAdd]
set_option maxRecDepth 100000 in
theorem law_c20 (D : va_G) (cA : Nat → ClassId) (ad : Nat → Nat) (t : Nat) (M : jw_Mem) : (jw_W (jw_g (D, cA, ad, t)) M)[20]? = some (ad 20, .inl (cA 20, 40, .inl (M 20))) := jw_at_2 (E := jw_g (D, cA, ad, t)) (k := 20) (show jw_KT[20]? = some (2, 40, []) from rfl)
set_option maxRecDepth 100000 in
theorem law_c21 (D : va_G) (cA : Nat → ClassId) (ad : Nat → Nat) (t : Nat) (M : jw_Mem) : (jw_W (jw_g (D, cA, ad, t)) M)[21]? = some (ad 21, .inl (cA 21, 40, .inl (M 21))) := jw_at_1 (E := jw_g (D, cA, ad, t)) (k := 21) (show jw_KT[21]? = some (1, 40, []) from rfl)
set_option maxRecDepth 100000 in
theorem law_c22 (D : va_G) (cA : Nat → ClassId) (ad : Nat → Nat) (t : Nat) (M : jw_Mem) : (jw_W (jw_g (D, cA, ad, t)) M)[22]? = some (ad 22, .inr (3, [.ref (ad 4), .ref (ad 23), .ref (ad 24), .int (M 22 3)])) := by
  rw [jw_at_0 (E := jw_g (D, cA, ad, t)) (k := 22) (show jw_KT[22]? = some (0, 3, [some 4, some 23, some 24, none]) from rfl)]
  simp only [jw_fs, jw_fv, jw_g, List.mapIdx_cons, List.mapIdx_nil, Nat.zero_add, Nat.reduceAdd]
set_option maxRecDepth 100000 in
theorem law_c23 (D : va_G) (cA : Nat → ClassId) (ad : Nat → Nat) (t : Nat) (M : jw_Mem) : (jw_W (jw_g (D, cA, ad, t)) M)[23]? = some (ad 23, .inl (cA 23, 40, .inl (M 23))) := jw_at_2 (E := jw_g (D, cA, ad, t)) (k := 23) (show jw_KT[23]? = some (2, 40, []) from rfl)
set_option maxRecDepth 100000 in
theorem law_c24 (D : va_G) (cA : Nat → ClassId) (ad : Nat → Nat) (t : Nat) (M : jw_Mem) : (jw_W (jw_g (D, cA, ad, t)) M)[24]? = some (ad 24, .inl (cA 24, 40, .inl (M 24))) := jw_at_1 (E := jw_g (D, cA, ad, t)) (k := 24) (show jw_KT[24]? = some (1, 40, []) from rfl)
set_option maxRecDepth 100000 in
theorem law_c25 (D : va_G) (cA : Nat → ClassId) (ad : Nat → Nat) (t : Nat) (M : jw_Mem) : (jw_W (jw_g (D, cA, ad, t)) M)[25]? = some (ad 25, .inl (cA 25, 4, .inr (.inr (.inr (.inr (fun i => (([some 26, some 28, some 30, some 32] : List (Option Nat)).getD i none).map ad)))))) := jw_at_4 (E := jw_g (D, cA, ad, t)) (k := 25) (show jw_KT[25]? = some (4, 4, [some 26, some 28, some 30, some 32]) from rfl)
set_option maxRecDepth 100000 in
theorem law_c26 (D : va_G) (cA : Nat → ClassId) (ad : Nat → Nat) (t : Nat) (M : jw_Mem) : (jw_W (jw_g (D, cA, ad, t)) M)[26]? = some (ad 26, .inr (4, [.ref (ad 27), .int (M 26 1)])) := by
  rw [jw_at_0 (E := jw_g (D, cA, ad, t)) (k := 26) (show jw_KT[26]? = some (0, 4, [some 27, none]) from rfl)]
  simp only [jw_fs, jw_fv, jw_g, List.mapIdx_cons, List.mapIdx_nil, Nat.zero_add, Nat.reduceAdd]
set_option maxRecDepth 100000 in
theorem law_c27 (D : va_G) (cA : Nat → ClassId) (ad : Nat → Nat) (t : Nat) (M : jw_Mem) : (jw_W (jw_g (D, cA, ad, t)) M)[27]? = some (ad 27, .inl (cA 27, 5, .inl (M 27))) := jw_at_1 (E := jw_g (D, cA, ad, t)) (k := 27) (show jw_KT[27]? = some (1, 5, []) from rfl)
set_option maxRecDepth 100000 in
theorem law_c28 (D : va_G) (cA : Nat → ClassId) (ad : Nat → Nat) (t : Nat) (M : jw_Mem) : (jw_W (jw_g (D, cA, ad, t)) M)[28]? = some (ad 28, .inr (4, [.ref (ad 29), .int (M 28 1)])) := by
  rw [jw_at_0 (E := jw_g (D, cA, ad, t)) (k := 28) (show jw_KT[28]? = some (0, 4, [some 29, none]) from rfl)]
  simp only [jw_fs, jw_fv, jw_g, List.mapIdx_cons, List.mapIdx_nil, Nat.zero_add, Nat.reduceAdd]
set_option maxRecDepth 100000 in
theorem law_c29 (D : va_G) (cA : Nat → ClassId) (ad : Nat → Nat) (t : Nat) (M : jw_Mem) : (jw_W (jw_g (D, cA, ad, t)) M)[29]? = some (ad 29, .inl (cA 29, 5, .inl (M 29))) := jw_at_1 (E := jw_g (D, cA, ad, t)) (k := 29) (show jw_KT[29]? = some (1, 5, []) from rfl)
set_option maxRecDepth 100000 in
theorem law_c30 (D : va_G) (cA : Nat → ClassId) (ad : Nat → Nat) (t : Nat) (M : jw_Mem) : (jw_W (jw_g (D, cA, ad, t)) M)[30]? = some (ad 30, .inr (4, [.ref (ad 31), .int (M 30 1)])) := by
  rw [jw_at_0 (E := jw_g (D, cA, ad, t)) (k := 30) (show jw_KT[30]? = some (0, 4, [some 31, none]) from rfl)]
  simp only [jw_fs, jw_fv, jw_g, List.mapIdx_cons, List.mapIdx_nil, Nat.zero_add, Nat.reduceAdd]
set_option maxRecDepth 100000 in
theorem law_c31 (D : va_G) (cA : Nat → ClassId) (ad : Nat → Nat) (t : Nat) (M : jw_Mem) : (jw_W (jw_g (D, cA, ad, t)) M)[31]? = some (ad 31, .inl (cA 31, 5, .inl (M 31))) := jw_at_1 (E := jw_g (D, cA, ad, t)) (k := 31) (show jw_KT[31]? = some (1, 5, []) from rfl)
set_option maxRecDepth 100000 in
theorem law_c32 (D : va_G) (cA : Nat → ClassId) (ad : Nat → Nat) (t : Nat) (M : jw_Mem) : (jw_W (jw_g (D, cA, ad, t)) M)[32]? = some (ad 32, .inr (4, [.ref (ad 33), .int (M 32 1)])) := by
  rw [jw_at_0 (E := jw_g (D, cA, ad, t)) (k := 32) (show jw_KT[32]? = some (0, 4, [some 33, none]) from rfl)]
  simp only [jw_fs, jw_fv, jw_g, List.mapIdx_cons, List.mapIdx_nil, Nat.zero_add, Nat.reduceAdd]
set_option maxRecDepth 100000 in
theorem law_c33 (D : va_G) (cA : Nat → ClassId) (ad : Nat → Nat) (t : Nat) (M : jw_Mem) : (jw_W (jw_g (D, cA, ad, t)) M)[33]? = some (ad 33, .inl (cA 33, 5, .inl (M 33))) := jw_at_1 (E := jw_g (D, cA, ad, t)) (k := 33) (show jw_KT[33]? = some (1, 5, []) from rfl)
set_option maxRecDepth 100000 in
theorem law_c34 (D : va_G) (cA : Nat → ClassId) (ad : Nat → Nat) (t : Nat) (M : jw_Mem) : (jw_W (jw_g (D, cA, ad, t)) M)[34]? = some (ad 34, .inl (cA 34, 25, .inl (M 34))) := jw_at_2 (E := jw_g (D, cA, ad, t)) (k := 34) (show jw_KT[34]? = some (2, 25, []) from rfl)
set_option maxRecDepth 100000 in
theorem law_c35 (D : va_G) (cA : Nat → ClassId) (ad : Nat → Nat) (t : Nat) (M : jw_Mem) : (jw_W (jw_g (D, cA, ad, t)) M)[35]? = some (ad 35, .inl (cA 35, 40, .inl (M 35))) := jw_at_2 (E := jw_g (D, cA, ad, t)) (k := 35) (show jw_KT[35]? = some (2, 40, []) from rfl)
set_option maxRecDepth 100000 in
theorem law_c36 (D : va_G) (cA : Nat → ClassId) (ad : Nat → Nat) (t : Nat) (M : jw_Mem) : (jw_W (jw_g (D, cA, ad, t)) M)[36]? = some (ad 36, .inl (cA 36, 5, .inl (M 36))) := jw_at_1 (E := jw_g (D, cA, ad, t)) (k := 36) (show jw_KT[36]? = some (1, 5, []) from rfl)
set_option maxRecDepth 100000 in
theorem law_c37 (D : va_G) (cA : Nat → ClassId) (ad : Nat → Nat) (t : Nat) (M : jw_Mem) : (jw_W (jw_g (D, cA, ad, t)) M)[37]? = some (ad 37, .inl (cA 37, 40, .inl (M 37))) := jw_at_2 (E := jw_g (D, cA, ad, t)) (k := 37) (show jw_KT[37]? = some (2, 40, []) from rfl)
set_option maxRecDepth 100000 in
theorem law_c38 (D : va_G) (cA : Nat → ClassId) (ad : Nat → Nat) (t : Nat) (M : jw_Mem) : (jw_W (jw_g (D, cA, ad, t)) M)[38]? = some (ad 38, .inl (cA 38, 40, .inl (M 38))) := jw_at_2 (E := jw_g (D, cA, ad, t)) (k := 38) (show jw_KT[38]? = some (2, 40, []) from rfl)
set_option maxRecDepth 100000 in
theorem law_c39 (D : va_G) (cA : Nat → ClassId) (ad : Nat → Nat) (t : Nat) (M : jw_Mem) : (jw_W (jw_g (D, cA, ad, t)) M)[39]? = some (ad 39, .inl (cA 39, 40, .inl (M 39))) := jw_at_2 (E := jw_g (D, cA, ad, t)) (k := 39) (show jw_KT[39]? = some (2, 40, []) from rfl)
set_option maxRecDepth 100000 in
theorem law_c40 (D : va_G) (cA : Nat → ClassId) (ad : Nat → Nat) (t : Nat) (M : jw_Mem) : (jw_W (jw_g (D, cA, ad, t)) M)[40]? = some (ad 40, .inl (cA 40, 32, .inl (M 40))) := jw_at_2 (E := jw_g (D, cA, ad, t)) (k := 40) (show jw_KT[40]? = some (2, 32, []) from rfl)
set_option maxRecDepth 100000 in
theorem law_c41 (D : va_G) (cA : Nat → ClassId) (ad : Nat → Nat) (t : Nat) (M : jw_Mem) : (jw_W (jw_g (D, cA, ad, t)) M)[41]? = some (ad 41, .inr (5, [.int (M 41 0), .int (M 41 1), .int (M 41 2), .ref (ad 42), .ref (ad 43), .ref (ad 44), .int (M 41 6), .ref (ad 45), .ref (ad 46), .ref (ad 47), .ref (ad 48), .ref (ad 49), .ref (ad 50), .ref (ad 51), .ref (ad 52), .ref (ad 53), .ref (ad 54), .ref (ad 55), .int (M 41 18), .int (M 41 19), .ref (ad 56), .int (M 41 21), .ref (ad 57), .int (M 41 23)])) := by
  rw [jw_at_0 (E := jw_g (D, cA, ad, t)) (k := 41) (show jw_KT[41]? = some (0, 5, [none, none, none, some 42, some 43, some 44, none, some 45, some 46, some 47, some 48, some 49, some 50, some 51, some 52, some 53, some 54, some 55, none, none, some 56, none, some 57, none]) from rfl)]
  simp only [jw_fs, jw_fv, jw_g, List.mapIdx_cons, List.mapIdx_nil, Nat.zero_add, Nat.reduceAdd]
set_option maxRecDepth 100000 in
theorem law_c42 (D : va_G) (cA : Nat → ClassId) (ad : Nat → Nat) (t : Nat) (M : jw_Mem) : (jw_W (jw_g (D, cA, ad, t)) M)[42]? = some (ad 42, .inl (cA 42, 5, .inl (M 42))) := jw_at_2 (E := jw_g (D, cA, ad, t)) (k := 42) (show jw_KT[42]? = some (2, 5, []) from rfl)
set_option maxRecDepth 100000 in
theorem law_c43 (D : va_G) (cA : Nat → ClassId) (ad : Nat → Nat) (t : Nat) (M : jw_Mem) : (jw_W (jw_g (D, cA, ad, t)) M)[43]? = some (ad 43, .inl (cA 43, 25, .inl (M 43))) := jw_at_2 (E := jw_g (D, cA, ad, t)) (k := 43) (show jw_KT[43]? = some (2, 25, []) from rfl)
set_option maxRecDepth 100000 in
theorem law_c44 (D : va_G) (cA : Nat → ClassId) (ad : Nat → Nat) (t : Nat) (M : jw_Mem) : (jw_W (jw_g (D, cA, ad, t)) M)[44]? = some (ad 44, .inl (cA 44, 16, .inl (M 44))) := jw_at_1 (E := jw_g (D, cA, ad, t)) (k := 44) (show jw_KT[44]? = some (1, 16, []) from rfl)
set_option maxRecDepth 100000 in
theorem law_c45 (D : va_G) (cA : Nat → ClassId) (ad : Nat → Nat) (t : Nat) (M : jw_Mem) : (jw_W (jw_g (D, cA, ad, t)) M)[45]? = some (ad 45, .inl (cA 45, 40, .inl (M 45))) := jw_at_1 (E := jw_g (D, cA, ad, t)) (k := 45) (show jw_KT[45]? = some (1, 40, []) from rfl)
set_option maxRecDepth 100000 in
theorem law_c46 (D : va_G) (cA : Nat → ClassId) (ad : Nat → Nat) (t : Nat) (M : jw_Mem) : (jw_W (jw_g (D, cA, ad, t)) M)[46]? = some (ad 46, .inl (cA 46, 40, .inl (M 46))) := jw_at_1 (E := jw_g (D, cA, ad, t)) (k := 46) (show jw_KT[46]? = some (1, 40, []) from rfl)
set_option maxRecDepth 100000 in
theorem law_c47 (D : va_G) (cA : Nat → ClassId) (ad : Nat → Nat) (t : Nat) (M : jw_Mem) : (jw_W (jw_g (D, cA, ad, t)) M)[47]? = some (ad 47, .inl (cA 47, 40, .inl (M 47))) := jw_at_1 (E := jw_g (D, cA, ad, t)) (k := 47) (show jw_KT[47]? = some (1, 40, []) from rfl)
set_option maxRecDepth 100000 in
theorem law_c48 (D : va_G) (cA : Nat → ClassId) (ad : Nat → Nat) (t : Nat) (M : jw_Mem) : (jw_W (jw_g (D, cA, ad, t)) M)[48]? = some (ad 48, .inl (cA 48, 200, .inl (M 48))) := jw_at_1 (E := jw_g (D, cA, ad, t)) (k := 48) (show jw_KT[48]? = some (1, 200, []) from rfl)
set_option maxRecDepth 100000 in
theorem law_c49 (D : va_G) (cA : Nat → ClassId) (ad : Nat → Nat) (t : Nat) (M : jw_Mem) : (jw_W (jw_g (D, cA, ad, t)) M)[49]? = some (ad 49, .inl (cA 49, 200, .inl (M 49))) := jw_at_2 (E := jw_g (D, cA, ad, t)) (k := 49) (show jw_KT[49]? = some (2, 200, []) from rfl)
set_option maxRecDepth 100000 in
theorem law_c50 (D : va_G) (cA : Nat → ClassId) (ad : Nat → Nat) (t : Nat) (M : jw_Mem) : (jw_W (jw_g (D, cA, ad, t)) M)[50]? = some (ad 50, .inl (cA 50, 200, .inl (M 50))) := jw_at_1 (E := jw_g (D, cA, ad, t)) (k := 50) (show jw_KT[50]? = some (1, 200, []) from rfl)
set_option maxRecDepth 100000 in
theorem law_c51 (D : va_G) (cA : Nat → ClassId) (ad : Nat → Nat) (t : Nat) (M : jw_Mem) : (jw_W (jw_g (D, cA, ad, t)) M)[51]? = some (ad 51, .inl (cA 51, 80, .inl (M 51))) := jw_at_2 (E := jw_g (D, cA, ad, t)) (k := 51) (show jw_KT[51]? = some (2, 80, []) from rfl)
set_option maxRecDepth 100000 in
theorem law_c52 (D : va_G) (cA : Nat → ClassId) (ad : Nat → Nat) (t : Nat) (M : jw_Mem) : (jw_W (jw_g (D, cA, ad, t)) M)[52]? = some (ad 52, .inl (cA 52, 4, .inl (M 52))) := jw_at_1 (E := jw_g (D, cA, ad, t)) (k := 52) (show jw_KT[52]? = some (1, 4, []) from rfl)
set_option maxRecDepth 100000 in
theorem law_c53 (D : va_G) (cA : Nat → ClassId) (ad : Nat → Nat) (t : Nat) (M : jw_Mem) : (jw_W (jw_g (D, cA, ad, t)) M)[53]? = some (ad 53, .inl (cA 53, 4, .inl (M 53))) := jw_at_2 (E := jw_g (D, cA, ad, t)) (k := 53) (show jw_KT[53]? = some (2, 4, []) from rfl)
set_option maxRecDepth 100000 in
theorem law_c54 (D : va_G) (cA : Nat → ClassId) (ad : Nat → Nat) (t : Nat) (M : jw_Mem) : (jw_W (jw_g (D, cA, ad, t)) M)[54]? = some (ad 54, .inl (cA 54, 20, .inl (M 54))) := jw_at_1 (E := jw_g (D, cA, ad, t)) (k := 54) (show jw_KT[54]? = some (1, 20, []) from rfl)
set_option maxRecDepth 100000 in
theorem law_c55 (D : va_G) (cA : Nat → ClassId) (ad : Nat → Nat) (t : Nat) (M : jw_Mem) : (jw_W (jw_g (D, cA, ad, t)) M)[55]? = some (ad 55, .inl (cA 55, 40, .inl (M 55))) := jw_at_1 (E := jw_g (D, cA, ad, t)) (k := 55) (show jw_KT[55]? = some (1, 40, []) from rfl)
set_option maxRecDepth 100000 in
theorem law_c56 (D : va_G) (cA : Nat → ClassId) (ad : Nat → Nat) (t : Nat) (M : jw_Mem) : (jw_W (jw_g (D, cA, ad, t)) M)[56]? = some (ad 56, .inl (cA 56, 5, .inl (M 56))) := jw_at_1 (E := jw_g (D, cA, ad, t)) (k := 56) (show jw_KT[56]? = some (1, 5, []) from rfl)
set_option maxRecDepth 100000 in
theorem law_c57 (D : va_G) (cA : Nat → ClassId) (ad : Nat → Nat) (t : Nat) (M : jw_Mem) : (jw_W (jw_g (D, cA, ad, t)) M)[57]? = some (ad 57, .inl (cA 57, 5, .inl (M 57))) := jw_at_1 (E := jw_g (D, cA, ad, t)) (k := 57) (show jw_KT[57]? = some (1, 5, []) from rfl)
