/-! The frame of the constructors: a walk over a world of cells that grows -/
abbrev jn_T : Type := List (ClassId × FieldType)
def jn_C (A : Nat → Prop) (f : jw_F) (Z : Nat × Nat) (p : Program) (R : Room) (s : State) (m : MethodId) (args : Array Value) (meth : Method) (c : Code) : Prop :=
  p.tables.exec = Jvm.exec ∧ c.code = f.2.1 ∧ meth.sig.returnType = f.2.2.2.1 ∧ c.maxLocals = f.2.2.1 ∧ s.vm.findClass f.1.cls = some m.cls ∧ (∀ w ∈ jw_ws, w.before args s = true) ∧ meth.locks = false ∧ (∀ q, s.heap.size ≤ q → A q) ∧ (f.2.2.2.2.1 ≤ R.frames ∧ f.2.2.2.2.2 ≤ R.locals ∧ Z.1 ≤ R.cells ∧ Z.2 ≤ R.slots) ∧ (f.1.name = "<init>" → meth.name = "<init>") ∧ va_AO R_N s ∧ va_AO R_C s
def jn_X (l : Launch) (X : jw_X0) (D : va_G) (A : Nat → Prop) (f : jw_F) (Z : Nat × Nat) (nC nS pc : Nat) (L : List (Option Value)) (S : List Value) (ws : va_W) (tys : jn_T) : Prop := match X with
  | (p, e, R, s, m, args, below, meth, c, _, _, Q) => jn_C A f Z p R s m args meth c → ∀ (H : Heap) (locs : List Loc) (ls : Array Slot), va_P D vwCl ws H → va_K D vwCl tys s → va_D A ws → va_S A s.heap H locs → jw_l ls f.2.2.1 L → W p l e R s m args below meth c H locs nC nS Q (F0 m pc ls S)
theorem jn_w_oi : Cond.instanceMethod Lib.objectInit ∈ jw_ws := jw_in (by decide +kernel) (by decide +kernel)
theorem jn_w_oc : Cond.code Lib.objectInit ⟨#[0xb1]⟩ 1 none ∈ jw_ws := jw_in (by decide +kernel) (by decide +kernel)
theorem jn_w_ai : Cond.arrayClass (newarray.typeOf .int) ∈ jw_ws := jw_in (by decide +kernel) (by decide +kernel)
theorem jn_w_ab : Cond.arrayClass (newarray.typeOf .boolean) ∈ jw_ws := jw_in (by decide +kernel) (by decide +kernel)
section JN
variable {l : Launch} {X : jw_X0} {D : va_G} {A : Nat → Prop} {f : jw_F} {Z : Nat × Nat} {nC nS pc : Nat} {L : List (Option Value)} {S : List Value} {ws : va_W} {tys : jn_T}
theorem jn_iconst {n : Int} {v : Int32} (hd : decode f.2.1 pc = .ok (.iconst n, 1)) (hv : Int32.ofInt n = v) (h : jn_X l X D A f Z nC nS (pc + 1) L (.int v :: S) ws tys) : jn_X l X D A f Z nC nS pc L (S) ws tys := by
  obtain ⟨p, e, R, s, m, args, below, meth, c, cells, slots, Q⟩ := X
  intro C H locs ls hP hK hD hS hl
  exact lv_iconst C.1 C.2.1 hd hv (h C H locs ls hP hK hD hS hl)
theorem jn_bipush {n : Int} {v : Int32} (hd : decode f.2.1 pc = .ok (.bipush n, 2)) (hv : (Int8.ofInt n).toInt32 = v) (h : jn_X l X D A f Z nC nS (pc + 2) L (.int v :: S) ws tys) : jn_X l X D A f Z nC nS pc L (S) ws tys := by
  obtain ⟨p, e, R, s, m, args, below, meth, c, cells, slots, Q⟩ := X
  intro C H locs ls hP hK hD hS hl
  exact lv_bipush C.1 C.2.1 hd hv (h C H locs ls hP hK hD hS hl)
theorem jn_sipush {n : Int} {v : Int32} (hd : decode f.2.1 pc = .ok (.sipush n, 3)) (hv : (Int16.ofInt n).toInt32 = v) (h : jn_X l X D A f Z nC nS (pc + 3) L (.int v :: S) ws tys) : jn_X l X D A f Z nC nS pc L (S) ws tys := by
  obtain ⟨p, e, R, s, m, args, below, meth, c, cells, slots, Q⟩ := X
  intro C H locs ls hP hK hD hS hl
  exact lv_sipush C.1 C.2.1 hd hv (h C H locs ls hP hK hD hS hl)
theorem jn_iload_n {k : Fin 4} {i : Nat} {x : Int32} (hd : decode f.2.1 pc = .ok (.iload_n k, 1)) (hi : (k : Nat) = i) (hx : L[i]? = some (some (.int x))) (h : jn_X l X D A f Z nC nS (pc + 1) L (.int x :: S) ws tys) : jn_X l X D A f Z nC nS pc L (S) ws tys := by
  obtain ⟨p, e, R, s, m, args, below, meth, c, cells, slots, Q⟩ := X
  intro C H locs ls hP hK hD hS hl
  exact lv_iload_n C.1 C.2.1 hd hi (hl.2.2 _ _ hx).1 (h C H locs ls hP hK hD hS hl)
theorem jn_iload {i : Nat} {x : Int32} (hd : decode f.2.1 pc = .ok (.iload i, 2)) (hx : L[i]? = some (some (.int x))) (h : jn_X l X D A f Z nC nS (pc + 2) L (.int x :: S) ws tys) : jn_X l X D A f Z nC nS pc L (S) ws tys := by
  obtain ⟨p, e, R, s, m, args, below, meth, c, cells, slots, Q⟩ := X
  intro C H locs ls hP hK hD hS hl
  exact lv_iload C.1 C.2.1 hd (hl.2.2 _ _ hx).1 (h C H locs ls hP hK hD hS hl)
theorem jn_aload_n {k : Fin 4} {i : Nat} {x : Nat} (hd : decode f.2.1 pc = .ok (.aload_n k, 1)) (hi : (k : Nat) = i) (hx : L[i]? = some (some (.ref x))) (h : jn_X l X D A f Z nC nS (pc + 1) L (.ref x :: S) ws tys) : jn_X l X D A f Z nC nS pc L (S) ws tys := by
  obtain ⟨p, e, R, s, m, args, below, meth, c, cells, slots, Q⟩ := X
  intro C H locs ls hP hK hD hS hl
  exact lv_aload_n C.1 C.2.1 hd hi (hl.2.2 _ _ hx).1 (h C H locs ls hP hK hD hS hl)
theorem jn_istore {i : Nat} {x : Int32} (hd : decode f.2.1 pc = .ok (.istore i, 2)) (hn : i < f.2.2.1) (h : jn_X l X D A f Z nC nS (pc + 2) (L.set i (some (.int x))) (S) ws tys) : jn_X l X D A f Z nC nS pc L (.int x :: S) ws tys := by
  obtain ⟨p, e, R, s, m, args, below, meth, c, cells, slots, Q⟩ := X
  intro C H locs ls hP hK hD hS hl
  exact lv_istore C.1 C.2.1 hd (jw_l_has hl) hn rfl (fun ls' hl' => h C H locs ls' hP hK hD hS (jw_l_set hl rfl hl'))
theorem jn_istore_n {k : Fin 4} {i : Nat} {x : Int32} (hd : decode f.2.1 pc = .ok (.istore_n k, 1)) (hi : (k : Nat) = i) (hn : i < f.2.2.1) (h : jn_X l X D A f Z nC nS (pc + 1) (L.set i (some (.int x))) (S) ws tys) : jn_X l X D A f Z nC nS pc L (.int x :: S) ws tys := by
  obtain ⟨p, e, R, s, m, args, below, meth, c, cells, slots, Q⟩ := X
  intro C H locs ls hP hK hD hS hl
  exact lv_istore_n C.1 C.2.1 hd hi (jw_l_has hl) hn rfl (fun ls' hl' => h C H locs ls' hP hK hD hS (jw_l_set hl rfl hl'))
theorem jn_astore_n {k : Fin 4} {i : Nat} {x : Nat} (hd : decode f.2.1 pc = .ok (.astore_n k, 1)) (hi : (k : Nat) = i) (hn : i < f.2.2.1) (h : jn_X l X D A f Z nC nS (pc + 1) (L.set i (some (.ref x))) (S) ws tys) : jn_X l X D A f Z nC nS pc L (.ref x :: S) ws tys := by
  obtain ⟨p, e, R, s, m, args, below, meth, c, cells, slots, Q⟩ := X
  intro C H locs ls hP hK hD hS hl
  exact lv_astore_n C.1 C.2.1 hd hi (jw_l_has hl) hn rfl (fun ls' hl' => h C H locs ls' hP hK hD hS (jw_l_set hl rfl hl'))
theorem jn_iadd {x y : Int32} (hd : decode f.2.1 pc = .ok (.iadd, 1))  (h : jn_X l X D A f Z nC nS (pc + 1) L (.int (x + y) :: S) ws tys) : jn_X l X D A f Z nC nS pc L (.int y :: .int x :: S) ws tys := by
  obtain ⟨p, e, R, s, m, args, below, meth, c, cells, slots, Q⟩ := X
  intro C H locs ls hP hK hD hS hl
  exact lv_iadd C.1 C.2.1 hd (h C H locs ls hP hK hD hS hl)
theorem jn_iand {x y : Int32} (hd : decode f.2.1 pc = .ok (.iand, 1))  (h : jn_X l X D A f Z nC nS (pc + 1) L (.int (x &&& y) :: S) ws tys) : jn_X l X D A f Z nC nS pc L (.int y :: .int x :: S) ws tys := by
  obtain ⟨p, e, R, s, m, args, below, meth, c, cells, slots, Q⟩ := X
  intro C H locs ls hP hK hD hS hl
  exact lv_iand C.1 C.2.1 hd (h C H locs ls hP hK hD hS hl)
theorem jn_dup {v : Value} (hd : decode f.2.1 pc = .ok (.dup, 1)) (hc : v.category = 1) (h : jn_X l X D A f Z nC nS (pc + 1) L (v :: v :: S) ws tys) : jn_X l X D A f Z nC nS pc L (v :: S) ws tys := by
  obtain ⟨p, e, R, s, m, args, below, meth, c, cells, slots, Q⟩ := X
  intro C H locs ls hP hK hD hS hl
  exact lv_dup C.1 C.2.1 hd hc (h C H locs ls hP hK hD hS hl)
theorem jn_goto {off : Int} {tgt : Nat} (hd : decode f.2.1 pc = .ok (.goto off, 3)) (ht : (pc : Int) + off = (tgt : Int)) (h : jn_X l X D A f Z nC nS tgt L S ws tys) : jn_X l X D A f Z nC nS pc L S ws tys := by
  obtain ⟨p, e, R, s, m, args, below, meth, c, cells, slots, Q⟩ := X
  intro C H locs ls hP hK hD hS hl
  exact lv_goto C.1 C.2.1 hd ht (h C H locs ls hP hK hD hS hl)
theorem jn_icmp_ge {x y : Int32} {off : Int} {tgt : Nat} (hd : decode f.2.1 pc = .ok (.if_icmp .ge off, 3)) (ht : (pc : Int) + off = (tgt : Int)) (kt : y ≤ x → jn_X l X D A f Z nC nS tgt L S ws tys) (kf : ¬ y ≤ x → jn_X l X D A f Z nC nS (pc + 3) L S ws tys) : jn_X l X D A f Z nC nS pc L (.int y :: .int x :: S) ws tys := by
  obtain ⟨p, e, R, s, m, args, below, meth, c, cells, slots, Q⟩ := X
  intro C H locs ls hP hK hD hS hl
  exact lv_icmp_ge C.1 C.2.1 hd ht (fun hc => kt hc C H locs ls hP hK hD hS hl) (fun hc => kf hc C H locs ls hP hK hD hS hl)
theorem jn_iinc {i : Nat} {n : Int} {x d : Int32} (hd : decode f.2.1 pc = .ok (.iinc i n, 3)) (hx : L[i]? = some (some (.int x))) (hv : Int32.ofInt n = d) (hn : i < f.2.2.1) (h : jn_X l X D A f Z nC nS (pc + 3) (L.set i (some (.int (x + d)))) S ws tys) : jn_X l X D A f Z nC nS pc L S ws tys := by
  obtain ⟨p, e, R, s, m, args, below, meth, c, cells, slots, Q⟩ := X
  intro C H locs ls hP hK hD hS hl
  obtain ⟨k, hk⟩ := List.getElem?_of_mem (jw_mem_pr hx)
  exact lv_iinc (v := x + d) C.1 C.2.1 hd (jw_l_has hl) hk (by rw [hv]) hn rfl (fun ls' hl' => h C H locs ls' hP hK hD hS (jw_l_set hl rfl hl'))
theorem jn_mmin {x y : Int32} {idx : Nat} (hd : decode f.2.1 pc = .ok (.invokestatic idx, 3)) (h1 : Cond.methodLink f.1.cls idx Lib.Math.min.name ∈ jw_ws) (h5 : 1 ≤ f.2.2.2.2.1 ∧ 21 ≤ f.2.2.2.2.2) (h6 : (S.map fun v => v.category).sum ≤ 8) (h7 : nC ≤ Z.1 ∧ nS ≤ Z.2) (h : jn_X l X D A f Z nC nS (pc + 3) L (.int (if y < x then y else x) :: S) ws tys) : jn_X l X D A f Z nC nS pc L (.int y :: .int x :: S) ws tys := by
  obtain ⟨p, e, R, s, m, args, below, meth, c, cells, slots, Q⟩ := X
  intro C H locs ls hP hK hD hS hl
  have hR := C.2.2.2.2.2.2.2.2.1
  have hts := C.2.2.2.2.2.1
  exact va_mmin C.1 C.2.1 (C.2.2.2.1.trans hl.1.symm) C.2.2.2.2.1 (hts _ h1) (hts _ jw_w_min2) (hts _ jw_w_min3) (hts _ jw_w_min4) (Nat.le_trans h5.1 hR.1) (by have := hR.2.1; have := h5.2; omega) (Nat.le_trans h7.1 hR.2.2.1) (Nat.le_trans h7.2 hR.2.2.2) hd (h C H locs ls hP hK hD hS hl)
theorem jn_new {ci N idx : Nat} {Cn : String} {T : u_T} {ty : Nat → FieldType} {fs : List Value} (hd : decode f.2.1 pc = .ok (.new idx, 3)) (hc : vwCl[ci]? = some (Cn, T, N)) (ok : jw_okC Cn T N ty) (w1 : Cond.classLink f.1.cls idx Cn ∈ jw_ws) (w2 : Cond.instantiable Cn N ∈ jw_ws) (w3 : Cond.initialized Cn ∈ jw_ws) (hfs : ∀ j, j < N → defaultValue (ty j) = vp_V fs j) (h1 : nC + 1 ≤ Z.1) (h2 : nS + N ≤ Z.2) (h : ∀ q, jn_X l X D A f Z (nC + 1) (nS + N) (pc + 3) L (.ref q :: S) (ws ++ [(q, .inr (ci, fs))]) tys) : jn_X l X D A f Z nC nS pc L S ws tys := by
  obtain ⟨p, e, R, s, m, args, below, meth, c, cells, slots, Q⟩ := X
  intro C H locs ls hP hK hD hS hl
  have hR := C.2.2.2.2.2.2.2.2.1
  have hts := C.2.2.2.2.2.1
  exact va_new (ci := ci) (fs := fs) (C := Cn) (T := T) (N := N) C.1 C.2.1 hts ok.1 ty ok.2.1 C.2.2.2.2.1 (hts _ w1) (hts _ w2) (hts _ w3) hK hP hD hS C.2.2.2.2.2.2.2.1 hc hfs (Nat.le_trans h1 hR.2.2.1) (Nat.le_trans h2 hR.2.2.2) hd (fun q H1 hP1 hD1 hS1 => h q C H1 locs ls hP1 hK hD1 hS1 hl)
theorem jn_newa {atype : ArrayType} {ty : FieldType} {n : Int32} {N : Nat} (hd : decode f.2.1 pc = .ok (.newarray atype, 2)) (w : Cond.arrayClass (newarray.typeOf atype) ∈ jw_ws) (hty : newarray.typeOf atype = ty) (ha : ∀ cA : ClassId, vp_cell cA (N, .inl (fun _ => 0)) = arrV cA N (fun _ => defaultValue ty)) (hn : ¬ n < 0) (hN : n.toNatClampNeg = N) (hb : N * componentBytes ty ≤ 536870912) (h1 : nC + 1 ≤ Z.1) (h2 : nS + N ≤ Z.2) (h : ∀ q cA, jn_X l X D A f Z (nC + 1) (nS + N) (pc + 2) L (.ref q :: S) (ws ++ [(q, .inl (cA, N, .inl (fun _ => 0)))]) (tys ++ [(cA, ty)])) : jn_X l X D A f Z nC nS pc L (.int n :: S) ws tys := by
  obtain ⟨p, e, R, s, m, args, below, meth, c, cells, slots, Q⟩ := X
  intro C H locs ls hP hK hD hS hl
  have hR := C.2.2.2.2.2.2.2.2.1
  have hts := C.2.2.2.2.2.1
  exact va_newa (a0 := (N, .inl (fun _ => 0))) C.1 C.2.1 (hts _ w) hty hK hP hD hS C.2.2.2.2.2.2.2.1 ha hn hN hb (Nat.le_trans h1 hR.2.2.1) (Nat.le_trans h2 hR.2.2.2) hd (fun q cA H1 hK1 hP1 hD1 hS1 => h q cA C H1 locs ls hP1 hK1 hD1 hS1 hl)
theorem jn_newq {Cn : String} {idx N : Nat} {n : Int32} (hd : decode f.2.1 pc = .ok (.anewarray idx, 3)) (w : Cond.classLink f.1.cls idx Cn ∈ jw_ws) (w2 : ∀ U, va_AO R_N U ∧ va_AO R_C U → va_AO Cn U) (hn : ¬ n < 0) (hN : n.toNatClampNeg = N) (hb : N * 4 ≤ 536870912) (h1 : nC + 1 ≤ Z.1) (h2 : nS + N ≤ Z.2) (h : ∀ q cA, jn_X l X D A f Z (nC + 1) (nS + N) (pc + 3) L (.ref q :: S) (ws ++ [(q, .inl (cA, N, .inr (.inr (.inr (.inr (fun _ => none))))))]) (tys ++ [(cA, .object Cn)])) : jn_X l X D A f Z nC nS pc L (.int n :: S) ws tys := by
  obtain ⟨p, e, R, s, m, args, below, meth, c, cells, slots, Q⟩ := X
  intro C H locs ls hP hK hD hS hl
  have hR := C.2.2.2.2.2.2.2.2.1
  have hts := C.2.2.2.2.2.1
  exact va_newq C.1 C.2.1 C.2.2.2.2.1 (hts _ w) (w2 _ C.2.2.2.2.2.2.2.2.2.2) hK hP hD hS C.2.2.2.2.2.2.2.1 hn hN hb (Nat.le_trans h1 hR.2.2.1) (Nat.le_trans h2 hR.2.2.2) hd (fun q cA H1 hK1 hP1 hD1 hS1 => h q cA C H1 locs ls hP1 hK1 hD1 hS1 hl)
theorem jn_get {i a ci j N idx : Nat} {fs : List Value} {Cn : String} {T : u_T} {ty : Nat → FieldType} {v : Value} (hd : decode f.2.1 pc = .ok (.getfield idx, 3)) (hi : ws[i]? = some (a, .inr (ci, fs))) (hc : vwCl[ci]? = some (Cn, T, N)) (ok : jw_okC Cn T N ty) (hj : j < N) (hlink : Cond.fieldLink f.1.cls idx (T j).1 (T j).2.1 (T j).2.2.1 ∈ jw_ws) (hv : fs[j]? = some v) (h : jn_X l X D A f Z nC nS (pc + 3) L (v :: S) ws tys) : jn_X l X D A f Z nC nS pc L (.ref a :: S) ws tys := by
  obtain ⟨p, e, R, s, m, args, below, meth, c, cells, slots, Q⟩ := X
  intro C H locs ls hP hK hD hS hl
  exact va_get (D := D) (ci := ci) (C := Cn) (T := T) (N := N) C.1 C.2.1 C.2.2.2.2.2.1 ok.1 C.2.2.2.2.1 hK hP i hi hc j hj (C.2.2.2.2.2.1 _ hlink) (fun _ h9 => h9) hv hd (h C H locs ls hP hK hD hS hl)
theorem jn_putF {i a ci j N idx : Nat} {fs : List Value} {Cn : String} {T : u_T} {ty : Nat → FieldType} {v : Value} (hd : decode f.2.1 pc = .ok (.putfield idx, 3)) (hi : ws[i]? = some (a, .inr (ci, fs))) (hc : vwCl[ci]? = some (Cn, T, N)) (ok : jw_okC Cn T N ty) (hj : j < N) (hlink : Cond.fieldLink f.1.cls idx (T j).1 (T j).2.1 (T j).2.2.1 ∈ jw_ws) (hfin : (T j).2.2.2 = true) (hinit : f.1.name = "<init>") (hdecl : (T j).1 = f.1.cls) (hn : narrow (ty j) v = v) (hf : fits (ty j) v = true) (hl0 : j < fs.length) (h : jn_X l X D A f Z nC nS (pc + 3) L S (ws.set i (a, .inr (ci, fs.set j v))) tys) : jn_X l X D A f Z nC nS pc L (v :: .ref a :: S) ws tys := by
  obtain ⟨p, e, R, s, m, args, below, meth, c, cells, slots, Q⟩ := X
  intro C H locs ls hP hK hD hS hl
  exact va_putF (D := D) (ci := ci) (C := Cn) (T := T) (N := N) C.1 C.2.1 C.2.2.2.2.2.1 ok.1 ty ok.2.1 ok.2.2 C.2.2.2.2.1 hK hP hD hS i hi hc j hj (C.2.2.2.2.2.1 _ hlink) (fun _ h9 => h9) hfin (C.2.2.2.2.2.2.2.2.2.1 hinit) hdecl (ok.2.1 j hj) hn hf hl0 hd (fun H1 locs1 hP1 hD1 hS1 => h C H1 locs1 ls hP1 hK hD1 hS1 hl)
theorem jn_put {i a ci j N idx : Nat} {fs : List Value} {Cn : String} {T : u_T} {ty : Nat → FieldType} {v : Value} (hd : decode f.2.1 pc = .ok (.putfield idx, 3)) (hi : ws[i]? = some (a, .inr (ci, fs))) (hc : vwCl[ci]? = some (Cn, T, N)) (ok : jw_okC Cn T N ty) (hj : j < N) (hlink : Cond.fieldLink f.1.cls idx (T j).1 (T j).2.1 (T j).2.2.1 ∈ jw_ws) (hfin : (T j).2.2.2 = false) (hn : narrow (ty j) v = v) (hf : fits (ty j) v = true) (hl0 : j < fs.length) (h : jn_X l X D A f Z nC nS (pc + 3) L S (ws.set i (a, .inr (ci, fs.set j v))) tys) : jn_X l X D A f Z nC nS pc L (v :: .ref a :: S) ws tys := by
  obtain ⟨p, e, R, s, m, args, below, meth, c, cells, slots, Q⟩ := X
  intro C H locs ls hP hK hD hS hl
  exact va_put (D := D) (ci := ci) (C := Cn) (T := T) (N := N) C.1 C.2.1 C.2.2.2.2.2.1 ok.1 ty ok.2.1 ok.2.2 C.2.2.2.2.1 hK hP hD hS i hi hc j hj (C.2.2.2.2.2.1 _ hlink) (fun _ h9 => h9) hfin (ok.2.1 j hj) hn hf hl0 hd (fun H1 locs1 hP1 hD1 hS1 => h C H1 locs1 ls hP1 hK hD1 hS1 hl)
theorem jn_astore {i i2 t0 a v ci n : Nat} {cA : ClassId} {r : vw_C} {g : Nat → Option Nat} {vs : List Value} {x : Int32} (hd : decode f.2.1 pc = .ok (.aastore, 1)) (hi : ws[i]? = some (a, .inl (cA, n, .inr (.inr (.inr (.inr g)))))) (ht : tys[t0]? = some (cA, .object r.1)) (hv : ws[i2]? = some (v, .inr (ci, vs))) (hc : vwCl[ci]? = some r) (hin : vp_in x n) (h : jn_X l X D A f Z nC nS (pc + 1) L S (ws.set i (a, .inl (cA, n, .inr (.inr (.inr (.inr (va_up g x.toNatClampNeg (some v)))))))) tys) : jn_X l X D A f Z nC nS pc L (.ref v :: .int x :: .ref a :: S) ws tys := by
  obtain ⟨p, e, R, s, m, args, below, meth, c, cells, slots, Q⟩ := X
  intro C H locs ls hP hK hD hS hl
  exact va_astq C.1 C.2.1 hK hP hD hS i t0 i2 ci hi ht hv hc hin hd (fun H1 locs1 hP1 hD1 hS1 => h C H1 locs1 ls hP1 hK hD1 hS1 hl)
theorem jn_obj {idx a : Nat} (hd : decode f.2.1 pc = .ok (.invokespecial idx, 3)) (w : Cond.methodLink f.1.cls idx Lib.objectInit ∈ jw_ws) (h5 : 1 ≤ f.2.2.2.2.1 ∧ 20 ≤ f.2.2.2.2.2) (h6 : (S.map fun v => v.category).sum ≤ 8) (h : jn_X l X D A f Z nC nS (pc + 3) L S ws tys) : jn_X l X D A f Z nC nS pc L (.ref a :: S) ws tys := by
  obtain ⟨p, e, R, s, m, args, below, meth, c, cells, slots, Q⟩ := X
  intro C H locs ls hP hK hD hS hl
  have hR := C.2.2.2.2.2.2.2.2.1
  have hts := C.2.2.2.2.2.1
  exact W.objInit C.1 C.2.1 C.2.2.2.2.1 (hts _ w) (hts _ jn_w_oi) (hts _ jn_w_oc) rfl (hl.1.trans C.2.2.2.1.symm) rfl hd (Nat.le_trans h5.1 hR.1) (by show 2 * 0 + _ + 12 ≤ _; have := hR.2.1; have := h5.2; omega) (h C H locs ls hP hK hD hS hl)
end JN
