/-! Rules of jw_X: an instruction each. -/
section JR
variable {l : Launch} {X : jw_X0} {E : jw_E} {A : Nat → Prop} {f : jw_F} {pc : Nat} {L : List (Option Value)} {S : List Value} {M : jw_Mem}
theorem jw_iconst {n : Int} {v : Int32} (hd : decode f.2.1 pc = .ok (.iconst n, 1)) (hv : Int32.ofInt n = v) (h : jw_X l X E A f (pc + 1) L (.int v :: S) M) : jw_X l X E A f pc L S M := by
  obtain ⟨p, e, R, s, m, args, below, meth, c, cells, slots, Q⟩ := X
  intro C H locs ls hP hS hl
  exact lv_iconst C.1 C.2.1 hd hv (h C H locs ls hP hS hl)
theorem jw_bipush {n : Int} {v : Int32} (hd : decode f.2.1 pc = .ok (.bipush n, 2)) (hv : (Int8.ofInt n).toInt32 = v) (h : jw_X l X E A f (pc + 2) L (.int v :: S) M) : jw_X l X E A f pc L S M := by
  obtain ⟨p, e, R, s, m, args, below, meth, c, cells, slots, Q⟩ := X
  intro C H locs ls hP hS hl
  exact lv_bipush C.1 C.2.1 hd hv (h C H locs ls hP hS hl)
theorem jw_sipush {n : Int} {v : Int32} (hd : decode f.2.1 pc = .ok (.sipush n, 3)) (hv : (Int16.ofInt n).toInt32 = v) (h : jw_X l X E A f (pc + 3) L (.int v :: S) M) : jw_X l X E A f pc L S M := by
  obtain ⟨p, e, R, s, m, args, below, meth, c, cells, slots, Q⟩ := X
  intro C H locs ls hP hS hl
  exact lv_sipush C.1 C.2.1 hd hv (h C H locs ls hP hS hl)
theorem jw_iload_n {k : Fin 4} {i : Nat} {x : Int32} (hd : decode f.2.1 pc = .ok (.iload_n k, 1)) (hi : (k : Nat) = i) (hx : L[i]? = some (some (.int x))) (h : jw_X l X E A f (pc + 1) L (.int x :: S) M) : jw_X l X E A f pc L S M := by
  obtain ⟨p, e, R, s, m, args, below, meth, c, cells, slots, Q⟩ := X
  intro C H locs ls hP hS hl
  exact lv_iload_n C.1 C.2.1 hd hi (hl.2.2 _ _ hx).1 (h C H locs ls hP hS hl)
theorem jw_iload {i : Nat} {x : Int32} (hd : decode f.2.1 pc = .ok (.iload i, 2)) (hx : L[i]? = some (some (.int x))) (h : jw_X l X E A f (pc + 2) L (.int x :: S) M) : jw_X l X E A f pc L S M := by
  obtain ⟨p, e, R, s, m, args, below, meth, c, cells, slots, Q⟩ := X
  intro C H locs ls hP hS hl
  exact lv_iload C.1 C.2.1 hd (hl.2.2 _ _ hx).1 (h C H locs ls hP hS hl)
theorem jw_istore_n {k : Fin 4} {i : Nat} {x : Int32} (hd : decode f.2.1 pc = .ok (.istore_n k, 1)) (hi : (k : Nat) = i) (hn : i < f.2.2.1) (h : jw_X l X E A f (pc + 1) (L.set i (some (.int x))) S M) : jw_X l X E A f pc L (.int x :: S) M := by
  obtain ⟨p, e, R, s, m, args, below, meth, c, cells, slots, Q⟩ := X
  intro C H locs ls hP hS hl
  exact lv_istore_n C.1 C.2.1 hd hi (jw_l_has hl) hn rfl (fun ls' hl' => h C H locs ls' hP hS (jw_l_set hl rfl hl'))
theorem jw_istore {i : Nat} {x : Int32} (hd : decode f.2.1 pc = .ok (.istore i, 2)) (hn : i < f.2.2.1) (h : jw_X l X E A f (pc + 2) (L.set i (some (.int x))) S M) : jw_X l X E A f pc L (.int x :: S) M := by
  obtain ⟨p, e, R, s, m, args, below, meth, c, cells, slots, Q⟩ := X
  intro C H locs ls hP hS hl
  exact lv_istore C.1 C.2.1 hd (jw_l_has hl) hn rfl (fun ls' hl' => h C H locs ls' hP hS (jw_l_set hl rfl hl'))
theorem jw_aload_n {k : Fin 4} {i : Nat} {x : Nat} (hd : decode f.2.1 pc = .ok (.aload_n k, 1)) (hi : (k : Nat) = i) (hx : L[i]? = some (some (.ref x))) (h : jw_X l X E A f (pc + 1) L (.ref x :: S) M) : jw_X l X E A f pc L S M := by
  obtain ⟨p, e, R, s, m, args, below, meth, c, cells, slots, Q⟩ := X
  intro C H locs ls hP hS hl
  exact lv_aload_n C.1 C.2.1 hd hi (hl.2.2 _ _ hx).1 (h C H locs ls hP hS hl)
theorem jw_aload {i : Nat} {x : Nat} (hd : decode f.2.1 pc = .ok (.aload i, 2)) (hx : L[i]? = some (some (.ref x))) (h : jw_X l X E A f (pc + 2) L (.ref x :: S) M) : jw_X l X E A f pc L S M := by
  obtain ⟨p, e, R, s, m, args, below, meth, c, cells, slots, Q⟩ := X
  intro C H locs ls hP hS hl
  exact lv_aload C.1 C.2.1 hd (hl.2.2 _ _ hx).1 (h C H locs ls hP hS hl)
theorem jw_astore_n {k : Fin 4} {i : Nat} {x : Nat} (hd : decode f.2.1 pc = .ok (.astore_n k, 1)) (hi : (k : Nat) = i) (hn : i < f.2.2.1) (h : jw_X l X E A f (pc + 1) (L.set i (some (.ref x))) S M) : jw_X l X E A f pc L (.ref x :: S) M := by
  obtain ⟨p, e, R, s, m, args, below, meth, c, cells, slots, Q⟩ := X
  intro C H locs ls hP hS hl
  exact lv_astore_n C.1 C.2.1 hd hi (jw_l_has hl) hn rfl (fun ls' hl' => h C H locs ls' hP hS (jw_l_set hl rfl hl'))
theorem jw_astore {i : Nat} {x : Nat} (hd : decode f.2.1 pc = .ok (.astore i, 2)) (hn : i < f.2.2.1) (h : jw_X l X E A f (pc + 2) (L.set i (some (.ref x))) S M) : jw_X l X E A f pc L (.ref x :: S) M := by
  obtain ⟨p, e, R, s, m, args, below, meth, c, cells, slots, Q⟩ := X
  intro C H locs ls hP hS hl
  exact lv_astore C.1 C.2.1 hd (jw_l_has hl) hn rfl (fun ls' hl' => h C H locs ls' hP hS (jw_l_set hl rfl hl'))
theorem jw_iinc {i : Nat} {n : Int} {x d : Int32} (hd : decode f.2.1 pc = .ok (.iinc i n, 3)) (hx : L[i]? = some (some (.int x))) (hv : Int32.ofInt n = d) (hn : i < f.2.2.1) (h : jw_X l X E A f (pc + 3) (L.set i (some (.int (x + d)))) S M) : jw_X l X E A f pc L S M := by
  obtain ⟨p, e, R, s, m, args, below, meth, c, cells, slots, Q⟩ := X
  intro C H locs ls hP hS hl
  obtain ⟨k, hk⟩ := List.getElem?_of_mem (jw_mem_pr hx)
  exact lv_iinc (v := x + d) C.1 C.2.1 hd (jw_l_has hl) hk (by rw [hv]) hn rfl (fun ls' hl' => h C H locs ls' hP hS (jw_l_set hl rfl hl'))
theorem jw_iadd {x y : Int32} (hd : decode f.2.1 pc = .ok (.iadd, 1)) (h : jw_X l X E A f (pc + 1) L (.int (x + y) :: S) M) : jw_X l X E A f pc L (.int y :: .int x :: S) M := by
  obtain ⟨p, e, R, s, m, args, below, meth, c, cells, slots, Q⟩ := X
  intro C H locs ls hP hS hl
  exact lv_iadd C.1 C.2.1 hd (h C H locs ls hP hS hl)
theorem jw_isub {x y : Int32} (hd : decode f.2.1 pc = .ok (.isub, 1)) (h : jw_X l X E A f (pc + 1) L (.int (x - y) :: S) M) : jw_X l X E A f pc L (.int y :: .int x :: S) M := by
  obtain ⟨p, e, R, s, m, args, below, meth, c, cells, slots, Q⟩ := X
  intro C H locs ls hP hS hl
  exact lv_isub C.1 C.2.1 hd (h C H locs ls hP hS hl)
theorem jw_imul {x y : Int32} (hd : decode f.2.1 pc = .ok (.imul, 1)) (h : jw_X l X E A f (pc + 1) L (.int (x * y) :: S) M) : jw_X l X E A f pc L (.int y :: .int x :: S) M := by
  obtain ⟨p, e, R, s, m, args, below, meth, c, cells, slots, Q⟩ := X
  intro C H locs ls hP hS hl
  exact lv_imul C.1 C.2.1 hd (h C H locs ls hP hS hl)
theorem jw_iand {x y : Int32} (hd : decode f.2.1 pc = .ok (.iand, 1)) (h : jw_X l X E A f (pc + 1) L (.int (x &&& y) :: S) M) : jw_X l X E A f pc L (.int y :: .int x :: S) M := by
  obtain ⟨p, e, R, s, m, args, below, meth, c, cells, slots, Q⟩ := X
  intro C H locs ls hP hS hl
  exact lv_iand C.1 C.2.1 hd (h C H locs ls hP hS hl)
theorem jw_idiv {x y : Int32} (hd : decode f.2.1 pc = .ok (.idiv, 1)) (hne : ¬ y = 0) (h : jw_X l X E A f (pc + 1) L (.int (x / y) :: S) M) : jw_X l X E A f pc L (.int y :: .int x :: S) M := by
  obtain ⟨p, e, R, s, m, args, below, meth, c, cells, slots, Q⟩ := X
  intro C H locs ls hP hS hl
  exact lv_idiv C.1 C.2.1 hd hne (h C H locs ls hP hS hl)
theorem jw_irem {x y : Int32} (hd : decode f.2.1 pc = .ok (.irem, 1)) (hne : ¬ y = 0) (h : jw_X l X E A f (pc + 1) L (.int (x - x / y * y) :: S) M) : jw_X l X E A f pc L (.int y :: .int x :: S) M := by
  obtain ⟨p, e, R, s, m, args, below, meth, c, cells, slots, Q⟩ := X
  intro C H locs ls hP hS hl
  exact lv_irem C.1 C.2.1 hd hne (h C H locs ls hP hS hl)
theorem jw_dup {v : Value} (hd : decode f.2.1 pc = .ok (.dup, 1)) (hc : v.category = 1) (h : jw_X l X E A f (pc + 1) L (v :: v :: S) M) : jw_X l X E A f pc L (v :: S) M := by
  obtain ⟨p, e, R, s, m, args, below, meth, c, cells, slots, Q⟩ := X
  intro C H locs ls hP hS hl
  exact lv_dup C.1 C.2.1 hd hc (h C H locs ls hP hS hl)
theorem jw_pop {v : Value} (hd : decode f.2.1 pc = .ok (.pop, 1)) (hc : v.category = 1) (h : jw_X l X E A f (pc + 1) L S M) : jw_X l X E A f pc L (v :: S) M := by
  obtain ⟨p, e, R, s, m, args, below, meth, c, cells, slots, Q⟩ := X
  intro C H locs ls hP hS hl
  exact lv_pop C.1 C.2.1 hd hc (h C H locs ls hP hS hl)
theorem jw_goto {off : Int} {tgt : Nat} (hd : decode f.2.1 pc = .ok (.goto off, 3)) (ht : (pc : Int) + off = (tgt : Int)) (h : jw_X l X E A f tgt L S M) : jw_X l X E A f pc L S M := by
  obtain ⟨p, e, R, s, m, args, below, meth, c, cells, slots, Q⟩ := X
  intro C H locs ls hP hS hl
  exact lv_goto C.1 C.2.1 hd ht (h C H locs ls hP hS hl)
theorem jw_if_eq {x : Int32} {off : Int} {tgt : Nat} (hd : decode f.2.1 pc = .ok (.ifCond .eq off, 3)) (ht : (pc : Int) + off = (tgt : Int)) (kt : x = 0 → jw_X l X E A f tgt L S M) (kf : ¬ x = 0 → jw_X l X E A f (pc + 3) L S M) : jw_X l X E A f pc L (.int x :: S) M := by
  obtain ⟨p, e, R, s, m, args, below, meth, c, cells, slots, Q⟩ := X
  intro C H locs ls hP hS hl
  exact lv_if_eq C.1 C.2.1 hd ht (fun z => kt z C H locs ls hP hS hl) (fun z => kf z C H locs ls hP hS hl)
theorem jw_icmp_eq {x y : Int32} {off : Int} {tgt : Nat} (hd : decode f.2.1 pc = .ok (.if_icmp .eq off, 3)) (ht : (pc : Int) + off = (tgt : Int)) (kt : x = y → jw_X l X E A f tgt L S M) (kf : ¬ x = y → jw_X l X E A f (pc + 3) L S M) : jw_X l X E A f pc L (.int y :: .int x :: S) M := by
  obtain ⟨p, e, R, s, m, args, below, meth, c, cells, slots, Q⟩ := X
  intro C H locs ls hP hS hl
  exact lv_icmp_eq C.1 C.2.1 hd ht (fun z => kt z C H locs ls hP hS hl) (fun z => kf z C H locs ls hP hS hl)
theorem jw_if_ne {x : Int32} {off : Int} {tgt : Nat} (hd : decode f.2.1 pc = .ok (.ifCond .ne off, 3)) (ht : (pc : Int) + off = (tgt : Int)) (kt : ¬ x = 0 → jw_X l X E A f tgt L S M) (kf : x = 0 → jw_X l X E A f (pc + 3) L S M) : jw_X l X E A f pc L (.int x :: S) M := by
  obtain ⟨p, e, R, s, m, args, below, meth, c, cells, slots, Q⟩ := X
  intro C H locs ls hP hS hl
  exact lv_if_ne C.1 C.2.1 hd ht (fun z => kt z C H locs ls hP hS hl) (fun z => kf z C H locs ls hP hS hl)
theorem jw_icmp_ne {x y : Int32} {off : Int} {tgt : Nat} (hd : decode f.2.1 pc = .ok (.if_icmp .ne off, 3)) (ht : (pc : Int) + off = (tgt : Int)) (kt : ¬ x = y → jw_X l X E A f tgt L S M) (kf : x = y → jw_X l X E A f (pc + 3) L S M) : jw_X l X E A f pc L (.int y :: .int x :: S) M := by
  obtain ⟨p, e, R, s, m, args, below, meth, c, cells, slots, Q⟩ := X
  intro C H locs ls hP hS hl
  exact lv_icmp_ne C.1 C.2.1 hd ht (fun z => kt z C H locs ls hP hS hl) (fun z => kf z C H locs ls hP hS hl)
theorem jw_if_lt {x : Int32} {off : Int} {tgt : Nat} (hd : decode f.2.1 pc = .ok (.ifCond .lt off, 3)) (ht : (pc : Int) + off = (tgt : Int)) (kt : x < 0 → jw_X l X E A f tgt L S M) (kf : ¬ x < 0 → jw_X l X E A f (pc + 3) L S M) : jw_X l X E A f pc L (.int x :: S) M := by
  obtain ⟨p, e, R, s, m, args, below, meth, c, cells, slots, Q⟩ := X
  intro C H locs ls hP hS hl
  exact lv_if_lt C.1 C.2.1 hd ht (fun z => kt z C H locs ls hP hS hl) (fun z => kf z C H locs ls hP hS hl)
theorem jw_icmp_lt {x y : Int32} {off : Int} {tgt : Nat} (hd : decode f.2.1 pc = .ok (.if_icmp .lt off, 3)) (ht : (pc : Int) + off = (tgt : Int)) (kt : x < y → jw_X l X E A f tgt L S M) (kf : ¬ x < y → jw_X l X E A f (pc + 3) L S M) : jw_X l X E A f pc L (.int y :: .int x :: S) M := by
  obtain ⟨p, e, R, s, m, args, below, meth, c, cells, slots, Q⟩ := X
  intro C H locs ls hP hS hl
  exact lv_icmp_lt C.1 C.2.1 hd ht (fun z => kt z C H locs ls hP hS hl) (fun z => kf z C H locs ls hP hS hl)
theorem jw_if_ge {x : Int32} {off : Int} {tgt : Nat} (hd : decode f.2.1 pc = .ok (.ifCond .ge off, 3)) (ht : (pc : Int) + off = (tgt : Int)) (kt : 0 ≤ x → jw_X l X E A f tgt L S M) (kf : ¬ 0 ≤ x → jw_X l X E A f (pc + 3) L S M) : jw_X l X E A f pc L (.int x :: S) M := by
  obtain ⟨p, e, R, s, m, args, below, meth, c, cells, slots, Q⟩ := X
  intro C H locs ls hP hS hl
  exact lv_if_ge C.1 C.2.1 hd ht (fun z => kt z C H locs ls hP hS hl) (fun z => kf z C H locs ls hP hS hl)
theorem jw_icmp_ge {x y : Int32} {off : Int} {tgt : Nat} (hd : decode f.2.1 pc = .ok (.if_icmp .ge off, 3)) (ht : (pc : Int) + off = (tgt : Int)) (kt : y ≤ x → jw_X l X E A f tgt L S M) (kf : ¬ y ≤ x → jw_X l X E A f (pc + 3) L S M) : jw_X l X E A f pc L (.int y :: .int x :: S) M := by
  obtain ⟨p, e, R, s, m, args, below, meth, c, cells, slots, Q⟩ := X
  intro C H locs ls hP hS hl
  exact lv_icmp_ge C.1 C.2.1 hd ht (fun z => kt z C H locs ls hP hS hl) (fun z => kf z C H locs ls hP hS hl)
theorem jw_if_gt {x : Int32} {off : Int} {tgt : Nat} (hd : decode f.2.1 pc = .ok (.ifCond .gt off, 3)) (ht : (pc : Int) + off = (tgt : Int)) (kt : 0 < x → jw_X l X E A f tgt L S M) (kf : ¬ 0 < x → jw_X l X E A f (pc + 3) L S M) : jw_X l X E A f pc L (.int x :: S) M := by
  obtain ⟨p, e, R, s, m, args, below, meth, c, cells, slots, Q⟩ := X
  intro C H locs ls hP hS hl
  exact lv_if_gt C.1 C.2.1 hd ht (fun z => kt z C H locs ls hP hS hl) (fun z => kf z C H locs ls hP hS hl)
theorem jw_icmp_gt {x y : Int32} {off : Int} {tgt : Nat} (hd : decode f.2.1 pc = .ok (.if_icmp .gt off, 3)) (ht : (pc : Int) + off = (tgt : Int)) (kt : y < x → jw_X l X E A f tgt L S M) (kf : ¬ y < x → jw_X l X E A f (pc + 3) L S M) : jw_X l X E A f pc L (.int y :: .int x :: S) M := by
  obtain ⟨p, e, R, s, m, args, below, meth, c, cells, slots, Q⟩ := X
  intro C H locs ls hP hS hl
  exact lv_icmp_gt C.1 C.2.1 hd ht (fun z => kt z C H locs ls hP hS hl) (fun z => kf z C H locs ls hP hS hl)
theorem jw_if_le {x : Int32} {off : Int} {tgt : Nat} (hd : decode f.2.1 pc = .ok (.ifCond .le off, 3)) (ht : (pc : Int) + off = (tgt : Int)) (kt : x ≤ 0 → jw_X l X E A f tgt L S M) (kf : ¬ x ≤ 0 → jw_X l X E A f (pc + 3) L S M) : jw_X l X E A f pc L (.int x :: S) M := by
  obtain ⟨p, e, R, s, m, args, below, meth, c, cells, slots, Q⟩ := X
  intro C H locs ls hP hS hl
  exact lv_if_le C.1 C.2.1 hd ht (fun z => kt z C H locs ls hP hS hl) (fun z => kf z C H locs ls hP hS hl)
theorem jw_icmp_le {x y : Int32} {off : Int} {tgt : Nat} (hd : decode f.2.1 pc = .ok (.if_icmp .le off, 3)) (ht : (pc : Int) + off = (tgt : Int)) (kt : x ≤ y → jw_X l X E A f tgt L S M) (kf : ¬ x ≤ y → jw_X l X E A f (pc + 3) L S M) : jw_X l X E A f pc L (.int y :: .int x :: S) M := by
  obtain ⟨p, e, R, s, m, args, below, meth, c, cells, slots, Q⟩ := X
  intro C H locs ls hP hS hl
  exact lv_icmp_le C.1 C.2.1 hd ht (fun z => kt z C H locs ls hP hS hl) (fun z => kf z C H locs ls hP hS hl)
theorem jw_ireturn {r : Int32} {ty : FieldType} (hd : decode f.2.1 pc = .ok (.ireturn, 1)) (h0 : f.2.2.2.1 = some ty) (h : jw_R l X E A f r M) : jw_X l X E A f pc L [.int r] M := by
  obtain ⟨p, e, R, s, m, args, below, meth, c, cells, slots, Q⟩ := X
  intro C H locs ls hP hS hl
  exact (h C H locs pc ls hP hS).2 ty h0 hd
theorem jw_return (hd : decode f.2.1 pc = .ok (.return_, 1)) (h0 : f.2.2.2.1 = none) (h : jw_R l X E A f 0 M) : jw_X l X E A f pc L [] M := by
  obtain ⟨p, e, R, s, m, args, below, meth, c, cells, slots, Q⟩ := X
  intro C H locs ls hP hS hl
  exact (h C H locs pc ls hP hS).1 h0 rfl hd
/-- cells by their kinds -/
theorem jw_cont_0 {k ci : Nat} {rs : List (Option Nat)} {μ : Nat → Int32} (hk : E.2.2.2.1[k]? = some (0, ci, rs)) : jw_cont E k μ = .inr (ci, jw_fs E rs μ) := by simp only [jw_cont, hk]
theorem jw_cont_1 {k n : Nat} {rs : List (Option Nat)} {μ : Nat → Int32} (hk : E.2.2.2.1[k]? = some (1, n, rs)) : jw_cont E k μ = .inl (E.2.1 k, n, .inl μ) := by simp only [jw_cont, hk]
theorem jw_cont_2 {k n : Nat} {rs : List (Option Nat)} {μ : Nat → Int32} (hk : E.2.2.2.1[k]? = some (2, n, rs)) : jw_cont E k μ = .inl (E.2.1 k, n, .inl μ) := by simp only [jw_cont, hk]
theorem jw_cont_3 {k n : Nat} {rs : List (Option Nat)} {μ : Nat → Int32} (hk : E.2.2.2.1[k]? = some (3, n, rs)) : jw_cont E k μ = .inl (E.2.1 k, n, .inr (.inr (.inr (.inr (fun i => (rs.getD i none).map E.2.2.1))))) := by simp only [jw_cont, hk]
theorem jw_cont_4 {k n : Nat} {rs : List (Option Nat)} {μ : Nat → Int32} (hk : E.2.2.2.1[k]? = some (4, n, rs)) : jw_cont E k μ = .inl (E.2.1 k, n, .inr (.inr (.inr (.inr (fun i => (rs.getD i none).map E.2.2.1))))) := by simp only [jw_cont, hk]
theorem jw_at_0 {k ci : Nat} {rs : List (Option Nat)} (hk : E.2.2.2.1[k]? = some (0, ci, rs)) : (jw_W E M)[k]? = some (E.2.2.1 k, .inr (ci, jw_fs E rs (M k))) := by rw [jw_W_at (jw_lt hk), jw_cont_0 hk]
theorem jw_at_1 {k n : Nat} {rs : List (Option Nat)} (hk : E.2.2.2.1[k]? = some (1, n, rs)) : (jw_W E M)[k]? = some (E.2.2.1 k, .inl (E.2.1 k, n, .inl (M k))) := by rw [jw_W_at (jw_lt hk), jw_cont_1 hk]
theorem jw_at_2 {k n : Nat} {rs : List (Option Nat)} (hk : E.2.2.2.1[k]? = some (2, n, rs)) : (jw_W E M)[k]? = some (E.2.2.1 k, .inl (E.2.1 k, n, .inl (M k))) := by rw [jw_W_at (jw_lt hk), jw_cont_2 hk]
theorem jw_at_3 {k n : Nat} {rs : List (Option Nat)} (hk : E.2.2.2.1[k]? = some (3, n, rs)) : (jw_W E M)[k]? = some (E.2.2.1 k, .inl (E.2.1 k, n, .inr (.inr (.inr (.inr (fun i => (rs.getD i none).map E.2.2.1)))))) := by rw [jw_W_at (jw_lt hk), jw_cont_3 hk]
theorem jw_at_4 {k n : Nat} {rs : List (Option Nat)} (hk : E.2.2.2.1[k]? = some (4, n, rs)) : (jw_W E M)[k]? = some (E.2.2.1 k, .inl (E.2.1 k, n, .inr (.inr (.inr (.inr (fun i => (rs.getD i none).map E.2.2.1)))))) := by rw [jw_W_at (jw_lt hk), jw_cont_4 hk]
theorem jw_fs_at {rs : List (Option Nat)} {μ : Nat → Int32} {j : Nat} {r : Option Nat} (hr : rs[j]? = some r) : (jw_fs E rs μ)[j]? = some (jw_fv E μ j r) := by
  unfold jw_fs
  rw [List.getElem?_mapIdx, hr]
  rfl
theorem jw_fs_set {rs : List (Option Nat)} {μ : Nat → Int32} {j : Nat} {x : Int32} (hr : rs[j]? = some none) : (jw_fs E rs μ).set j (.int x) = jw_fs E rs (upd μ j x) := by
  apply List.ext_getElem?
  intro i
  unfold jw_fs
  rw [List.getElem?_mapIdx]
  by_cases hi : i = j
  · subst hi
    rw [List.getElem?_set_self (by rw [List.length_mapIdx]; exact (List.getElem?_eq_some_iff.mp hr).1), hr]
    simp [jw_fv, upd]
  · rw [List.getElem?_set_ne (Ne.symm hi), List.getElem?_mapIdx]
    cases rs[i]? with
    | none => rfl
    | some r => cases r <;> simp [jw_fv, upd, hi]
theorem jw_set_0 {k ci j : Nat} {rs : List (Option Nat)} {x : Int32} (hk : E.2.2.2.1[k]? = some (0, ci, rs)) (hr : rs[j]? = some none) : (jw_W E M).set k (E.2.2.1 k, .inr (ci, (jw_fs E rs (M k)).set j (.int x))) = jw_W E (jw_U M k j x) := by
  rw [jw_fs_set hr, ← jw_cont_0 (μ := upd (M k) j x) hk, jw_W_set _ (jw_lt hk)]
  rfl
theorem jw_set_1 {k n : Nat} {rs : List (Option Nat)} {μ : Nat → Int32} (hk : E.2.2.2.1[k]? = some (1, n, rs)) : (jw_W E M).set k (E.2.2.1 k, .inl (E.2.1 k, n, .inl μ)) = jw_W E (jw_UA M k μ) := by
  rw [← jw_cont_1 (μ := μ) hk, jw_W_set _ (jw_lt hk)]
theorem jw_set_2 {k n : Nat} {rs : List (Option Nat)} {μ : Nat → Int32} (hk : E.2.2.2.1[k]? = some (2, n, rs)) : (jw_W E M).set k (E.2.2.1 k, .inl (E.2.1 k, n, .inl μ)) = jw_W E (jw_UA M k μ) := by
  rw [← jw_cont_2 (μ := μ) hk, jw_W_set _ (jw_lt hk)]
/-- a class's row: its fields' words, their types, their names apart -/
def jw_okC (Cn : String) (T : u_T) (N : Nat) (ty : Nat → FieldType) : Prop := (∀ w ∈ u_ws Cn T N, w ∈ jw_ws) ∧ (∀ k, k < N → parseFieldDescriptor (T k).2.2.1 = some (ty k)) ∧ (∀ a, a < N → ∀ b, b < N → a ≠ b → (T a).2.1 ≠ (T b).2.1)
theorem jw_get {k ci j N idx : Nat} {rs : List (Option Nat)} {r : Option Nat} {Cn : String} {T : u_T} {ty : Nat → FieldType} {v : Value} (hd : decode f.2.1 pc = .ok (.getfield idx, 3)) (hk : E.2.2.2.1[k]? = some (0, ci, rs)) (hc : vwCl[ci]? = some (Cn, T, N)) (ok : jw_okC Cn T N ty) (hj : j < N) (hlink : Cond.fieldLink f.1.cls idx (T j).1 (T j).2.1 (T j).2.2.1 ∈ jw_ws) (hr : rs[j]? = some r) (hv : jw_fv E (M k) j r = v)
    (h : jw_X l X E A f (pc + 3) L (v :: S) M) : jw_X l X E A f pc L (.ref (E.2.2.1 k) :: S) M := by
  obtain ⟨p, e, R, s, m, args, below, meth, c, cells, slots, Q⟩ := X
  intro C H locs ls hP hS hl
  subst hv
  exact va_get (D := E.1) (ci := ci) (C := Cn) (T := T) (N := N) C.1 C.2.1 C.2.2.2.2.2.1 ok.1 C.2.2.2.2.1 (jw_K_0 C.2.2.2.2.2.2.2.1.1) hP k (jw_at_0 hk) hc j hj (C.2.2.2.2.2.1 _ hlink) (fun _ h9 => h9) (jw_fs_at hr) hd (h C H locs ls hP hS hl)
theorem jw_put {k ci j N idx : Nat} {rs : List (Option Nat)} {Cn : String} {T : u_T} {ty : Nat → FieldType} {x : Int32} (hd : decode f.2.1 pc = .ok (.putfield idx, 3)) (hk : E.2.2.2.1[k]? = some (0, ci, rs)) (hc : vwCl[ci]? = some (Cn, T, N)) (ok : jw_okC Cn T N ty) (hj : j < N) (hlink : Cond.fieldLink f.1.cls idx (T j).1 (T j).2.1 (T j).2.2.1 ∈ jw_ws) (hr : rs[j]? = some none) (hfin : (T j).2.2.2 = false) (hn : narrow (ty j) (.int x) = .int x) (hf : fits (ty j) (.int x) = true)
    (h : jw_X l X E A f (pc + 3) L S (jw_U M k j x)) : jw_X l X E A f pc L (.int x :: .ref (E.2.2.1 k) :: S) M := by
  obtain ⟨p, e, R, s, m, args, below, meth, c, cells, slots, Q⟩ := X
  intro C H locs ls hP hS hl
  refine va_put (D := E.1) (ci := ci) (C := Cn) (T := T) (N := N) C.1 C.2.1 C.2.2.2.2.2.1 ok.1 ty ok.2.1 ok.2.2 C.2.2.2.2.1 (jw_K_0 C.2.2.2.2.2.2.2.1.1) hP (jw_D_va C.2.2.2.2.2.2.2.1.2.2 M) hS k (jw_at_0 hk) hc j hj (C.2.2.2.2.2.1 _ hlink) (fun _ h9 => h9) hfin (ok.2.1 j hj) hn hf (by unfold jw_fs; rw [List.length_mapIdx]; exact (List.getElem?_eq_some_iff.mp hr).1) hd (fun H1 locs1 hP1 hD1 hS1 => ?_)
  rw [jw_set_0 hk hr] at hP1
  exact h C H1 locs1 ls hP1 hS1 hl
theorem jw_iald {k n : Nat} {rs : List (Option Nat)} {i : Int32} (hd : decode f.2.1 pc = .ok (.iaload, 1)) (hk : E.2.2.2.1[k]? = some (1, n, rs)) (hin : vp_in i n) (h : jw_X l X E A f (pc + 1) L (.int (M k i.toNatClampNeg) :: S) M) : jw_X l X E A f pc L (.int i :: .ref (E.2.2.1 k) :: S) M := by
  obtain ⟨p, e, R, s, m, args, below, meth, c, cells, slots, Q⟩ := X
  intro C H locs ls hP hS hl
  exact va_iald C.1 C.2.1 (jw_K_1 C.2.2.2.2.2.2.2.1.1 hk (by decide)) hP k 0 (jw_at_1 hk) rfl hin hd (h C H locs ls hP hS hl)
theorem jw_zald {k n : Nat} {rs : List (Option Nat)} {i : Int32} (hd : decode f.2.1 pc = .ok (.baload, 1)) (hk : E.2.2.2.1[k]? = some (2, n, rs)) (hin : vp_in i n) (h : jw_X l X E A f (pc + 1) L (.int (M k i.toNatClampNeg) :: S) M) : jw_X l X E A f pc L (.int i :: .ref (E.2.2.1 k) :: S) M := by
  obtain ⟨p, e, R, s, m, args, below, meth, c, cells, slots, Q⟩ := X
  intro C H locs ls hP hS hl
  exact va_zald C.1 C.2.1 (jw_K_1 C.2.2.2.2.2.2.2.1.1 hk (by decide)) hP k 0 (jw_at_2 hk) rfl hin hd (h C H locs ls hP hS hl)
theorem jw_iast {k n : Nat} {rs : List (Option Nat)} {i x : Int32} (hd : decode f.2.1 pc = .ok (.iastore, 1)) (hk : E.2.2.2.1[k]? = some (1, n, rs)) (hin : vp_in i n) (h : jw_X l X E A f (pc + 1) L S (jw_U M k i.toNatClampNeg x)) : jw_X l X E A f pc L (.int x :: .int i :: .ref (E.2.2.1 k) :: S) M := by
  obtain ⟨p, e, R, s, m, args, below, meth, c, cells, slots, Q⟩ := X
  intro C H locs ls hP hS hl
  refine va_iast C.1 C.2.1 (jw_K_1 C.2.2.2.2.2.2.2.1.1 hk (by decide)) hP (jw_D_va C.2.2.2.2.2.2.2.1.2.2 M) hS k 0 (jw_at_1 hk) rfl hin hd (fun H1 locs1 hP1 hD1 hS1 => ?_)
  rw [jw_set_1 hk] at hP1
  exact h C H1 locs1 ls hP1 hS1 hl
theorem jw_zast {k n : Nat} {rs : List (Option Nat)} {i x : Int32} (hd : decode f.2.1 pc = .ok (.bastore, 1)) (hk : E.2.2.2.1[k]? = some (2, n, rs)) (hin : vp_in i n) (hx : vp_nar .boolean x = x) (h : jw_X l X E A f (pc + 1) L S (jw_U M k i.toNatClampNeg x)) : jw_X l X E A f pc L (.int x :: .int i :: .ref (E.2.2.1 k) :: S) M := by
  obtain ⟨p, e, R, s, m, args, below, meth, c, cells, slots, Q⟩ := X
  intro C H locs ls hP hS hl
  refine va_zast C.1 C.2.1 (jw_K_1 C.2.2.2.2.2.2.2.1.1 hk (by decide)) hP (jw_D_va C.2.2.2.2.2.2.2.1.2.2 M) hS k 0 (jw_at_2 hk) rfl hin hd (fun H1 locs1 hP1 hD1 hS1 => ?_)
  rw [hx, jw_set_2 hk] at hP1
  exact h C H1 locs1 ls hP1 hS1 hl
theorem jw_aald3 {k n t : Nat} {rs : List (Option Nat)} {i : Int32} (hd : decode f.2.1 pc = .ok (.aaload, 1)) (hk : E.2.2.2.1[k]? = some (3, n, rs)) (hin : vp_in i n) (ht : rs[i.toNatClampNeg]? = some (some t)) (h : jw_X l X E A f (pc + 1) L (.ref (E.2.2.1 t) :: S) M) : jw_X l X E A f pc L (.int i :: .ref (E.2.2.1 k) :: S) M := by
  obtain ⟨p, e, R, s, m, args, below, meth, c, cells, slots, Q⟩ := X
  intro C H locs ls hP hS hl
  refine va_aldq (C := "VersionRing$Node") C.1 C.2.1 (jw_K_1 C.2.2.2.2.2.2.2.1.1 hk (by decide)) hP k 0 (jw_at_3 hk) rfl hin hd ?_
  rw [List.getD_eq_getElem?_getD, ht]
  exact h C H locs ls hP hS hl
theorem jw_aald4 {k n t : Nat} {rs : List (Option Nat)} {i : Int32} (hd : decode f.2.1 pc = .ok (.aaload, 1)) (hk : E.2.2.2.1[k]? = some (4, n, rs)) (hin : vp_in i n) (ht : rs[i.toNatClampNeg]? = some (some t)) (h : jw_X l X E A f (pc + 1) L (.ref (E.2.2.1 t) :: S) M) : jw_X l X E A f pc L (.int i :: .ref (E.2.2.1 k) :: S) M := by
  obtain ⟨p, e, R, s, m, args, below, meth, c, cells, slots, Q⟩ := X
  intro C H locs ls hP hS hl
  refine va_aldq (C := "VersionRing$Context") C.1 C.2.1 (jw_K_1 C.2.2.2.2.2.2.2.1.1 hk (by decide)) hP k 0 (jw_at_4 hk) rfl hin hd ?_
  rw [List.getD_eq_getElem?_getD, ht]
  exact h C H locs ls hP hS hl
theorem jw_alen1 {k n : Nat} {rs : List (Option Nat)} (hd : decode f.2.1 pc = .ok (.arraylength, 1)) (hk : E.2.2.2.1[k]? = some (1, n, rs)) (h : jw_X l X E A f (pc + 1) L (.int (Int32.ofNat n) :: S) M) : jw_X l X E A f pc L (.ref (E.2.2.1 k) :: S) M := by
  obtain ⟨p, e, R, s, m, args, below, meth, c, cells, slots, Q⟩ := X
  intro C H locs ls hP hS hl
  exact va_alen (ty := .int) C.1 C.2.1 (jw_K_1 C.2.2.2.2.2.2.2.1.1 hk (by decide)) hP k 0 (jw_at_1 hk) rfl rfl hd (h C H locs ls hP hS hl)
theorem jw_getstatic {t idx : Nat} (hd : decode f.2.1 pc = .ok (.getstatic idx, 3)) (ht : E.2.2.2.2 = some t) (hlink : Cond.fieldLink f.1.cls idx "VersionRing" "NOTHING_KNOWN" "[I" ∈ jw_ws) (h : jw_X l X E A f (pc + 3) L (.ref t :: S) M) : jw_X l X E A f pc L S M := by
  obtain ⟨p, e, R, s, m, args, below, meth, c, cells, slots, Q⟩ := X
  intro C H locs ls hP hS hl
  exact va_gets C.1 C.2.1 (C.2.2.2.2.2.2.2.1.2.1 t ht).1 hS C.2.2.2.2.1 (C.2.2.2.2.2.1 _ hlink) (fun _ h9 => h9) hd (h C H locs ls hP hS hl)
theorem jw_tableOut {dflt lo hi : Int} {offs : Array Int} {len tgt : Nat} {x : Int32} (hd : decode f.2.1 pc = .ok (.tableswitch dflt lo hi offs, len)) (hx : x.toInt < lo ∨ hi < x.toInt) (ht : (pc : Int) + dflt = (tgt : Int)) (h : jw_X l X E A f tgt L S M) : jw_X l X E A f pc L (.int x :: S) M := by
  obtain ⟨p, e, R, s, m, args, below, meth, c, cells, slots, Q⟩ := X
  intro C H locs ls hP hS hl
  exact lv_tableOut C.1 C.2.1 hd hx ht (h C H locs ls hP hS hl)
theorem jw_tableIn {dflt lo hi off : Int} {offs : Array Int} {len tgt : Nat} {x : Int32} (hd : decode f.2.1 pc = .ok (.tableswitch dflt lo hi offs, len)) (h1 : ¬ x.toInt < lo) (h2 : ¬ hi < x.toInt) (ho : offs[(x.toInt - lo).toNat]? = some off) (ht : (pc : Int) + off = (tgt : Int)) (h : jw_X l X E A f tgt L S M) : jw_X l X E A f pc L (.int x :: S) M := by
  obtain ⟨p, e, R, s, m, args, below, meth, c, cells, slots, Q⟩ := X
  intro C H locs ls hP hS hl
  exact lv_tableIn C.1 C.2.1 hd h1 h2 ho ht (h C H locs ls hP hS hl)
/-- the law's script -/
def jw_scr (X : jw_X0) (A : Nat → Prop) (b n : Nat) (xs : Nat → Int32) : Prop := va_X b n xs X.2.2.2.1 X.2.2.2.1.heap ∧ b < X.2.2.2.1.heap.size ∧ ¬ A b
theorem jw_sld {b n : Nat} {xs : Nat → Int32} {i : Int32} (hd : decode f.2.1 pc = .ok (.iaload, 1)) (hX : jw_scr X A b n xs) (hin : vp_in i n) (h : jw_X l X E A f (pc + 1) L (.int (xs i.toNatClampNeg) :: S) M) : jw_X l X E A f pc L (.int i :: .ref b :: S) M := by
  obtain ⟨p, e, R, s, m, args, below, meth, c, cells, slots, Q⟩ := X
  intro C H locs ls hP hS hl
  exact va_sld C.1 C.2.1 hX.1 hX.2.1 hX.2.2 hS hin hd (h C H locs ls hP hS hl)
theorem jw_slen {b n : Nat} {xs : Nat → Int32} (hd : decode f.2.1 pc = .ok (.arraylength, 1)) (hX : jw_scr X A b n xs) (h : jw_X l X E A f (pc + 1) L (.int (Int32.ofNat n) :: S) M) : jw_X l X E A f pc L (.ref b :: S) M := by
  obtain ⟨p, e, R, s, m, args, below, meth, c, cells, slots, Q⟩ := X
  intro C H locs ls hP hS hl
  exact va_slen C.1 C.2.1 hX.1 hX.2.1 hX.2.2 hS hd (h C H locs ls hP hS hl)
theorem jw_mmin {x y : Int32} {idx : Nat} (hd : decode f.2.1 pc = .ok (.invokestatic idx, 3)) (h1 : Cond.methodLink f.1.cls idx Lib.Math.min.name ∈ jw_ws) (h2 : Cond.static Lib.Math.min.name ∈ jw_ws) (h3 : Cond.initialized "java/lang/Math" ∈ jw_ws) (h4 : Cond.code Lib.Math.min.name Lib.Math.min.code 2 (some .int) ∈ jw_ws) (h5 : 1 ≤ f.2.2.2.2.1 ∧ 21 ≤ f.2.2.2.2.2) (h6 : (S.map fun v => v.category).sum ≤ 8) (h : jw_X l X E A f (pc + 3) L (.int (if y < x then y else x) :: S) M) : jw_X l X E A f pc L (.int y :: .int x :: S) M := by
  obtain ⟨p, e, R, s, m, args, below, meth, c, cells, slots, Q⟩ := X
  intro C H locs ls hP hS hl
  have hR := C.2.2.2.2.2.2.2.2
  exact va_mmin C.1 C.2.1 (C.2.2.2.1.trans hl.1.symm) C.2.2.2.2.1 (C.2.2.2.2.2.1 _ h1) (C.2.2.2.2.2.1 _ h2) (C.2.2.2.2.2.1 _ h3) (C.2.2.2.2.2.1 _ h4) (Nat.le_trans h5.1 hR.1) (by have := hR.2.1; have := h5.2; omega) hR.2.2.1 hR.2.2.2 hd (h C H locs ls hP hS hl)
theorem jw_mmax {x y : Int32} {idx : Nat} (hd : decode f.2.1 pc = .ok (.invokestatic idx, 3)) (h1 : Cond.methodLink f.1.cls idx Lib.Math.max.name ∈ jw_ws) (h2 : Cond.static Lib.Math.max.name ∈ jw_ws) (h3 : Cond.initialized "java/lang/Math" ∈ jw_ws) (h4 : Cond.code Lib.Math.max.name Lib.Math.max.code 2 (some .int) ∈ jw_ws) (h5 : 1 ≤ f.2.2.2.2.1 ∧ 21 ≤ f.2.2.2.2.2) (h6 : (S.map fun v => v.category).sum ≤ 8) (h : jw_X l X E A f (pc + 3) L (.int (if x < y then y else x) :: S) M) : jw_X l X E A f pc L (.int y :: .int x :: S) M := by
  obtain ⟨p, e, R, s, m, args, below, meth, c, cells, slots, Q⟩ := X
  intro C H locs ls hP hS hl
  have hR := C.2.2.2.2.2.2.2.2
  exact va_mmax C.1 C.2.1 (C.2.2.2.1.trans hl.1.symm) C.2.2.2.2.1 (C.2.2.2.2.2.1 _ h1) (C.2.2.2.2.2.1 _ h2) (C.2.2.2.2.2.1 _ h3) (C.2.2.2.2.2.1 _ h4) (Nat.le_trans h5.1 hR.1) (by have := hR.2.1; have := h5.2; omega) hR.2.2.1 hR.2.2.2 hd (h C H locs ls hP hS hl)
/-- a callee's words -/
def jw_ok (own : String) (idx : Nat) (g : jw_F) (n : Nat) : Prop := Cond.methodLink own idx g.1 ∈ jw_ws ∧ Cond.initialized g.1.cls ∈ jw_ws ∧ Cond.code g.1 g.2.1 g.2.2.1 g.2.2.2.1 ∈ jw_ws ∧ (g.1.cls ≠ "java/lang/invoke/MethodHandle" ∧ g.1.cls ≠ "java/lang/invoke/VarHandle" ∧ (parseMethodDescriptor g.1.desc).map (fun d => d.parameters.length) = some n)
def jw_pu (ret : Option FieldType) (r : Int32) : List Value := match ret with
  | none => []
  | some _ => [.int r]
theorem jw_good {g : jw_F} (h : Cond.code g.1 g.2.1 g.2.2.1 g.2.2.2.1 ∈ jw_ws) : GoodIn jw_ws (jw_w g) := by
  intro w hw
  rcases List.mem_cons.mp hw with rfl | hw
  · exact ⟨h, Or.inl rfl⟩
  · exact ⟨hw, good_of_word (List.mem_filter.mp hw).2⟩
theorem jw_blind {As : List Value} : FrameBlind (va_Pc As (jw_I E A M)) := fun a U g mk q => by
  obtain ⟨q0, qP, qK, qZ, qD⟩ := q
  exact ⟨q0, qP, jw_K_moved (u := U) (U := U.calling g mk a) (Vm.Alike.refl U.vm) qK, jw_Z_moved (u := U) (U := U.calling g mk a) (Vm.Alike.refl U.vm) qZ, qD⟩
theorem jw_pre {s : State} {H : Heap} {locs : List Loc} {As : List Value} (hx : jw_S E A s) (hP : va_P E.1 vwCl (jw_W E M) H) (hS : va_S A s.heap H locs) {U : State} (hU : U.heap = H) (hW : s.WarmedH U.vm) : va_Pc As (jw_I E A M) As.toArray U := by
  refine ⟨rfl, by rw [hU]; exact hP, jw_K_moved hW.alike hx.1, ?_, hx.2.2⟩
  rw [hU]
  exact jw_Z_moved hW.alike (jw_Z_kept hx.2.1 hS.2.1)
/-- behind a call -/
theorem jw_back {g : jw_F} {p : Program} {e : Env} {R : Room} {s : State} {m : MethodId} {args a : Array Value} {below : List Frame} {meth : Method} {c : Code} {cells slots : Nat} {Q : State → Prop} {H : Heap} {locs : List Loc} {ls : Array Slot} {st0 : List Value} {T : Int32 → jw_Mem → Prop}
    (hr : va_Run p l e R s m args below meth c H locs cells slots 0 0 (F0 m pc ls st0) S (jw_Q E A g.2.2.2.1 T a) A) (hS : va_S A s.heap H locs)
    (kk : ∀ (r : Int32) (M' : jw_Mem) (H1 : Heap) (locs1 : List Loc), T r M' → va_P E.1 vwCl (jw_W E M') H1 → va_S A s.heap H1 locs1 → W p l e R s m args below meth c H1 locs1 cells slots Q (F0 m (pc + 3) ls (jw_pu g.2.2.2.1 r ++ S))) : W p l e R s m args below meth c H locs cells slots Q (F0 m pc ls st0) := by
  obtain ⟨y, bytes, maxL, ret, dep, loc⟩ := g
  cases ret with
  | none => exact va_callv (a := a) (post := fun M => T 0 M) (B := jw_B E) hr hS (fun _ _ h => h) (fun _ h => h) (fun u t H1 locs1 ht hvm hp hB hz hk hS1 => kk 0 u H1 locs1 hp (by have h2 : va_P E.1 vwCl (jw_W E u) t.heap := hB; rw [ht] at h2; exact h2) hS1)
  | some ty => exact va_calli (a := a) (post := T) (B := jw_B E) hr hS (fun _ _ h => h) (fun _ h => h) (fun r u t H1 locs1 ht hvm hp hB hz hk hS1 => kk r u H1 locs1 hp (by have h2 : va_P E.1 vwCl (jw_W E u) t.heap := hB; rw [ht] at h2; exact h2) hS1)
theorem jw_callV {g : jw_F} {k ci idx n N : Nat} {rs : List (Option Nat)} {T : u_T} {As St : List Value} (hd : decode f.2.1 pc = .ok (.invokevirtual idx, 3)) (hk : E.2.2.2.1[k]? = some (0, ci, rs)) (hc : vwCl[ci]? = some (g.1.cls, T, N)) (ok : jw_ok f.1.cls idx g n) (hi : Cond.instanceMethod g.1 ∈ jw_ws) (hs : Cond.selects g.1.cls g.1 g.1 ∈ jw_ws) (hdep : g.2.2.2.2.1 < f.2.2.2.2.1 ∧ 8 + (g.2.2.1 + 11) + g.2.2.2.2.2 ≤ f.2.2.2.2.2) (hn : As.length = n) (hst : St = As.reverse ++ .ref (E.2.2.1 k) :: S) (h8 : (S.map fun v => v.category).sum ≤ 8)
    (h : jw_M l E A g (.ref (E.2.2.1 k) :: As) M (fun r M' => jw_X l X E A f (pc + 3) L (jw_pu g.2.2.2.1 r ++ S) M')) : jw_X l X E A f pc L St M := by
  obtain ⟨p, e, R, s, m, args, below, meth, c, cells, slots, Q⟩ := X
  intro C H locs ls hP hS hl
  have hR := C.2.2.2.2.2.2.2.2
  have hts := C.2.2.2.2.2.1
  have hrun := va_runV (cells := cells) (slots := slots) (e := e) (below := below) (meth := meth) (locs := locs) (g := F0 m pc ls St) (rest := S) (Ts := jw_ws) (own := f.1.cls) (C := g.1.cls) ⟨C.1, C.2.1, C.2.2.2.1, C.2.2.2.2.1, hts⟩ h
    ⟨callB_of n hts (jw_good ok.2.2.1) rfl rfl rfl (hts _ ok.2.1) (hts _ ok.1) ok.2.2.2 ⟨Nat.le_trans hdep.1 hR.1, Nat.le_trans hdep.2 hR.2.1⟩, hts _ hi, hts _ hs⟩
    ⟨jw_blind, va_recv (jw_K_0 C.2.2.2.2.2.2.2.1.1) hP hc (jw_at_0 hk), fun U hU hW => jw_pre C.2.2.2.2.2.2.2.1 hP hS hU hW⟩ rfl hn hl.1 hst (lv_room h8) hd ⟨hR.2.2.1, hR.2.2.2⟩
  exact jw_back hrun hS (fun r M' H1 locs1 hT hP1 hS1 => hT C H1 locs1 ls hP1 hS1 hl)
theorem jw_callS {g : jw_F} {idx n : Nat} {As St : List Value} (hd : decode f.2.1 pc = .ok (.invokestatic idx, 3)) (ok : jw_ok f.1.cls idx g n) (hi : Cond.static g.1 ∈ jw_ws) (hdep : g.2.2.2.2.1 < f.2.2.2.2.1 ∧ 8 + (g.2.2.1 + 11) + g.2.2.2.2.2 ≤ f.2.2.2.2.2) (hn : As.length = n) (hst : St = As.reverse ++ S) (h8 : (S.map fun v => v.category).sum ≤ 8)
    (h : jw_M l E A g As M (fun r M' => jw_X l X E A f (pc + 3) L (jw_pu g.2.2.2.1 r ++ S) M')) : jw_X l X E A f pc L St M := by
  obtain ⟨p, e, R, s, m, args, below, meth, c, cells, slots, Q⟩ := X
  intro C H locs ls hP hS hl
  have hR := C.2.2.2.2.2.2.2.2
  have hts := C.2.2.2.2.2.1
  have hrun := va_runS (cells := cells) (slots := slots) (e := e) (below := below) (meth := meth) (locs := locs) (g := F0 m pc ls St) (rest := S) (Ts := jw_ws) (own := f.1.cls) ⟨C.1, C.2.1, C.2.2.2.1, C.2.2.2.2.1, hts⟩ h
    ⟨callB_of n hts (jw_good ok.2.2.1) rfl rfl rfl (hts _ ok.2.1) (hts _ ok.1) ok.2.2.2 ⟨Nat.le_trans hdep.1 hR.1, Nat.le_trans hdep.2 hR.2.1⟩, hts _ hi⟩
    ⟨jw_blind, fun U hU hW => jw_pre C.2.2.2.2.2.2.2.1 hP hS hU hW⟩ rfl hn hl.1 hst (lv_room h8) hd ⟨hR.2.2.1, hR.2.2.2⟩
  exact jw_back hrun hS (fun r M' H1 locs1 hT hP1 hS1 => hT C H1 locs1 ls hP1 hS1 hl)
/-- System.arraycopy from a cell of the world, or from the static row -/
theorem jw_copy {k0 k1 n0 n1 idx : Nat} {rs0 rs1 : List (Option Nat)} {sp dp n : Int32} (hd : decode f.2.1 pc = .ok (.invokestatic idx, 3)) (w1 : Cond.methodLink f.1.cls idx arraycopyName ∈ jw_ws) (w2 : Cond.native arraycopyName ∈ jw_ws) (w3 : Cond.static arraycopyName ∈ jw_ws) (w4 : Cond.initialized "java/lang/System" ∈ jw_ws) (hk0 : E.2.2.2.1[k0]? = some (1, n0, rs0)) (hk1 : E.2.2.2.1[k1]? = some (1, n1, rs1)) (h1 : ¬ sp < 0) (h2 : ¬ dp < 0) (h3 : ¬ n < 0) (h4 : sp.toNatClampNeg + n.toNatClampNeg ≤ n0) (h5 : dp.toNatClampNeg + n.toNatClampNeg ≤ n1) (h6 : 1 ≤ f.2.2.2.2.1 ∧ 26 ≤ f.2.2.2.2.2) (h8 : (S.map fun v => v.category).sum ≤ 8)
    (h : jw_X l X E A f (pc + 3) L S (jw_UA M k1 (va_cpy (M k0) (M k1) sp.toNatClampNeg dp.toNatClampNeg n.toNatClampNeg))) : jw_X l X E A f pc L (.int n :: .int dp :: .ref (E.2.2.1 k1) :: .int sp :: .ref (E.2.2.1 k0) :: S) M := by
  obtain ⟨p, e, R, s, m, args, below, meth, c, cells, slots, Q⟩ := X
  intro C H locs ls hP hS hl
  have hR := C.2.2.2.2.2.2.2.2
  have hts := C.2.2.2.2.2.1
  have hw : (S.map fun v => v.category).sum + (nativeFrameWords "java/lang/System" "arraycopy" 5 + 11) ≤ R.locals := by
    have h9 : nativeFrameWords "java/lang/System" "arraycopy" 5 = 7 := by decide +kernel
    rw [h9]
    have := hR.2.1
    have := h6.2
    omega
  refine va_copyi (ty := .int) C.1 C.2.1 (C.2.2.2.1.trans hl.1.symm) C.2.2.2.2.1 (hts _ w1) (hts _ w2) (hts _ w3) (hts _ w4) (jw_K_2 C.2.2.2.2.2.2.2.1.1 hk0 (by decide) hk1 (by decide)) hP (jw_D_va C.2.2.2.2.2.2.2.1.2.2 M) hS k0 k1 0 1 (jw_at_1 hk0) (jw_at_1 hk1) rfl rfl rfl h1 h2 h3 h4 h5 (fun _ _ => rfl) (Nat.le_trans h6.1 hR.1) hw hd (fun H1 locs1 hP1 hD1 hS1 => ?_)
  rw [jw_set_1 hk1] at hP1
  exact h C H1 locs1 ls hP1 hS1 hl
end JR
/-! Rules with plain numbers as places; the world of the two systems. -/
section JR2
variable {l : Launch} {X : jw_X0} {E : jw_E} {A : Nat → Prop} {f : jw_F} {pc : Nat} {L : List (Option Value)} {S : List Value} {M : jw_Mem}
theorem jw_cl {j n : Nat} {i : Int32} (hn : n < 2147483648) (h : j < n ∧ i = nI j) : i.toNatClampNeg = j := by
  rw [h.2]
  exact nI_clamp (by omega)
theorem jw_inb {j n : Nat} {i : Int32} (hn : n < 2147483648) (h : j < n ∧ i = nI j) : vp_in i n := by
  rw [h.2]
  exact vp_in_nI h.1 (by omega)
theorem jw_iald2 {k n j : Nat} {rs : List (Option Nat)} {i : Int32} (hd : decode f.2.1 pc = .ok (.iaload, 1)) (hk : E.2.2.2.1[k]? = some (1, n, rs)) (hn : n < 2147483648) (hj : j < n ∧ i = nI j) (h : jw_X l X E A f (pc + 1) L (.int (M k j) :: S) M) : jw_X l X E A f pc L (.int i :: .ref (E.2.2.1 k) :: S) M := jw_iald hd hk (jw_inb hn hj) (by rw [jw_cl hn hj]; exact h)
theorem jw_zald2 {k n j : Nat} {rs : List (Option Nat)} {i : Int32} (hd : decode f.2.1 pc = .ok (.baload, 1)) (hk : E.2.2.2.1[k]? = some (2, n, rs)) (hn : n < 2147483648) (hj : j < n ∧ i = nI j) (h : jw_X l X E A f (pc + 1) L (.int (M k j) :: S) M) : jw_X l X E A f pc L (.int i :: .ref (E.2.2.1 k) :: S) M := jw_zald hd hk (jw_inb hn hj) (by rw [jw_cl hn hj]; exact h)
theorem jw_iast2 {k n j : Nat} {rs : List (Option Nat)} {i x : Int32} (hd : decode f.2.1 pc = .ok (.iastore, 1)) (hk : E.2.2.2.1[k]? = some (1, n, rs)) (hn : n < 2147483648) (hj : j < n ∧ i = nI j) (h : jw_X l X E A f (pc + 1) L S (jw_U M k j x)) : jw_X l X E A f pc L (.int x :: .int i :: .ref (E.2.2.1 k) :: S) M := jw_iast hd hk (jw_inb hn hj) (by rw [jw_cl hn hj]; exact h)
theorem jw_b0 : (0 : Int32) = 0 ∨ (0 : Int32) = 1 := Or.inl rfl
theorem jw_b1 : (1 : Int32) = 0 ∨ (1 : Int32) = 1 := Or.inr rfl
theorem jw_nz {x : Int32} (h : x = 0 ∨ x = 1) : vp_nar .boolean x = x := by rcases h with rfl | rfl <;> decide
theorem jw_nb {x : Int32} (h : x = 0 ∨ x = 1) : narrow .boolean (.int x) = .int x := by rcases h with rfl | rfl <;> rfl
theorem jw_fb {x : Int32} (h : x = 0 ∨ x = 1) : fits .boolean (.int x) = true := by rcases h with rfl | rfl <;> rfl
theorem jw_zast2 {k n j : Nat} {rs : List (Option Nat)} {i x : Int32} (hd : decode f.2.1 pc = .ok (.bastore, 1)) (hk : E.2.2.2.1[k]? = some (2, n, rs)) (hn : n < 2147483648) (hj : j < n ∧ i = nI j) (hx : x = 0 ∨ x = 1) (h : jw_X l X E A f (pc + 1) L S (jw_U M k j x)) : jw_X l X E A f pc L (.int x :: .int i :: .ref (E.2.2.1 k) :: S) M := jw_zast hd hk (jw_inb hn hj) (jw_nz hx) (by rw [jw_cl hn hj]; exact h)
theorem jw_sld2 {b n j : Nat} {xs : Nat → Int32} {i : Int32} (hd : decode f.2.1 pc = .ok (.iaload, 1)) (hX : jw_scr X A b n xs) (hj : j < n ∧ n < 2147483648 ∧ i = nI j) (h : jw_X l X E A f (pc + 1) L (.int (xs j) :: S) M) : jw_X l X E A f pc L (.int i :: .ref b :: S) M := jw_sld hd hX (jw_inb hj.2.1 ⟨hj.1, hj.2.2⟩) (by rw [jw_cl hj.2.1 ⟨hj.1, hj.2.2⟩]; exact h)
theorem jw_copy2 {k0 k1 n1 idx j : Nat} {rs0 rs1 : List (Option Nat)} {dp : Int32} (hd : decode f.2.1 pc = .ok (.invokestatic idx, 3)) (w1 : Cond.methodLink f.1.cls idx arraycopyName ∈ jw_ws) (w2 : Cond.native arraycopyName ∈ jw_ws) (w3 : Cond.static arraycopyName ∈ jw_ws) (w4 : Cond.initialized "java/lang/System" ∈ jw_ws) (hk0 : E.2.2.2.1[k0]? = some (1, 5, rs0)) (hk1 : E.2.2.2.1[k1]? = some (1, n1, rs1)) (hn : n1 < 2147483648) (hj : j + 5 ≤ n1 ∧ dp = nI j) (h6 : 1 ≤ f.2.2.2.2.1 ∧ 26 ≤ f.2.2.2.2.2) (h8 : (S.map fun v => v.category).sum ≤ 8)
    (h : jw_X l X E A f (pc + 3) L S (jw_UA M k1 (va_cpy (M k0) (M k1) 0 j 5))) : jw_X l X E A f pc L (.int 5 :: .int dp :: .ref (E.2.2.1 k1) :: .int 0 :: .ref (E.2.2.1 k0) :: S) M := by
  have e1 : dp.toNatClampNeg = j := by rw [hj.2]; exact nI_clamp (by omega)
  have e2 : (0 : Int32).toNatClampNeg = 0 := by decide
  have e3 : (5 : Int32).toNatClampNeg = 5 := by decide
  refine jw_copy hd w1 w2 w3 w4 hk0 hk1 (by decide) (by rw [hj.2]; exact nI_pos (by omega)) (by decide) (by rw [e2, e3]; exact Nat.le_refl 5) (by rw [e1, e3]; exact hj.1) h6 h8 ?_
  rw [e1, e2, e3]
  exact h
theorem jw_st {S' : List Value} (e : S = S') (h : jw_X l X E A f pc L S' M) : jw_X l X E A f pc L S M := by rw [e]; exact h
theorem jw_forget (i : Nat) (h : jw_X l X E A f pc (L.set i none) S M) : jw_X l X E A f pc L S M := by
  obtain ⟨p, e, R, s, m, args, below, meth, c, cells, slots, Q⟩ := X
  intro C H locs ls hP hS hl
  refine h C H locs ls hP hS ⟨hl.1, hl.2.1, fun j v hj => hl.2.2 j v ?_⟩
  by_cases e : j = i
  · subst e
    have hlt : j < (L.set j none).length := (List.getElem?_eq_some_iff.mp hj).1
    rw [List.length_set] at hlt
    rw [List.getElem?_set_self hlt] at hj
    cases hj
  · rw [List.getElem?_set_ne (Ne.symm e)] at hj
    exact hj
end JR2
/-- what is not the table of the cells: class numbers and slots, class number of each array cell, addresses, the static row -/
abbrev jw_G : Type := va_G × (Nat → ClassId) × (Nat → Nat) × Nat
section JR3
variable {l : Launch} {X : jw_X0} {E : jw_E} {A : Nat → Prop} {f : jw_F} {pc : Nat} {L : List (Option Value)} {S : List Value} {M : jw_Mem}
theorem jw_pos {z : Int32} (h : ¬ z < 0) : z.toInt = (z.toNatClampNeg : Int) := by
  have h1 := Int32.le_iff_toInt_le.mp (Int32.not_lt.mp h)
  have h2 : (0 : Int32).toInt = 0 := by decide
  show z.toInt = ((z.toInt.toNat : Nat) : Int)
  omega
/-- System.arraycopy of five ints from the static row -/
theorem jw_copyZ2 {t k1 n1 idx j : Nat} {rs1 : List (Option Nat)} {dp : Int32} (hd : decode f.2.1 pc = .ok (.invokestatic idx, 3)) (w1 : Cond.methodLink f.1.cls idx arraycopyName ∈ jw_ws) (w2 : Cond.native arraycopyName ∈ jw_ws) (w3 : Cond.static arraycopyName ∈ jw_ws) (w4 : Cond.initialized "java/lang/System" ∈ jw_ws) (ht : E.2.2.2.2 = some t) (hk1 : E.2.2.2.1[k1]? = some (1, n1, rs1)) (hn : n1 < 2147483648) (hj : j + 5 ≤ n1 ∧ dp = nI j) (h6 : 1 ≤ f.2.2.2.2.1 ∧ 26 ≤ f.2.2.2.2.2) (h8 : (S.map fun v => v.category).sum ≤ 8)
    (h : jw_X l X E A f (pc + 3) L S (jw_UA M k1 (va_cpy (fun _ => 0) (M k1) 0 j 5))) : jw_X l X E A f pc L (.int 5 :: .int dp :: .ref (E.2.2.1 k1) :: .int 0 :: .ref t :: S) M := by
  obtain ⟨p, e, R, s, m, args, below, meth, c, cells, slots, Q⟩ := X
  intro C H locs ls hP hS hl
  have hR := C.2.2.2.2.2.2.2.2
  have hts := C.2.2.2.2.2.1
  have hS8 := C.2.2.2.2.2.2.2.1
  have e1 : dp.toNatClampNeg = j := by rw [hj.2]; exact nI_clamp (by omega)
  have e2 : (0 : Int32).toNatClampNeg = 0 := by decide
  have e3 : (5 : Int32).toNatClampNeg = 5 := by decide
  have hdp : ¬ dp < 0 := by rw [hj.2]; exact nI_pos (by omega)
  have i0 : (0 : Int32).toInt = 0 := by decide
  have i5 : (5 : Int32).toInt = 5 := by decide
  have ij : dp.toInt = (j : Int) := by rw [jw_pos hdp, e1]
  obtain ⟨scr, hs1, ⟨hs2, k0, hk0, cm0, hkk0⟩, hs3, hs4, -, hs6, hs7⟩ := (hS8.2.1 t ht).2
  have hK := jw_K_1 hS8.1 hk1 (by decide)
  have hD := jw_D_va hS8.2.2 M
  have ha1 := jw_at_1 (M := M) hk1
  have hc0 : H[t]? = some scr := by rw [hS.2.1 t (Array.getElem?_eq_some_iff.mp hs1).1 hs7]; exact hs1
  have hc1 : H[E.2.2.1 k1]? = some (vp_cell (E.2.1 k1) (n1, .inl (M k1))) := hP k1 _ ha1
  obtain ⟨-, kk1, hkk1, cm1, hkind1⟩ := (hK.2 0 _ rfl).1 n1 (fun i => .int (M k1 i))
  have h9 : nativeFrameWords "java/lang/System" "arraycopy" 5 = 7 := by decide +kernel
  intro T hT Y
  obtain ⟨vm', Y', step⟩ := Y.arraycopy C.1 C.2.2.2.2.1 (hts _ w1) (hts _ w2) (hts _ w3) (hts _ w4) (src := t) (dst := E.2.2.1 k1) (cs := scr) (cd := vp_cell (E.2.1 k1) (n1, .inl (M k1))) (srcPos := 0) (destPos := dp) (n := 5) (by rw [hT]; exact hc0) (by rw [hT]; exact hc1)
    hs2 (fun _ h => by cases h) hs3 (fun h => by cases h) hk0 hkk1 hkk0 hkind1 (by simp [refKind, jw_ty]) (by decide) hdp (by decide)
    (by rw [i0, i5]; omega)
    (by rw [ij, i5]; show ¬ _ > ((arrV (E.2.1 k1) n1 (fun i => .int (M k1 i))).slots.size : Int); rw [arrV_size]; omega)
    (fun vm₁ _ i hi => by
      rw [e3] at hi
      have ee : scr.slots.getD ((0 : Int32).toNatClampNeg + i) .null = .int 0 := by
        rw [Array.getD_eq_getD_getElem?, e2, Nat.zero_add, hs6 i hi]
        rfl
      refine ⟨?_, ?_⟩
      · rw [ee]; rfl
      · rw [ee]; exact trivial)
    (g := F0 m pc ls (.int 5 :: .int dp :: .ref (E.2.2.1 k1) :: .int 0 :: .ref t :: S)) rfl (hl.1.trans C.2.2.2.1.symm) (rest := S) rfl (by rw [C.2.1]; exact hd) (Nat.le_trans h6.1 hR.1) (by rw [h9]; show 2 * 0 + _ + _ ≤ _; have := hR.2.1; have := h6.2; omega)
  have ec : copied scr (vp_cell (E.2.1 k1) (n1, .inl (M k1))) 0 dp 5 = vp_cell (E.2.1 k1) (n1, .inl (va_cpy (fun _ => 0) (M k1) 0 j 5)) := by
    have := va_copiedX (fun z => Value.int z) scr (E.2.1 k1) (n0 := 5) (n1 := n1) (sp := (0 : Int32).toNatClampNeg) (dp := dp.toNatClampNeg) (n := (5 : Int32).toNatClampNeg) (fun _ => 0) (M k1) hs6 (by rw [e2, e3]; omega)
    rw [e1, e2, e3] at this
    unfold copied
    rw [e1, e2, e3]
    exact this
  rw [ec] at Y' step
  have hlt : E.2.2.1 k1 < H.size := (Array.getElem?_eq_some_iff.mp hc1).1
  have oq : ∀ q : Nat, q ≠ E.2.2.1 k1 → (H.setIfInBounds (E.2.2.1 k1) (vp_cell (E.2.1 k1) (n1, .inl (va_cpy (fun _ => 0) (M k1) 0 j 5))))[q]? = H[q]? := fun q hq => by simp [Array.getElem?_setIfInBounds, Ne.symm hq]
  have hP1 := hP.set hD ha1 (e := .inl (E.2.1 k1, n1, .inl (va_cpy (fun _ => 0) (M k1) 0 j 5))) (show (H.setIfInBounds (E.2.2.1 k1) (vp_cell (E.2.1 k1) (n1, .inl (va_cpy (fun _ => 0) (M k1) 0 j 5))))[E.2.2.1 k1]? = some _ by simp [Array.getElem?_setIfInBounds, hlt]) oq
  rw [jw_set_1 hk1] at hP1
  obtain ⟨t9, a1, b1⟩ := h C _ _ ls hP1 ⟨by simp; exact hS.1, fun q g1 g2 => by
      rw [oq q (fun e => g2 (by rw [e]; exact hD.2 k1 _ ha1))]
      exact hS.2.1 q g1 g2, fun q hq => by
      rcases List.mem_append.mp hq with h | h
      · exact hS.2.2 q h
      · obtain ⟨z, -, hz⟩ := List.mem_map.mp h
        rw [← hz]
        exact hD.2 k1 _ ha1⟩ hl _ (by rw [← hT]; rfl) Y'
  exact ⟨t9, step t9 a1, b1⟩
end JR3
