/-! The constructors' contracts (by program: wip/whole/gen/ctor.py) -/
theorem jn_eq {l : Launch} {X : jw_X0} {D : va_G} {A : Nat → Prop} {f : jw_F} {Z : Nat × Nat} {nC nS nC' nS' pc : Nat} {L L' : List (Option Value)} {S S' : List Value} {ws ws' : va_W} {tys tys' : jn_T} (e1 : L = L') (e2 : S = S') (e3 : ws = ws') (e4 : tys = tys') (e5 : nC = nC') (e6 : nS = nS') (h : jn_X l X D A f Z nC' nS' pc L' S' ws' tys') : jn_X l X D A f Z nC nS pc L S ws tys := by
  subst e1 e2 e3 e4 e5 e6
  exact h
theorem jn_icmp_ne {l : Launch} {X : jw_X0} {D : va_G} {A : Nat → Prop} {f : jw_F} {Z : Nat × Nat} {nC nS pc : Nat} {L : List (Option Value)} {S : List Value} {ws : va_W} {tys : jn_T} {x y : Int32} {off : Int} {tgt : Nat} (hd : decode f.2.1 pc = .ok (.if_icmp .ne off, 3)) (ht : (pc : Int) + off = (tgt : Int)) (kt : ¬ x = y → jn_X l X D A f Z nC nS tgt L S ws tys) (kf : x = y → jn_X l X D A f Z nC nS (pc + 3) L S ws tys) : jn_X l X D A f Z nC nS pc L (.int y :: .int x :: S) ws tys := by
  obtain ⟨p, e, R, s, m, args, below, meth, c, cells, slots, Q⟩ := X
  intro C H locs ls hP hK hD hS hl
  exact lv_icmp_ne C.1 C.2.1 hd ht (fun hc => kt hc C H locs ls hP hK hD hS hl) (fun hc => kf hc C H locs ls hP hK hD hS hl)
theorem jn_ar_i (cA : ClassId) (N : Nat) : vp_cell cA (N, .inl (fun _ => 0)) = arrV cA N (fun _ => defaultValue .int) := rfl
theorem jn_ar_b (cA : ClassId) (N : Nat) : vp_cell cA (N, .inl (fun _ => 0)) = arrV cA N (fun _ => defaultValue .boolean) := rfl
theorem jn_astore2 {l : Launch} {X : jw_X0} {D : va_G} {A : Nat → Prop} {f : jw_F} {Z : Nat × Nat} {nC nS pc : Nat} {L : List (Option Value)} {S : List Value} {ws : va_W} {tys : jn_T} {i i2 t0 a v ci n j : Nat} {cA : ClassId} {r : vw_C} {g : Nat → Option Nat} {vs : List Value} {x : Int32} (hd : decode f.2.1 pc = .ok (.aastore, 1)) (hi : ws[i]? = some (a, .inl (cA, n, .inr (.inr (.inr (.inr g)))))) (ht : tys[t0]? = some (cA, .object r.1)) (hv : ws[i2]? = some (v, .inr (ci, vs))) (hc : vwCl[ci]? = some r) (hx : x.toNatClampNeg = j) (hin : vp_in x n) (h : jn_X l X D A f Z nC nS (pc + 1) L S (ws.set i (a, .inl (cA, n, .inr (.inr (.inr (.inr (va_up g j (some v)))))))) tys) : jn_X l X D A f Z nC nS pc L (.ref v :: .int x :: .ref a :: S) ws tys := by
  subst hx
  exact jn_astore hd hi ht hv hc hin h
theorem jc_b_20 : (Int8.ofInt 20).toInt32 = 20 := by decide
theorem jc_b_25 : (Int8.ofInt 25).toInt32 = 25 := by decide
theorem jc_b_80 : (Int8.ofInt 80).toInt32 = 80 := by decide
theorem jc_s_200 : (Int16.ofInt 200).toInt32 = 200 := by decide
def f_C_init : jw_F := (y_C_init, b_C_init, 1, none, 1, 20)
set_option maxRecDepth 100000 in
theorem jw_cd_f_C_init : Cond.code f_C_init.1 f_C_init.2.1 f_C_init.2.2.1 f_C_init.2.2.2.1 ∈ jw_ws := jw_in (List.mem_append_right _ (List.mem_of_getElem? (i := 110) rfl)) rfl
theorem jw_in_f_C_init : Cond.instanceMethod f_C_init.1 ∈ jw_ws := jw_in (by decide +kernel) (by decide +kernel)
theorem jn_oi_C_3 : Cond.methodLink R_C 3 Lib.objectInit ∈ jw_ws := jw_in (by decide +kernel) (by decide +kernel)
set_option maxRecDepth 100000 in
set_option maxHeartbeats 4000000 in
theorem c_C_init {l : Launch} {D : va_G} {h0 : Nat}  : jn_M l D f_C_init (1, 5) h0 4 [.null, .int 0] [] (fun u => ∃ (q1 : Nat) (c2 : ClassId), u = ([.ref q1, .int (-1)], [(q1, .inl (c2, 5, .inl (fun _ => 0)))], [(c2, .int)])) := by
  refine jn_M_of (by decide) rfl (Nat.le_of_ble_eq_true rfl) (by intro v hv; simp at hv) (fun X A hR => ?_)
  refine jn_eq (L' := [some (.ref h0)]) (S' := []) (ws' := [(h0, .inr (4, [.null, .int 0]))]) (tys' := []) (nC' := 0) (nS' := 0) rfl rfl rfl rfl rfl rfl ?_
  refine jn_aload_n (i := 0) d_C_init_0 rfl rfl ?_
  refine jn_obj d_C_init_1 jn_oi_C_3 ⟨Nat.le_of_ble_eq_true rfl, Nat.le_of_ble_eq_true rfl⟩ (Nat.le_of_ble_eq_true rfl) ?_
  refine jn_aload_n (i := 0) d_C_init_4 rfl rfl ?_
  refine jn_iconst (v := 5) d_C_init_5 jc_i_5 ?_
  refine jn_newa (N := 5) (ty := .int) d_C_init_6 jn_w_ai rfl (fun cA => jn_ar_i cA 5) (by decide) (by decide) (by decide) (Nat.le_of_ble_eq_true rfl) (Nat.le_of_ble_eq_true rfl) (fun q1 c2 => ?_)
  refine jn_eq (L' := [some (.ref h0)]) (S' := [.ref q1, .ref h0]) (ws' := [(h0, .inr (4, [.null, .int 0])), (q1, .inl (c2, 5, .inl (fun _ => 0)))]) (tys' := [(c2, .int)]) (nC' := 1) (nS' := 5) rfl rfl rfl rfl rfl rfl ?_
  refine jn_putF (i := 0) (j := 0) d_C_init_8 rfl jw_c_C jw_oc_C (Nat.le_of_ble_eq_true rfl) jw_fl_C_9 rfl rfl rfl rfl rfl (Nat.le_of_ble_eq_true rfl) ?_
  refine jn_eq (L' := [some (.ref h0)]) (S' := []) (ws' := [(h0, .inr (4, [.ref q1, .int 0])), (q1, .inl (c2, 5, .inl (fun _ => 0)))]) (tys' := [(c2, .int)]) (nC' := 1) (nS' := 5) rfl rfl rfl rfl rfl rfl ?_
  refine jn_aload_n (i := 0) d_C_init_11 rfl rfl ?_
  refine jn_iconst (v := (-1)) d_C_init_12 jc_i_m1 ?_
  refine jn_put (i := 0) (j := 1) d_C_init_13 rfl jw_c_C jw_oc_C (Nat.le_of_ble_eq_true rfl) jw_fl_C_15 rfl rfl rfl (Nat.le_of_ble_eq_true rfl) ?_
  refine jn_eq (L' := [some (.ref h0)]) (S' := []) (ws' := [(h0, .inr (4, [.ref q1, .int (-1)])), (q1, .inl (c2, 5, .inl (fun _ => 0)))]) (tys' := [(c2, .int)]) (nC' := 1) (nS' := 5) rfl rfl rfl rfl rfl rfl ?_
  exact jn_ret ([.ref q1, .int (-1)], [(q1, .inl (c2, 5, .inl (fun _ => 0)))], [(c2, .int)]) d_C_init_16 (Nat.le_of_ble_eq_true rfl) (Nat.le_of_ble_eq_true rfl) rfl rfl (hR _ ⟨q1, c2, rfl⟩)
def f_G_init : jw_F := (y_G_init, b_G_init, 1, none, 1, 20)
set_option maxRecDepth 100000 in
theorem jw_cd_f_G_init : Cond.code f_G_init.1 f_G_init.2.1 f_G_init.2.2.1 f_G_init.2.2.2.1 ∈ jw_ws := jw_in (List.mem_append_right _ (List.mem_of_getElem? (i := 56) rfl)) rfl
theorem jw_in_f_G_init : Cond.instanceMethod f_G_init.1 ∈ jw_ws := jw_in (by decide +kernel) (by decide +kernel)
theorem jn_oi_G_3 : Cond.methodLink R_G 3 Lib.objectInit ∈ jw_ws := jw_in (by decide +kernel) (by decide +kernel)
set_option maxRecDepth 100000 in
set_option maxHeartbeats 4000000 in
theorem c_G_init {l : Launch} {D : va_G} {h0 : Nat}  : jn_M l D f_G_init (4, 320) h0 2 [.null, .null, .null, .null, .int 0] [] (fun u => ∃ (q1 : Nat) (c2 : ClassId) (q3 : Nat) (c4 : ClassId) (q5 : Nat) (c6 : ClassId) (q7 : Nat) (c8 : ClassId), u = ([.ref q1, .ref q3, .ref q5, .ref q7, .int 0], [(q1, .inl (c2, 40, .inl (fun _ => 0))), (q3, .inl (c4, 40, .inl (fun _ => 0))), (q5, .inl (c6, 40, .inl (fun _ => 0))), (q7, .inl (c8, 200, .inl (fun _ => 0)))], [(c2, .int), (c4, .int), (c6, .int), (c8, .int)])) := by
  refine jn_M_of (by decide) rfl (Nat.le_of_ble_eq_true rfl) (by intro v hv; simp at hv) (fun X A hR => ?_)
  refine jn_eq (L' := [some (.ref h0)]) (S' := []) (ws' := [(h0, .inr (2, [.null, .null, .null, .null, .int 0]))]) (tys' := []) (nC' := 0) (nS' := 0) rfl rfl rfl rfl rfl rfl ?_
  refine jn_aload_n (i := 0) d_G_init_0 rfl rfl ?_
  refine jn_obj d_G_init_1 jn_oi_G_3 ⟨Nat.le_of_ble_eq_true rfl, Nat.le_of_ble_eq_true rfl⟩ (Nat.le_of_ble_eq_true rfl) ?_
  refine jn_aload_n (i := 0) d_G_init_4 rfl rfl ?_
  refine jn_bipush (v := 40) d_G_init_5 jc_b_40 ?_
  refine jn_newa (N := 40) (ty := .int) d_G_init_7 jn_w_ai rfl (fun cA => jn_ar_i cA 40) (by decide) (by decide) (by decide) (Nat.le_of_ble_eq_true rfl) (Nat.le_of_ble_eq_true rfl) (fun q1 c2 => ?_)
  refine jn_eq (L' := [some (.ref h0)]) (S' := [.ref q1, .ref h0]) (ws' := [(h0, .inr (2, [.null, .null, .null, .null, .int 0])), (q1, .inl (c2, 40, .inl (fun _ => 0)))]) (tys' := [(c2, .int)]) (nC' := 1) (nS' := 40) rfl rfl rfl rfl rfl rfl ?_
  refine jn_putF (i := 0) (j := 0) d_G_init_9 rfl jw_c_G jw_oc_G (Nat.le_of_ble_eq_true rfl) jw_fl_G_9 rfl rfl rfl rfl rfl (Nat.le_of_ble_eq_true rfl) ?_
  refine jn_eq (L' := [some (.ref h0)]) (S' := []) (ws' := [(h0, .inr (2, [.ref q1, .null, .null, .null, .int 0])), (q1, .inl (c2, 40, .inl (fun _ => 0)))]) (tys' := [(c2, .int)]) (nC' := 1) (nS' := 40) rfl rfl rfl rfl rfl rfl ?_
  refine jn_aload_n (i := 0) d_G_init_12 rfl rfl ?_
  refine jn_bipush (v := 40) d_G_init_13 jc_b_40 ?_
  refine jn_newa (N := 40) (ty := .int) d_G_init_15 jn_w_ai rfl (fun cA => jn_ar_i cA 40) (by decide) (by decide) (by decide) (Nat.le_of_ble_eq_true rfl) (Nat.le_of_ble_eq_true rfl) (fun q3 c4 => ?_)
  refine jn_eq (L' := [some (.ref h0)]) (S' := [.ref q3, .ref h0]) (ws' := [(h0, .inr (2, [.ref q1, .null, .null, .null, .int 0])), (q1, .inl (c2, 40, .inl (fun _ => 0))), (q3, .inl (c4, 40, .inl (fun _ => 0)))]) (tys' := [(c2, .int), (c4, .int)]) (nC' := 2) (nS' := 80) rfl rfl rfl rfl rfl rfl ?_
  refine jn_putF (i := 0) (j := 1) d_G_init_17 rfl jw_c_G jw_oc_G (Nat.le_of_ble_eq_true rfl) jw_fl_G_15 rfl rfl rfl rfl rfl (Nat.le_of_ble_eq_true rfl) ?_
  refine jn_eq (L' := [some (.ref h0)]) (S' := []) (ws' := [(h0, .inr (2, [.ref q1, .ref q3, .null, .null, .int 0])), (q1, .inl (c2, 40, .inl (fun _ => 0))), (q3, .inl (c4, 40, .inl (fun _ => 0)))]) (tys' := [(c2, .int), (c4, .int)]) (nC' := 2) (nS' := 80) rfl rfl rfl rfl rfl rfl ?_
  refine jn_aload_n (i := 0) d_G_init_20 rfl rfl ?_
  refine jn_bipush (v := 40) d_G_init_21 jc_b_40 ?_
  refine jn_newa (N := 40) (ty := .int) d_G_init_23 jn_w_ai rfl (fun cA => jn_ar_i cA 40) (by decide) (by decide) (by decide) (Nat.le_of_ble_eq_true rfl) (Nat.le_of_ble_eq_true rfl) (fun q5 c6 => ?_)
  refine jn_eq (L' := [some (.ref h0)]) (S' := [.ref q5, .ref h0]) (ws' := [(h0, .inr (2, [.ref q1, .ref q3, .null, .null, .int 0])), (q1, .inl (c2, 40, .inl (fun _ => 0))), (q3, .inl (c4, 40, .inl (fun _ => 0))), (q5, .inl (c6, 40, .inl (fun _ => 0)))]) (tys' := [(c2, .int), (c4, .int), (c6, .int)]) (nC' := 3) (nS' := 120) rfl rfl rfl rfl rfl rfl ?_
  refine jn_putF (i := 0) (j := 2) d_G_init_25 rfl jw_c_G jw_oc_G (Nat.le_of_ble_eq_true rfl) jw_fl_G_18 rfl rfl rfl rfl rfl (Nat.le_of_ble_eq_true rfl) ?_
  refine jn_eq (L' := [some (.ref h0)]) (S' := []) (ws' := [(h0, .inr (2, [.ref q1, .ref q3, .ref q5, .null, .int 0])), (q1, .inl (c2, 40, .inl (fun _ => 0))), (q3, .inl (c4, 40, .inl (fun _ => 0))), (q5, .inl (c6, 40, .inl (fun _ => 0)))]) (tys' := [(c2, .int), (c4, .int), (c6, .int)]) (nC' := 3) (nS' := 120) rfl rfl rfl rfl rfl rfl ?_
  refine jn_aload_n (i := 0) d_G_init_28 rfl rfl ?_
  refine jn_sipush (v := 200) d_G_init_29 jc_s_200 ?_
  refine jn_newa (N := 200) (ty := .int) d_G_init_32 jn_w_ai rfl (fun cA => jn_ar_i cA 200) (by decide) (by decide) (by decide) (Nat.le_of_ble_eq_true rfl) (Nat.le_of_ble_eq_true rfl) (fun q7 c8 => ?_)
  refine jn_eq (L' := [some (.ref h0)]) (S' := [.ref q7, .ref h0]) (ws' := [(h0, .inr (2, [.ref q1, .ref q3, .ref q5, .null, .int 0])), (q1, .inl (c2, 40, .inl (fun _ => 0))), (q3, .inl (c4, 40, .inl (fun _ => 0))), (q5, .inl (c6, 40, .inl (fun _ => 0))), (q7, .inl (c8, 200, .inl (fun _ => 0)))]) (tys' := [(c2, .int), (c4, .int), (c6, .int), (c8, .int)]) (nC' := 4) (nS' := 320) rfl rfl rfl rfl rfl rfl ?_
  refine jn_putF (i := 0) (j := 3) d_G_init_34 rfl jw_c_G jw_oc_G (Nat.le_of_ble_eq_true rfl) jw_fl_G_21 rfl rfl rfl rfl rfl (Nat.le_of_ble_eq_true rfl) ?_
  refine jn_eq (L' := [some (.ref h0)]) (S' := []) (ws' := [(h0, .inr (2, [.ref q1, .ref q3, .ref q5, .ref q7, .int 0])), (q1, .inl (c2, 40, .inl (fun _ => 0))), (q3, .inl (c4, 40, .inl (fun _ => 0))), (q5, .inl (c6, 40, .inl (fun _ => 0))), (q7, .inl (c8, 200, .inl (fun _ => 0)))]) (tys' := [(c2, .int), (c4, .int), (c6, .int), (c8, .int)]) (nC' := 4) (nS' := 320) rfl rfl rfl rfl rfl rfl ?_
  exact jn_ret ([.ref q1, .ref q3, .ref q5, .ref q7, .int 0], [(q1, .inl (c2, 40, .inl (fun _ => 0))), (q3, .inl (c4, 40, .inl (fun _ => 0))), (q5, .inl (c6, 40, .inl (fun _ => 0))), (q7, .inl (c8, 200, .inl (fun _ => 0)))], [(c2, .int), (c4, .int), (c6, .int), (c8, .int)]) d_G_init_37 (Nat.le_of_ble_eq_true rfl) (Nat.le_of_ble_eq_true rfl) rfl rfl (hR _ ⟨q1, c2, q3, c4, q5, c6, q7, c8, rfl⟩)
def f_N_init : jw_F := (y_N_init, b_N_init, 2, none, 1, 23)
set_option maxRecDepth 100000 in
theorem jw_cd_f_N_init : Cond.code f_N_init.1 f_N_init.2.1 f_N_init.2.2.1 f_N_init.2.2.2.1 ∈ jw_ws := jw_in (List.mem_append_right _ (List.mem_of_getElem? (i := 85) rfl)) rfl
theorem jw_in_f_N_init : Cond.instanceMethod f_N_init.1 ∈ jw_ws := jw_in (by decide +kernel) (by decide +kernel)
theorem jn_oi_N_3 : Cond.methodLink R_N 3 Lib.objectInit ∈ jw_ws := jw_in (by decide +kernel) (by decide +kernel)
theorem jw_ml_N_23 : jw_ok R_N 23 f_J_fill 2 := ⟨jw_in (by decide +kernel) (by decide +kernel), jw_in (by decide +kernel) (by decide +kernel), jw_cd_f_J_fill, ⟨by decide +kernel, by decide +kernel, by decide +kernel⟩⟩
theorem jw_fl_N_29 : Cond.fieldLink R_N 29 (T_N 3).1 (T_N 3).2.1 (T_N 3).2.2.1 ∈ jw_ws := jw_in (by decide +kernel) (by decide +kernel)
set_option maxRecDepth 100000 in
set_option maxHeartbeats 4000000 in
theorem c_N_init {l : Launch} {D : va_G} {h0 : Nat} {g0 : Nat} : jn_M l D f_N_init (2, 80) h0 3 [.null, .null, .null, .int 0] [.ref g0] (fun u => ∃ (q1 : Nat) (c2 : ClassId) (q3 : Nat) (c4 : ClassId) (m5 : Nat → Int32), (∀ j, j < 40 → m5 j = (-1)) ∧ u = ([.ref g0, .ref q1, .ref q3, .int 1], [(q1, .inl (c2, 40, .inl (fun _ => 0))), (q3, .inl (c4, 40, .inl m5))], [(c2, .boolean), (c4, .int)])) := by
  refine jn_M_of (by decide) rfl (Nat.le_of_ble_eq_true rfl) (by intro v hv; simp at hv; rcases hv with rfl <;> rfl) (fun X A hR => ?_)
  refine jn_eq (L' := [some (.ref h0), some (.ref g0)]) (S' := []) (ws' := [(h0, .inr (3, [.null, .null, .null, .int 0]))]) (tys' := []) (nC' := 0) (nS' := 0) rfl rfl rfl rfl rfl rfl ?_
  refine jn_aload_n (i := 0) d_N_init_0 rfl rfl ?_
  refine jn_obj d_N_init_1 jn_oi_N_3 ⟨Nat.le_of_ble_eq_true rfl, Nat.le_of_ble_eq_true rfl⟩ (Nat.le_of_ble_eq_true rfl) ?_
  refine jn_aload_n (i := 0) d_N_init_4 rfl rfl ?_
  refine jn_aload_n (i := 1) d_N_init_5 rfl rfl ?_
  refine jn_putF (i := 0) (j := 0) d_N_init_6 rfl jw_c_N jw_oc_N (Nat.le_of_ble_eq_true rfl) jw_fl_N_9 rfl rfl rfl rfl rfl (Nat.le_of_ble_eq_true rfl) ?_
  refine jn_eq (L' := [some (.ref h0), some (.ref g0)]) (S' := []) (ws' := [(h0, .inr (3, [.ref g0, .null, .null, .int 0]))]) (tys' := []) (nC' := 0) (nS' := 0) rfl rfl rfl rfl rfl rfl ?_
  refine jn_aload_n (i := 0) d_N_init_9 rfl rfl ?_
  refine jn_bipush (v := 40) d_N_init_10 jc_b_40 ?_
  refine jn_newa (N := 40) (ty := .boolean) d_N_init_12 jn_w_ab rfl (fun cA => jn_ar_b cA 40) (by decide) (by decide) (by decide) (Nat.le_of_ble_eq_true rfl) (Nat.le_of_ble_eq_true rfl) (fun q1 c2 => ?_)
  refine jn_eq (L' := [some (.ref h0), some (.ref g0)]) (S' := [.ref q1, .ref h0]) (ws' := [(h0, .inr (3, [.ref g0, .null, .null, .int 0])), (q1, .inl (c2, 40, .inl (fun _ => 0)))]) (tys' := [(c2, .boolean)]) (nC' := 1) (nS' := 40) rfl rfl rfl rfl rfl rfl ?_
  refine jn_putF (i := 0) (j := 1) d_N_init_14 rfl jw_c_N jw_oc_N (Nat.le_of_ble_eq_true rfl) jw_fl_N_15 rfl rfl rfl rfl rfl (Nat.le_of_ble_eq_true rfl) ?_
  refine jn_eq (L' := [some (.ref h0), some (.ref g0)]) (S' := []) (ws' := [(h0, .inr (3, [.ref g0, .ref q1, .null, .int 0])), (q1, .inl (c2, 40, .inl (fun _ => 0)))]) (tys' := [(c2, .boolean)]) (nC' := 1) (nS' := 40) rfl rfl rfl rfl rfl rfl ?_
  refine jn_aload_n (i := 0) d_N_init_17 rfl rfl ?_
  refine jn_bipush (v := 40) d_N_init_18 jc_b_40 ?_
  refine jn_newa (N := 40) (ty := .int) d_N_init_20 jn_w_ai rfl (fun cA => jn_ar_i cA 40) (by decide) (by decide) (by decide) (Nat.le_of_ble_eq_true rfl) (Nat.le_of_ble_eq_true rfl) (fun q3 c4 => ?_)
  refine jn_eq (L' := [some (.ref h0), some (.ref g0)]) (S' := [.ref q3, .ref h0]) (ws' := [(h0, .inr (3, [.ref g0, .ref q1, .null, .int 0])), (q1, .inl (c2, 40, .inl (fun _ => 0))), (q3, .inl (c4, 40, .inl (fun _ => 0)))]) (tys' := [(c2, .boolean), (c4, .int)]) (nC' := 2) (nS' := 80) rfl rfl rfl rfl rfl rfl ?_
  refine jn_putF (i := 0) (j := 2) d_N_init_22 rfl jw_c_N jw_oc_N (Nat.le_of_ble_eq_true rfl) jw_fl_N_19 rfl rfl rfl rfl rfl (Nat.le_of_ble_eq_true rfl) ?_
  refine jn_eq (L' := [some (.ref h0), some (.ref g0)]) (S' := []) (ws' := [(h0, .inr (3, [.ref g0, .ref q1, .ref q3, .int 0])), (q1, .inl (c2, 40, .inl (fun _ => 0))), (q3, .inl (c4, 40, .inl (fun _ => 0)))]) (tys' := [(c2, .boolean), (c4, .int)]) (nC' := 2) (nS' := 80) rfl rfl rfl rfl rfl rfl ?_
  refine jn_aload_n (i := 0) d_N_init_25 rfl rfl ?_
  refine jn_get (i := 0) (j := 2) (v := .ref q3) d_N_init_26 rfl jw_c_N jw_oc_N (Nat.le_of_ble_eq_true rfl) jw_fl_N_19 rfl ?_
  refine jn_iconst (v := (-1)) d_N_init_29 jc_i_m1 ?_
  refine jn_fill (i := 2) (t0 := 1) d_N_init_30 rfl rfl (Nat.le_of_ble_eq_true rfl) jw_ml_N_23 ⟨Nat.le_of_ble_eq_true rfl, Nat.le_of_ble_eq_true rfl⟩ (Nat.le_of_ble_eq_true rfl) ⟨Nat.le_of_ble_eq_true rfl, Nat.le_of_ble_eq_true rfl⟩ (fun m5 h6 => ?_)
  refine jn_eq (L' := [some (.ref h0), some (.ref g0)]) (S' := []) (ws' := [(h0, .inr (3, [.ref g0, .ref q1, .ref q3, .int 0])), (q1, .inl (c2, 40, .inl (fun _ => 0))), (q3, .inl (c4, 40, .inl m5))]) (tys' := [(c2, .boolean), (c4, .int)]) (nC' := 2) (nS' := 80) rfl rfl rfl rfl rfl rfl ?_
  refine jn_aload_n (i := 0) d_N_init_33 rfl rfl ?_
  refine jn_iconst (v := 1) d_N_init_34 jc_i_1 ?_
  refine jn_put (i := 0) (j := 3) d_N_init_35 rfl jw_c_N jw_oc_N (Nat.le_of_ble_eq_true rfl) jw_fl_N_29 rfl rfl rfl (Nat.le_of_ble_eq_true rfl) ?_
  refine jn_eq (L' := [some (.ref h0), some (.ref g0)]) (S' := []) (ws' := [(h0, .inr (3, [.ref g0, .ref q1, .ref q3, .int 1])), (q1, .inl (c2, 40, .inl (fun _ => 0))), (q3, .inl (c4, 40, .inl m5))]) (tys' := [(c2, .boolean), (c4, .int)]) (nC' := 2) (nS' := 80) rfl rfl rfl rfl rfl rfl ?_
  exact jn_ret ([.ref g0, .ref q1, .ref q3, .int 1], [(q1, .inl (c2, 40, .inl (fun _ => 0))), (q3, .inl (c4, 40, .inl m5))], [(c2, .boolean), (c4, .int)]) d_N_init_38 (Nat.le_of_ble_eq_true rfl) (Nat.le_of_ble_eq_true rfl) rfl rfl (hR _ ⟨q1, c2, q3, c4, m5, h6, rfl⟩)
def f_R_init : jw_F := (y_R_init, b_R_init, 2, none, 1, 23)
set_option maxRecDepth 100000 in
theorem jw_cd_f_R_init : Cond.code f_R_init.1 f_R_init.2.1 f_R_init.2.2.1 f_R_init.2.2.2.1 ∈ jw_ws := jw_in (List.mem_append_right _ (List.mem_of_getElem? (i := 25) rfl)) rfl
theorem jw_in_f_R_init : Cond.instanceMethod f_R_init.1 ∈ jw_ws := jw_in (by decide +kernel) (by decide +kernel)
theorem jn_oi_R_3 : Cond.methodLink R_R 3 Lib.objectInit ∈ jw_ws := jw_in (by decide +kernel) (by decide +kernel)
theorem jw_ml_R_19 : jw_ok R_R 19 f_J_fill 2 := ⟨jw_in (by decide +kernel) (by decide +kernel), jw_in (by decide +kernel) (by decide +kernel), jw_cd_f_J_fill, ⟨by decide +kernel, by decide +kernel, by decide +kernel⟩⟩
set_option maxRecDepth 100000 in
set_option maxHeartbeats 4000000 in
theorem c_R_init {l : Launch} {D : va_G} {h0 : Nat} {x0 : Int32} : jn_M l D f_R_init (2, 21) h0 1 [.int 0, .null, .null, .int 0, .int 0] [.int x0] (fun u => ∃ (q1 : Nat) (c2 : ClassId) (m3 : Nat → Int32) (q5 : Nat) (c6 : ClassId), (∀ j, j < 16 → m3 j = (-1)) ∧ u = ([.int x0, .ref q1, .ref q5, .int 0, .int 0], [(q1, .inl (c2, 16, .inl m3)), (q5, .inl (c6, 5, .inl (fun _ => 0)))], [(c2, .int), (c6, .int)])) := by
  refine jn_M_of (by decide) rfl (Nat.le_of_ble_eq_true rfl) (by intro v hv; simp at hv; rcases hv with rfl <;> rfl) (fun X A hR => ?_)
  refine jn_eq (L' := [some (.ref h0), some (.int x0)]) (S' := []) (ws' := [(h0, .inr (1, [.int 0, .null, .null, .int 0, .int 0]))]) (tys' := []) (nC' := 0) (nS' := 0) rfl rfl rfl rfl rfl rfl ?_
  refine jn_aload_n (i := 0) d_R_init_0 rfl rfl ?_
  refine jn_obj d_R_init_1 jn_oi_R_3 ⟨Nat.le_of_ble_eq_true rfl, Nat.le_of_ble_eq_true rfl⟩ (Nat.le_of_ble_eq_true rfl) ?_
  refine jn_aload_n (i := 0) d_R_init_4 rfl rfl ?_
  refine jn_iload_n (i := 1) d_R_init_5 rfl rfl ?_
  refine jn_putF (i := 0) (j := 0) d_R_init_6 rfl jw_c_R jw_oc_R (Nat.le_of_ble_eq_true rfl) jw_fl_R_9 rfl rfl rfl rfl rfl (Nat.le_of_ble_eq_true rfl) ?_
  refine jn_eq (L' := [some (.ref h0), some (.int x0)]) (S' := []) (ws' := [(h0, .inr (1, [.int x0, .null, .null, .int 0, .int 0]))]) (tys' := []) (nC' := 0) (nS' := 0) rfl rfl rfl rfl rfl rfl ?_
  refine jn_aload_n (i := 0) d_R_init_9 rfl rfl ?_
  refine jn_bipush (v := 16) d_R_init_10 jc_b_16 ?_
  refine jn_newa (N := 16) (ty := .int) d_R_init_12 jn_w_ai rfl (fun cA => jn_ar_i cA 16) (by decide) (by decide) (by decide) (Nat.le_of_ble_eq_true rfl) (Nat.le_of_ble_eq_true rfl) (fun q1 c2 => ?_)
  refine jn_eq (L' := [some (.ref h0), some (.int x0)]) (S' := [.ref q1, .ref h0]) (ws' := [(h0, .inr (1, [.int x0, .null, .null, .int 0, .int 0])), (q1, .inl (c2, 16, .inl (fun _ => 0)))]) (tys' := [(c2, .int)]) (nC' := 1) (nS' := 16) rfl rfl rfl rfl rfl rfl ?_
  refine jn_putF (i := 0) (j := 1) d_R_init_14 rfl jw_c_R jw_oc_R (Nat.le_of_ble_eq_true rfl) jw_fl_R_15 rfl rfl rfl rfl rfl (Nat.le_of_ble_eq_true rfl) ?_
  refine jn_eq (L' := [some (.ref h0), some (.int x0)]) (S' := []) (ws' := [(h0, .inr (1, [.int x0, .ref q1, .null, .int 0, .int 0])), (q1, .inl (c2, 16, .inl (fun _ => 0)))]) (tys' := [(c2, .int)]) (nC' := 1) (nS' := 16) rfl rfl rfl rfl rfl rfl ?_
  refine jn_aload_n (i := 0) d_R_init_17 rfl rfl ?_
  refine jn_get (i := 0) (j := 1) (v := .ref q1) d_R_init_18 rfl jw_c_R jw_oc_R (Nat.le_of_ble_eq_true rfl) jw_fl_R_15 rfl ?_
  refine jn_iconst (v := (-1)) d_R_init_21 jc_i_m1 ?_
  refine jn_fill (i := 1) (t0 := 0) d_R_init_22 rfl rfl (Nat.le_of_ble_eq_true rfl) jw_ml_R_19 ⟨Nat.le_of_ble_eq_true rfl, Nat.le_of_ble_eq_true rfl⟩ (Nat.le_of_ble_eq_true rfl) ⟨Nat.le_of_ble_eq_true rfl, Nat.le_of_ble_eq_true rfl⟩ (fun m3 h4 => ?_)
  refine jn_eq (L' := [some (.ref h0), some (.int x0)]) (S' := []) (ws' := [(h0, .inr (1, [.int x0, .ref q1, .null, .int 0, .int 0])), (q1, .inl (c2, 16, .inl m3))]) (tys' := [(c2, .int)]) (nC' := 1) (nS' := 16) rfl rfl rfl rfl rfl rfl ?_
  refine jn_aload_n (i := 0) d_R_init_25 rfl rfl ?_
  refine jn_iconst (v := 5) d_R_init_26 jc_i_5 ?_
  refine jn_newa (N := 5) (ty := .int) d_R_init_27 jn_w_ai rfl (fun cA => jn_ar_i cA 5) (by decide) (by decide) (by decide) (Nat.le_of_ble_eq_true rfl) (Nat.le_of_ble_eq_true rfl) (fun q5 c6 => ?_)
  refine jn_eq (L' := [some (.ref h0), some (.int x0)]) (S' := [.ref q5, .ref h0]) (ws' := [(h0, .inr (1, [.int x0, .ref q1, .null, .int 0, .int 0])), (q1, .inl (c2, 16, .inl m3)), (q5, .inl (c6, 5, .inl (fun _ => 0)))]) (tys' := [(c2, .int), (c6, .int)]) (nC' := 2) (nS' := 21) rfl rfl rfl rfl rfl rfl ?_
  refine jn_putF (i := 0) (j := 2) d_R_init_29 rfl jw_c_R jw_oc_R (Nat.le_of_ble_eq_true rfl) jw_fl_R_25 rfl rfl rfl rfl rfl (Nat.le_of_ble_eq_true rfl) ?_
  refine jn_eq (L' := [some (.ref h0), some (.int x0)]) (S' := []) (ws' := [(h0, .inr (1, [.int x0, .ref q1, .ref q5, .int 0, .int 0])), (q1, .inl (c2, 16, .inl m3)), (q5, .inl (c6, 5, .inl (fun _ => 0)))]) (tys' := [(c2, .int), (c6, .int)]) (nC' := 2) (nS' := 21) rfl rfl rfl rfl rfl rfl ?_
  exact jn_ret ([.int x0, .ref q1, .ref q5, .int 0, .int 0], [(q1, .inl (c2, 16, .inl m3)), (q5, .inl (c6, 5, .inl (fun _ => 0)))], [(c2, .int), (c6, .int)]) d_R_init_32 (Nat.le_of_ble_eq_true rfl) (Nat.le_of_ble_eq_true rfl) rfl rfl (hR _ ⟨q1, c2, m3, q5, c6, h4, rfl⟩)
