/-! Contracts of constructors; calls of them; Arrays.fill inside them -/
abbrev jn_U : Type := List Value × va_W × jn_T
def jn_B (D : va_G) (A : Nat → Prop) (h0 ci : Nat) (u : jn_U) (t : State) : Prop := va_P D vwCl ((h0, .inr (ci, u.1)) :: u.2.1) t.heap ∧ va_K D vwCl u.2.2 t ∧ va_D A ((h0, .inr (ci, u.1)) :: u.2.1)
def jn_pre (D : va_G) (sz h0 ci : Nat) (fs0 : List Value) (U : State) : Prop := U.heap.size = sz ∧ va_P D vwCl [(h0, .inr (ci, fs0))] U.heap ∧ va_K D vwCl [] U ∧ va_AO R_N U ∧ va_AO R_C U
def jn_rm (f : jw_F) (Z : Nat × Nat) : Room := { frames := f.2.2.2.2.1, cells := Z.1, slots := Z.2, locals := f.2.2.2.2.2 }
/-- the contract of a constructor -/
def jn_M (l : Launch) (D : va_G) (f : jw_F) (Z : Nat × Nat) (h0 ci : Nat) (fs0 : List Value) (As : List Value) (Post : jn_U → Prop) : Prop := ∀ sz, Met l f.1 (jw_w f) (jn_rm f Z) (va_Pc (.ref h0 :: As) (jn_pre D sz h0 ci fs0)) (va_Qv Post (jn_B D (va_A [(h0, .inr (ci, fs0))] sz) h0 ci) (va_A [(h0, .inr (ci, fs0))] sz)) Z.1 Z.2 (va_A [(h0, .inr (ci, fs0))] sz)
/-- the end of a constructor -/
def jn_R (l : Launch) (X : jw_X0) (D : va_G) (A : Nat → Prop) (f : jw_F) (Z : Nat × Nat) (h0 ci : Nat) (u : jn_U) : Prop := match X with
  | (p, e, R, s, m, args, below, meth, c, _, _, Q) => jn_C A f Z p R s m args meth c → ∀ (H : Heap) (locs : List Loc) (ls : Array Slot) (pc : Nat), va_P D vwCl ((h0, .inr (ci, u.1)) :: u.2.1) H → va_K D vwCl u.2.2 s → va_D A ((h0, .inr (ci, u.1)) :: u.2.1) → va_S A s.heap H locs → decode f.2.1 pc = .ok (.return_, 1) → W p l e R s m args below meth c H locs Z.1 Z.2 Q (F0 m pc ls [])
theorem jn_ret {l : Launch} {X : jw_X0} {D : va_G} {A : Nat → Prop} {f : jw_F} {Z : Nat × Nat} {nC nS pc h0 ci : Nat} {L : List (Option Value)} {ws : va_W} {tys : jn_T} (u : jn_U) (hd : decode f.2.1 pc = .ok (.return_, 1)) (h1 : nC ≤ Z.1) (h2 : nS ≤ Z.2) (e1 : ws = (h0, .inr (ci, u.1)) :: u.2.1) (e2 : tys = u.2.2) (h : jn_R l X D A f Z h0 ci u) : jn_X l X D A f Z nC nS pc L [] ws tys := by
  obtain ⟨p, e, R, s, m, args, below, meth, c, cells, slots, Q⟩ := X
  intro C H locs ls hP hK hD hS hl
  subst e1
  subst e2
  exact W.widen h1 h2 (h C H locs ls pc hP hK hD hS hd)
theorem jn_M_of {l : Launch} {D : va_G} {f : jw_F} {Z : Nat × Nat} {h0 ci : Nat} {fs0 As : List Value} {Post : jn_U → Prop} (hy : plainName f.1.cls = true) (h0n : f.2.2.2.1 = none) (hlen : As.length + 1 ≤ f.2.2.1) (hcat : ∀ v ∈ As, v.category = 1)
    (h : ∀ X A, (∀ u, Post u → jn_R l X D A f Z h0 ci u) → jn_X l X D A f Z 0 0 0 ((Value.ref h0 :: As).map some ++ List.replicate (f.2.2.1 - (As.length + 1)) none) [] [(h0, .inr (ci, fs0))] []) : jn_M l D f Z h0 ci fs0 As Post := by
  intro sz
  refine Met.ofW (cc := f.2.1) (maxL := f.2.2.1) (ret := f.2.2.2.1) hy rfl ?_
  intro p e s m args below meth c s₁ B hml hv
  obtain ⟨rfl, hsz, hP, hK, hA1, hA2⟩ := hv
  have hcat' : ∀ v ∈ (Value.ref h0 :: As), v.category = 1 := by
    intro v hv
    rcases List.mem_cons.mp hv with rfl | hv
    · rfl
    · exact hcat v hv
  have hts := atoms_spec (ws := jw_w f) B.pre
  have hown : s.vm.findClass f.1.cls = some m.cls := findClass_of_methodNamed B.named
  have hl := lv_entry (Value.ref h0 :: As) (n := f.2.2.1) (by rw [jw_sl_len _ hcat']; exact hlen)
  rw [lg_entry_eq]
  generalize (lg_sl (Value.ref h0 :: As) ++ List.replicate (f.2.2.1 - (lg_sl (Value.ref h0 :: As)).length) Slot.unset).toArray = ls at hl ⊢
  have hl' : jw_l ls f.2.2.1 ((Value.ref h0 :: As).map some ++ List.replicate (f.2.2.1 - (As.length + 1)) none) := by
    refine ⟨hl.1, hl.2.1, fun i v hi => ?_⟩
    have hi2 : (Value.ref h0 :: As)[i]? = some v := by
      by_cases h1 : i < ((Value.ref h0 :: As).map some).length
      · rw [List.getElem?_append_left h1, List.getElem?_map] at hi
        cases h2 : (Value.ref h0 :: As)[i]? with
        | none => rw [h2] at hi; cases hi
        | some w => rw [h2] at hi; cases hi; rfl
      · rw [List.getElem?_append_right (Nat.not_lt.mp h1)] at hi
        have h2 := List.mem_of_getElem? hi
        have h3 := List.eq_of_mem_replicate h2
        cases h3
    refine ⟨?_, hcat' v (List.mem_of_getElem? hi2)⟩
    have h4 := hl.2.2 (i, v) (by have := jw_args_in (Value.ref h0 :: As) 0 i v hcat' hi2; rwa [Nat.zero_add] at this)
    exact h4
  subst hsz
  have hD : va_D (va_A [(h0, .inr (ci, fs0))] s.heap.size) [(h0, .inr (ci, fs0))] := by
    refine ⟨fun i j x y hi hj _ => ?_, fun k q hk => Or.inl ⟨k, q.2, hk⟩⟩
    have a1 : i < 1 := (List.getElem?_eq_some_iff.mp hi).1
    have a2 : j < 1 := (List.getElem?_eq_some_iff.mp hj).1
    omega
  have C : jn_C (va_A [(h0, .inr (ci, fs0))] s.heap.size) f Z p (headSpec (jw_w f) (jn_rm f Z)).room s m (Value.ref h0 :: As).toArray meth c := ⟨B.exec, B.bytes, B.returns, hml, hown, fun w hw => hts w (List.mem_cons_of_mem _ hw), B.notSynchronized, fun q hq => Or.inr hq, ⟨Nat.le_refl _, Nat.le_refl _, Nat.le_refl _, Nat.le_refl _⟩, fun hin => ((name_of_methodNamed B.named B.method).1).trans hin, hA1, hA2⟩
  refine h (p, e, (headSpec (jw_w f) (jn_rm f Z)).room, s, m, (Value.ref h0 :: As).toArray, below, meth, c, 0, 0, MQ below (va_Qv Post (jn_B D (va_A [(h0, .inr (ci, fs0))] s.heap.size) h0 ci) (va_A [(h0, .inr (ci, fs0))] s.heap.size)) (Value.ref h0 :: As).toArray s Z.1 Z.2 (va_A [(h0, .inr (ci, fs0))] s.heap.size)) (va_A [(h0, .inr (ci, fs0))] s.heap.size) ?_ C s.heap [] ls hP hK hD va_S.rf hl'
  intro u hu C' H locs ls' pc hP' hK' hD' hS' hd
  exact W.vret (Qc := va_Qv Post (jn_B D (va_A [(h0, .inr (ci, fs0))] s.heap.size) h0 ci) (va_A [(h0, .inr (ci, fs0))] s.heap.size)) C'.1 C'.2.1 (C'.2.2.1.trans h0n) (fun t ht hW => ⟨⟨u, rfl, hu, by rw [ht]; exact hP', va_K.moved hW.alike hK', hD'⟩, hS'.F ht⟩) hS'.2.2 hd C'.2.2.2.2.2.2.1
/-- behind a call: one cell of the world is another, and new ones stand behind -/
theorem jn_join {A0 : Nat → Prop} {D : va_G} {ws New : va_W} {H H1 : Heap} {q i : Nat} {e e' : va_E} (hP : va_P D vwCl ws H) (hD : va_D A0 ws) (hi : ws[i]? = some (q, e)) (hk : ∀ a : Nat, a < H.size → ¬ va_A [(q, e)] H.size a → H1[a]? = H[a]?) (hF : ∀ a, va_A [(q, e)] H.size a → A0 a) (hP1 : va_P D vwCl ((q, e') :: New) H1) (hD1 : va_D (va_A [(q, e)] H.size) ((q, e') :: New)) : va_P D vwCl (ws.set i (q, e') ++ New) H1 ∧ va_D A0 (ws.set i (q, e') ++ New) := by
  have hil : i < ws.length := (List.getElem?_eq_some_iff.mp hi).1
  have old : ∀ (k : Nat) (x : Nat × va_E), k ≠ i → ws[k]? = some x → x.1 < H.size ∧ x.1 ≠ q := by
    intro k x hki hx
    exact ⟨(hP k x hx).lt, fun z => hki (hD.1 k i x (q, e) hx hi z)⟩
  have inA : ∀ a, va_A [(q, e)] H.size a → a = q ∨ H.size ≤ a := by
    rintro a (⟨k, z, hz⟩ | h)
    · cases k with
      | zero => simp at hz; exact Or.inl hz.1.symm
      | succ k => simp at hz
    · exact Or.inr h
  have nw : ∀ (k : Nat) (x : Nat × va_E), New[k]? = some x → H.size ≤ x.1 ∧ x.1 ≠ q := by
    intro k x hx
    have h1 := hD1.2 (k + 1) x (by rw [List.getElem?_cons_succ]; exact hx)
    have h2 : x.1 ≠ q := fun z => by
      have := hD1.1 (k + 1) 0 x (q, e') (by rw [List.getElem?_cons_succ]; exact hx) rfl z
      omega
    exact ⟨(inA _ h1).resolve_left h2, h2⟩
  have split : ∀ (k : Nat) (x : Nat × va_E), (ws.set i (q, e') ++ New)[k]? = some x → (k = i ∧ x = (q, e')) ∨ (k ≠ i ∧ k < ws.length ∧ ws[k]? = some x) ∨ (ws.length ≤ k ∧ New[k - ws.length]? = some x) := by
    intro k x hx
    by_cases c : k < ws.length
    · rw [List.getElem?_append_left (by rw [List.length_set]; exact c)] at hx
      by_cases c2 : k = i
      · subst c2
        rw [List.getElem?_set_self c] at hx
        exact Or.inl ⟨rfl, (Option.some.inj hx).symm⟩
      · rw [List.getElem?_set_ne (Ne.symm c2)] at hx
        exact Or.inr (Or.inl ⟨c2, c, hx⟩)
    · rw [List.getElem?_append_right (by rw [List.length_set]; omega), List.length_set] at hx
      exact Or.inr (Or.inr ⟨by omega, hx⟩)
  have kept : ∀ (k : Nat) (x : Nat × va_E), k ≠ i → ws[k]? = some x → va_at D vwCl x H1 := by
    intro k x hki hx
    obtain ⟨h1, h2⟩ := old k x hki hx
    refine (hP k x hx).kept (hk x.1 h1 (fun z => ?_))
    rcases inA _ z with z | z
    · exact h2 z
    · omega
  refine ⟨fun k x hx => ?_, fun k j x y hx hy exy => ?_, fun k x hx => ?_⟩
  · rcases split k x hx with ⟨_, rfl⟩ | ⟨a, _, b⟩ | ⟨_, b⟩
    · exact hP1 0 _ rfl
    · exact kept k x a b
    · exact hP1 (k - ws.length + 1) x (by rw [List.getElem?_cons_succ]; exact b)
  · rcases split k x hx with ⟨a, rfl⟩ | ⟨a, a2, b⟩ | ⟨a, b⟩ <;> rcases split j y hy with ⟨c, rfl⟩ | ⟨c, c2, d⟩ | ⟨c, d⟩
    · omega
    · exact absurd exy.symm (old j y c d).2
    · exact absurd exy.symm (nw _ y d).2
    · exact absurd exy (old k x a b).2
    · exact hD.1 k j x y b d exy
    · have h1 := (old k x a b).1
      have h2 := (nw _ y d).1
      omega
    · exact absurd exy (nw _ x b).2
    · have h1 := (nw _ x b).1
      have h2 := (old j y c d).1
      omega
    · have := hD1.1 (k - ws.length + 1) (j - ws.length + 1) x y (by rw [List.getElem?_cons_succ]; exact b) (by rw [List.getElem?_cons_succ]; exact d) exy
      omega
  · rcases split k x hx with ⟨_, rfl⟩ | ⟨a, _, b⟩ | ⟨_, b⟩
    · exact hF q (Or.inl ⟨0, e, rfl⟩)
    · exact hD.2 k x b
    · exact hF _ (hD1.2 (k - ws.length + 1) x (by rw [List.getElem?_cons_succ]; exact b))
theorem jn_free {A : Nat → Prop} {ws : va_W} {H0 H : Heap} {locs : List Loc} {q i : Nat} {e : va_E} (hD : va_D A ws) (hS : va_S A H0 H locs) (hA : ∀ q, H0.size ≤ q → A q) (hi : ws[i]? = some (q, e)) : ∀ a, va_A [(q, e)] H.size a → A a := by
  rintro a (⟨k, z, hz⟩ | h)
  · cases k with
    | zero =>
      simp at hz
      have := hD.2 i _ hi
      rw [← hz.1]
      exact this
    | succ k => simp at hz
  · exact hA a (Nat.le_trans hS.1 h)
/-- a call of a constructor -/
theorem jn_init {l : Launch} {X : jw_X0} {D : va_G} {A : Nat → Prop} {f g : jw_F} {Z Z2 : Nat × Nat} {nC nS pc i q ci idx n : Nat} {L : List (Option Value)} {S St As fs0 : List Value} {ws : va_W} {tys : jn_T} {Post : jn_U → Prop} (hd : decode f.2.1 pc = .ok (.invokespecial idx, 3)) (hi : ws[i]? = some (q, .inr (ci, fs0))) (hM : jn_M l D g Z2 q ci fs0 As Post) (ok : jw_ok f.1.cls idx g n) (hin : Cond.instanceMethod g.1 ∈ jw_ws) (hname : g.1.name = "<init>") (hnone : g.2.2.2.1 = none) (hdep : g.2.2.2.2.1 < f.2.2.2.2.1 ∧ 8 + (g.2.2.1 + 11) + g.2.2.2.2.2 ≤ f.2.2.2.2.2) (hn : As.length = n) (hst : St = As.reverse ++ .ref q :: S) (h8 : (S.map fun v => v.category).sum ≤ 8) (h1 : nC + Z2.1 ≤ Z.1) (h2 : nS + Z2.2 ≤ Z.2)
    (h : ∀ u, Post u → jn_X l X D A f Z (nC + Z2.1) (nS + Z2.2) (pc + 3) L S (ws.set i (q, .inr (ci, u.1)) ++ u.2.1) (tys ++ u.2.2)) : jn_X l X D A f Z nC nS pc L St ws tys := by
  obtain ⟨p, e, R, s, m, args, below, meth, c, cells, slots, Q⟩ := X
  intro C H locs ls hP hK hD hS hl
  have hR := C.2.2.2.2.2.2.2.2.1
  have hts := C.2.2.2.2.2.1
  have hao := C.2.2.2.2.2.2.2.2.2.2
  have hFc := jn_free hD hS C.2.2.2.2.2.2.2.1 hi
  obtain ⟨y, bytes, maxL, ret, dep, loc⟩ := g
  have hnone' : ret = none := hnone
  subst hnone'
  have hPc : va_P D vwCl [(q, .inr (ci, fs0))] H := fun k x hk => by
    cases k with
    | zero => simp at hk; subst hk; exact hP i _ hi
    | succ k => simp at hk
  refine va_callv (va_runI (cells := nC) (slots := nS) (e := e) (below := below) (meth := meth) (locs := locs) (g := F0 m pc ls St) (rest := S) (Ts := jw_ws) (own := f.1.cls) ⟨C.1, C.2.1, C.2.2.2.1, C.2.2.2.2.1, hts⟩ (hM H.size)
    (cwI n hts (jw_good ok.2.2.1) rfl rfl rfl (hts _ ok.2.1) (hts _ ok.1) (hts _ hin) hname ok.2.2.2 ⟨Nat.le_trans hdep.1 hR.1, Nat.le_trans hdep.2 hR.2.1⟩)
    ⟨fun a U g mk z => ?_, fun U hU hW => ⟨rfl, by rw [hU], by rw [hU]; exact hPc, ⟨(va_K.moved hW.alike hK).1, fun k z hz => by simp at hz⟩, va_AO.moved hW.alike hao.1, va_AO.moved hW.alike hao.2⟩⟩ rfl hn hl.1 hst (lv_room h8) hd ⟨Nat.le_trans h1 hR.2.2.1, Nat.le_trans h2 hR.2.2.2⟩) hS (fun q _ h => hFc q h) hFc (fun u t H1 locs1 ht hvm hpost hB hz1 hk1 hS1 => ?_)
  · obtain ⟨z0, z1, z2, z3, z4, z5⟩ := z
    exact ⟨z0, z1, z2, va_K.moved (u := U) (U := U.calling g mk a) (Vm.Alike.refl U.vm) z3, va_AO.moved (u := U) (U := U.calling g mk a) (Vm.Alike.refl U.vm) z4, va_AO.moved (u := U) (U := U.calling g mk a) (Vm.Alike.refl U.vm) z5⟩
  · obtain ⟨hP1, hK1, hD1⟩ := hB
    rw [ht] at hP1
    have hK1 := va_K.moved hvm.symm hK1
    obtain ⟨hP2, hD2⟩ := jn_join hP hD hi hk1 hFc hP1 hD1
    exact h u hpost C H1 locs1 ls hP2 (hK.app hK1) hD2 hS1 hl
