/-! The frame of this proof: a method's walk over ONE world of cells (table kt: kind, size, references), whose ints are a function of cell and slot. jw_X: the machine comes from pc to the end; jw_R: an answer will do; jw_M: a method's contract. -/
abbrev jw_Mem : Type := Nat → Nat → Int32
/-- class numbers and slots; class number of each array cell; addresses; the table of the cells; the static row -/
abbrev jw_E : Type := va_G × (Nat → ClassId) × (Nat → Nat) × List (Nat × Nat × List (Option Nat)) × Option Nat
/-- a method: name, code, locals, answer, frames and words that its calls want -/
abbrev jw_F : Type := MethodName × ByteArray × Nat × Option FieldType × Nat × Nat
/-- where a walk stands: program, environment, room, state at the entry, method, arguments, frames below, method, code, cells and slots made, goal -/
abbrev jw_X0 : Type := Program × Env × Room × State × MethodId × Array Value × List Frame × Method × Code × Nat × Nat × (State → Prop)
def jw_ws : List Cond := lw_tbl.filter goodWord
theorem jw_in {w : Cond} (h : w ∈ lw_tbl) (g : goodWord w = true) : w ∈ jw_ws := List.mem_filter.mpr ⟨h, g⟩
def jw_ty : Nat → FieldType
  | 1 => .int
  | 2 => .boolean
  | 3 => .object "VersionRing$Node"
  | _ => .object "VersionRing$Context"
def jw_fv (E : jw_E) (μ : Nat → Int32) (j : Nat) : Option Nat → Value
  | some t => .ref (E.2.2.1 t)
  | none => .int (μ j)
def jw_fs (E : jw_E) (rs : List (Option Nat)) (μ : Nat → Int32) : List Value := rs.mapIdx (fun j r => jw_fv E μ j r)
def jw_cont (E : jw_E) (k : Nat) (μ : Nat → Int32) : va_E := match E.2.2.2.1[k]? with
  | some (0, ci, rs) => .inr (ci, jw_fs E rs μ)
  | some (1, n, _) => .inl (E.2.1 k, n, .inl μ)
  | some (2, n, _) => .inl (E.2.1 k, n, .inl μ)
  | some (_, n, rs) => .inl (E.2.1 k, n, .inr (.inr (.inr (.inr (fun i => (rs.getD i none).map E.2.2.1)))))
  | none => .inr (0, [])
def jw_W (E : jw_E) (M : jw_Mem) : va_W := (List.range E.2.2.2.1.length).map (fun k => (E.2.2.1 k, jw_cont E k (M k)))
def jw_U (M : jw_Mem) (k j : Nat) (x : Int32) : jw_Mem := fun q => if q = k then upd (M k) j x else M q
def jw_UA (M : jw_Mem) (k : Nat) (μ : Nat → Int32) : jw_Mem := fun q => if q = k then μ else M q
theorem jw_lt {E : jw_E} {k : Nat} {x : Nat × Nat × List (Option Nat)} (h : E.2.2.2.1[k]? = some x) : k < E.2.2.2.1.length := (List.getElem?_eq_some_iff.mp h).1
theorem jw_W_at {E : jw_E} {M : jw_Mem} {k : Nat} (hk : k < E.2.2.2.1.length) : (jw_W E M)[k]? = some (E.2.2.1 k, jw_cont E k (M k)) := by
  unfold jw_W
  rw [List.getElem?_map, List.getElem?_range hk]
  rfl
theorem jw_W_some {E : jw_E} {M : jw_Mem} {k : Nat} {q : Nat × va_E} (h : (jw_W E M)[k]? = some q) : k < E.2.2.2.1.length ∧ q = (E.2.2.1 k, jw_cont E k (M k)) := by
  have hl : k < (jw_W E M).length := (List.getElem?_eq_some_iff.mp h).1
  have hk : k < E.2.2.2.1.length := by
    unfold jw_W at hl
    rw [List.length_map, List.length_range] at hl
    exact hl
  rw [jw_W_at hk] at h
  exact ⟨hk, (Option.some.inj h).symm⟩
theorem jw_W_set {E : jw_E} {M : jw_Mem} {k : Nat} (μ : Nat → Int32) (hk : k < E.2.2.2.1.length) : (jw_W E M).set k (E.2.2.1 k, jw_cont E k μ) = jw_W E (jw_UA M k μ) := by
  apply List.ext_getElem?
  intro i
  by_cases hl : i < E.2.2.2.1.length
  · rw [jw_W_at hl]
    by_cases hi : i = k
    · subst hi
      rw [List.getElem?_set_self (by unfold jw_W; rw [List.length_map, List.length_range]; exact hl)]
      simp [jw_UA]
    · rw [List.getElem?_set_ne (Ne.symm hi), jw_W_at hl]
      simp [jw_UA, hi]
  · rw [List.getElem?_eq_none (by rw [List.length_set]; unfold jw_W; rw [List.length_map, List.length_range]; exact Nat.not_lt.mp hl), List.getElem?_eq_none (by unfold jw_W; rw [List.length_map, List.length_range]; exact Nat.not_lt.mp hl)]
theorem jw_U_eq (M : jw_Mem) (k j : Nat) (x : Int32) : jw_UA M k (upd (M k) j x) = jw_U M k j x := rfl
/-- what the tables say of the classes and of the arrays' classes -/
def jw_K (E : jw_E) (U : State) : Prop := (∀ (c : Nat) (q : vw_C), vwCl[c]? = some q → u_Kn U q.1 q.2.1 q.2.2 (E.1.1 c) (E.1.2 c)) ∧ ∀ (k kd n : Nat) (rs : List (Option Nat)), E.2.2.2.1[k]? = some (kd, n, rs) → kd ≠ 0 → ArrOfT U (E.2.1 k) (jw_ty kd) ∧ va_RA U (E.2.1 k) (jw_ty kd)
theorem jw_K_moved {E : jw_E} {u U : State} (hvm : u.vm.Alike U.vm) (h : jw_K E u) : jw_K E U := ⟨fun c q hq => u_Kn_moved hvm (h.1 c q hq), fun k kd n rs hk h0 => ⟨arrOfT_moved hvm (h.2 k kd n rs hk h0).1, (h.2 k kd n rs hk h0).2.moved hvm⟩⟩
theorem jw_K_0 {E : jw_E} {U : State} (h : jw_K E U) : va_K E.1 vwCl [] U := ⟨h.1, fun i q hi => by simp at hi⟩
theorem jw_K_1 {E : jw_E} {U : State} {k kd n : Nat} {rs : List (Option Nat)} (h : jw_K E U) (hk : E.2.2.2.1[k]? = some (kd, n, rs)) (h0 : kd ≠ 0) : va_K E.1 vwCl [(E.2.1 k, jw_ty kd)] U := by
  refine ⟨h.1, fun i q hi => ?_⟩
  cases i with
  | zero =>
    simp at hi
    subst hi
    exact h.2 k kd n rs hk h0
  | succ i => simp at hi
theorem jw_K_2 {E : jw_E} {U : State} {k kd n k2 kd2 n2 : Nat} {rs rs2 : List (Option Nat)} (h : jw_K E U) (hk : E.2.2.2.1[k]? = some (kd, n, rs)) (h0 : kd ≠ 0) (hk2 : E.2.2.2.1[k2]? = some (kd2, n2, rs2)) (h02 : kd2 ≠ 0) : va_K E.1 vwCl [(E.2.1 k, jw_ty kd), (E.2.1 k2, jw_ty kd2)] U := by
  have h1 := (jw_K_1 h hk h0).app (jw_K_1 h hk2 h02)
  exact h1
/-- the static row of five zeros -/
def jw_Z (E : jw_E) (A : Nat → Prop) (U : State) (H : Heap) : Prop := ∀ t, E.2.2.2.2 = some t → va_Z "VersionRing" "NOTHING_KNOWN" "[I" (.ref t) A U H ∧ va_T .int t 5 (fun _ => .int 0) A U H
theorem jw_Z_moved {E : jw_E} {A : Nat → Prop} {u U : State} {H : Heap} (hvm : u.vm.Alike U.vm) (h : jw_Z E A u H) : jw_Z E A U H := fun t ht => ⟨(h t ht).1.moved hvm, (h t ht).2.moved hvm⟩
theorem jw_Z_kept {E : jw_E} {A : Nat → Prop} {U : State} {H H1 : Heap} (h : jw_Z E A U H) (hq : ∀ a : Nat, a < H.size → ¬ A a → H1[a]? = H[a]?) : jw_Z E A U H1 := fun t ht => ⟨(h t ht).1.kept hq, (h t ht).2.kept hq⟩
/-- the cells are apart, and the method may change them -/
def jw_D (E : jw_E) (A : Nat → Prop) : Prop := (∀ i j, i < E.2.2.2.1.length → j < E.2.2.2.1.length → E.2.2.1 i = E.2.2.1 j → i = j) ∧ ∀ k, k < E.2.2.2.1.length → A (E.2.2.1 k)
theorem jw_D_va {E : jw_E} {A : Nat → Prop} (h : jw_D E A) (M : jw_Mem) : va_D A (jw_W E M) := by
  refine ⟨fun i j x y hi hj hxy => ?_, fun k q hk => ?_⟩
  · obtain ⟨a1, rfl⟩ := jw_W_some hi
    obtain ⟨a2, rfl⟩ := jw_W_some hj
    exact h.1 i j a1 a2 hxy
  · obtain ⟨a1, rfl⟩ := jw_W_some hk
    exact h.2 k a1
def jw_S (E : jw_E) (A : Nat → Prop) (U : State) : Prop := jw_K E U ∧ jw_Z E A U U.heap ∧ jw_D E A
/-- locals: by their numbers; none: nothing is known -/
def jw_l (ls : Array Slot) (nL : Nat) (L : List (Option Value)) : Prop := ls.size = nL ∧ lv_wf ls ∧ ∀ (i : Nat) (v : Value), L[i]? = some (some v) → ls[i]? = some (.val v) ∧ v.category = 1
def jw_pr1 (L : List (Option Value)) (i : Nat) : Option (Nat × Value) := match L[i]? with
  | some (some v) => some (i, v)
  | _ => none
def jw_pr (L : List (Option Value)) : List (Nat × Value) := (List.range L.length).filterMap (jw_pr1 L)
theorem jw_mem_pr {L : List (Option Value)} {i : Nat} {v : Value} (h : L[i]? = some (some v)) : (i, v) ∈ jw_pr L := List.mem_filterMap.mpr ⟨i, List.mem_range.mpr (List.getElem?_eq_some_iff.mp h).1, by unfold jw_pr1; rw [h]⟩
theorem jw_of_pr {L : List (Option Value)} {q : Nat × Value} (h : q ∈ jw_pr L) : L[q.1]? = some (some q.2) := by
  obtain ⟨i, -, hi⟩ := List.mem_filterMap.mp h
  unfold jw_pr1 at hi
  split at hi
  · rename_i v hv
    cases hi
    exact hv
  · cases hi
theorem jw_l_has {ls : Array Slot} {nL : Nat} {L : List (Option Value)} (h : jw_l ls nL L) : lv_has ls nL (jw_pr L) := ⟨h.1, h.2.1, fun q hq => (h.2.2 _ _ (jw_of_pr hq)).1⟩
theorem jw_l_set {ls ls' : Array Slot} {nL i : Nat} {v : Value} {L : List (Option Value)} (h : jw_l ls nL L) (hc : v.category = 1) (h' : lv_has ls' nL ((i, v) :: (jw_pr L).filter (fun q => !(q.1 == i) && !(q.1 + 1 == i && q.2.category == 2)))) : jw_l ls' nL (L.set i (some v)) := by
  refine ⟨h'.1, h'.2.1, fun j w hj => ?_⟩
  by_cases e : j = i
  · subst e
    have hl : j < (L.set j (some v)).length := (List.getElem?_eq_some_iff.mp hj).1
    rw [List.length_set] at hl
    rw [List.getElem?_set_self hl] at hj
    cases hj
    exact ⟨h'.2.2 (j, v) List.mem_cons_self, hc⟩
  · rw [List.getElem?_set_ne (Ne.symm e)] at hj
    have hw := (h.2.2 j w hj).2
    refine ⟨h'.2.2 (j, w) (List.mem_cons_of_mem _ (List.mem_filter.mpr ⟨jw_mem_pr hj, ?_⟩)), hw⟩
    simp [e, hw]
/-- what holds along a walk of f -/
def jw_C (E : jw_E) (A : Nat → Prop) (f : jw_F) (p : Program) (R : Room) (s : State) (m : MethodId) (args : Array Value) (meth : Method) (c : Code) (cells slots : Nat) : Prop :=
  p.tables.exec = Jvm.exec ∧ c.code = f.2.1 ∧ meth.sig.returnType = f.2.2.2.1 ∧ c.maxLocals = f.2.2.1 ∧ s.vm.findClass f.1.cls = some m.cls ∧ (∀ w ∈ jw_ws, w.before args s = true) ∧ meth.locks = false ∧ jw_S E A s ∧ (f.2.2.2.2.1 ≤ R.frames ∧ f.2.2.2.2.2 ≤ R.locals ∧ cells ≤ R.cells ∧ slots ≤ R.slots)
/-- the walk: at pc, with locals L, stack S, ints M -/
def jw_X (l : Launch) (X : jw_X0) (E : jw_E) (A : Nat → Prop) (f : jw_F) (pc : Nat) (L : List (Option Value)) (S : List Value) (M : jw_Mem) : Prop := match X with
  | (p, e, R, s, m, args, below, meth, c, cells, slots, Q) => jw_C E A f p R s m args meth c cells slots → ∀ (H : Heap) (locs : List Loc) (ls : Array Slot), va_P E.1 vwCl (jw_W E M) H → va_S A s.heap H locs → jw_l ls f.2.2.1 L → W p l e R s m args below meth c H locs cells slots Q (F0 m pc ls S)
/-- an answer r, with the ints M, will do -/
def jw_R (l : Launch) (X : jw_X0) (E : jw_E) (A : Nat → Prop) (f : jw_F) (r : Int32) (M : jw_Mem) : Prop := match X with
  | (p, e, R, s, m, args, below, meth, c, cells, slots, Q) => jw_C E A f p R s m args meth c cells slots → ∀ (H : Heap) (locs : List Loc) (pc : Nat) (ls : Array Slot), va_P E.1 vwCl (jw_W E M) H → va_S A s.heap H locs → (f.2.2.2.1 = none → r = 0 → decode f.2.1 pc = .ok (.return_, 1) → W p l e R s m args below meth c H locs cells slots Q (F0 m pc ls [])) ∧ (∀ ty, f.2.2.2.1 = some ty → decode f.2.1 pc = .ok (.ireturn, 1) → W p l e R s m args below meth c H locs cells slots Q (F0 m pc ls [.int r]))
def jw_rm (f : jw_F) : Room := { frames := f.2.2.2.2.1, cells := 0, slots := 0, locals := f.2.2.2.2.2 }
def jw_w (f : jw_F) : List Cond := .code f.1 f.2.1 f.2.2.1 f.2.2.2.1 :: jw_ws
def jw_B (E : jw_E) (M : jw_Mem) (t : State) : Prop := va_P E.1 vwCl (jw_W E M) t.heap
def jw_Q (E : jw_E) (A : Nat → Prop) (ret : Option FieldType) (Q : Int32 → jw_Mem → Prop) : Array Value → State → Outcome → State → Prop := match ret with
  | none => va_Qv (fun M => Q 0 M) (jw_B E) A
  | some _ => va_Qi Q (jw_B E) A
def jw_I (E : jw_E) (A : Nat → Prop) (M : jw_Mem) (U : State) : Prop := va_P E.1 vwCl (jw_W E M) U.heap ∧ jw_S E A U
/-- the contract of f, goal first: called with As at ints M it comes back with an answer and ints of which Q holds -/
def jw_M (l : Launch) (E : jw_E) (A : Nat → Prop) (f : jw_F) (As : List Value) (M : jw_Mem) (Q : Int32 → jw_Mem → Prop) : Prop := Met l f.1 (jw_w f) (jw_rm f) (va_Pc As (jw_I E A M)) (jw_Q E A f.2.2.2.1 Q) 0 0 A
theorem jw_M_mono {l : Launch} {E : jw_E} {A : Nat → Prop} {f : jw_F} {As : List Value} {M : jw_Mem} {Q Q' : Int32 → jw_Mem → Prop} (h : jw_M l E A f As M Q) (hq : ∀ r M', Q r M' → Q' r M') : jw_M l E A f As M Q' := by
  intro p e ha hc hk s m args below hf happ hP hK
  obtain ⟨n, o, h1, h2, h3, hQ, hrest⟩ := h p e ha hc hk s m args below hf happ hP hK
  refine ⟨n, o, h1, h2, h3, ?_, hrest⟩
  obtain ⟨y, bytes, maxL, ret, dep, loc⟩ := f
  cases ret with
  | none =>
    obtain ⟨⟨u, e1, e2, e3⟩, e4⟩ := hQ
    exact ⟨⟨u, e1, hq _ _ e2, e3⟩, e4⟩
  | some ty =>
    obtain ⟨⟨r, u, e1, e2, e3⟩, e4⟩ := hQ
    exact ⟨⟨r, u, e1, hq _ _ e2, e3⟩, e4⟩
theorem jw_sl_len : ∀ (vs : List Value), (∀ v ∈ vs, v.category = 1) → (lg_sl vs).length = vs.length
  | [], _ => rfl
  | v :: t, h => by
    have h1 : v.category = 1 := h v List.mem_cons_self
    have h2 := jw_sl_len t (fun w hw => h w (List.mem_cons_of_mem _ hw))
    unfold lg_sl at h2 ⊢
    rw [List.flatMap_cons, List.length_append, h2, if_neg (by omega)]
    simp
    omega
theorem jw_args_in : ∀ (vs : List Value) (i k : Nat) (v : Value), (∀ v ∈ vs, v.category = 1) → vs[k]? = some v → (i + k, v) ∈ lv_args i vs
  | [], i, k, v, _, h => by simp at h
  | a :: t, i, k, v, hc, h => by
    have h1 : a.category = 1 := hc a List.mem_cons_self
    unfold lv_args
    rw [if_neg (by omega)]
    cases k with
    | zero =>
      simp at h
      subst h
      exact List.mem_cons_self
    | succ k =>
      rw [List.getElem?_cons_succ] at h
      have := jw_args_in t (i + 1) k v (fun w hw => hc w (List.mem_cons_of_mem _ hw)) h
      rw [show i + (k + 1) = i + 1 + k by omega]
      exact List.mem_cons_of_mem _ this
/-- a contract out of a walk of the body -/
theorem jw_M_of {l : Launch} {E : jw_E} {A : Nat → Prop} {f : jw_F} {As : List Value} {M : jw_Mem} {Q : Int32 → jw_Mem → Prop} (hy : plainName f.1.cls = true) (hlen : As.length ≤ f.2.2.1) (hcat : ∀ v ∈ As, v.category = 1)
    (h : ∀ X, (∀ r M', Q r M' → (∀ ty, f.2.2.2.1 = some ty → narrow ty (.int r) = .int r) → jw_R l X E A f r M') → jw_X l X E A f 0 (As.map some ++ List.replicate (f.2.2.1 - As.length) none) [] M) : jw_M l E A f As M Q := by
  refine Met.ofW (cc := f.2.1) (maxL := f.2.2.1) (ret := f.2.2.2.1) hy rfl ?_
  intro p e s m args below meth c s₁ B hml hv
  obtain ⟨rfl, hP, hSx⟩ := hv
  have hts := atoms_spec (ws := jw_w f) B.pre
  have hown : s.vm.findClass f.1.cls = some m.cls := findClass_of_methodNamed B.named
  have hl := lv_entry As (n := f.2.2.1) (by rw [jw_sl_len As hcat]; exact hlen)
  rw [lg_entry_eq]
  generalize (lg_sl As ++ List.replicate (f.2.2.1 - (lg_sl As).length) Slot.unset).toArray = ls at hl ⊢
  have hl' : jw_l ls f.2.2.1 (As.map some ++ List.replicate (f.2.2.1 - As.length) none) := by
    refine ⟨hl.1, hl.2.1, fun i v hi => ?_⟩
    have hi2 : As[i]? = some v := by
      by_cases h1 : i < (As.map some).length
      · rw [List.getElem?_append_left h1, List.getElem?_map] at hi
        cases h2 : As[i]? with
        | none => rw [h2] at hi; cases hi
        | some w => rw [h2] at hi; cases hi; rfl
      · rw [List.getElem?_append_right (Nat.not_lt.mp h1)] at hi
        have h2 := List.mem_of_getElem? hi
        have h3 := List.eq_of_mem_replicate h2
        cases h3
    refine ⟨?_, hcat v (List.mem_of_getElem? hi2)⟩
    have h4 := hl.2.2 (i, v) (by have := jw_args_in As 0 i v hcat hi2; rwa [Nat.zero_add] at this)
    exact h4
  have C : jw_C E A f p (headSpec (jw_w f) (jw_rm f)).room s m As.toArray meth c 0 0 := ⟨B.exec, B.bytes, B.returns, hml, hown, fun w hw => hts w (List.mem_cons_of_mem _ hw), B.notSynchronized, hSx, Nat.le_refl _, Nat.le_refl _, Nat.le_refl _, Nat.le_refl _⟩
  refine h (p, e, (headSpec (jw_w f) (jw_rm f)).room, s, m, As.toArray, below, meth, c, 0, 0, MQ below (jw_Q E A f.2.2.2.1 Q) As.toArray s 0 0 A) ?_ C s.heap [] ls hP va_S.rf hl'
  intro r M' hq hn C' H locs pc ls' hP' hS'
  refine ⟨fun h0 hr hd => ?_, fun ty h0 hd => ?_⟩
  · subst hr
    exact W.vret (Qc := jw_Q E A f.2.2.2.1 Q) C'.1 C'.2.1 (C'.2.2.1.trans h0) (fun t ht hW => by
      rw [h0]
      exact ⟨⟨M', rfl, hq, by show va_P _ _ _ t.heap; rw [ht]; exact hP'⟩, hS'.F ht⟩) hS'.2.2 hd C'.2.2.2.2.2.2.1
  · exact W.zret (Qc := jw_Q E A f.2.2.2.1 Q) C'.1 C'.2.1 (C'.2.2.1.trans h0) (hn ty h0) (fun t ht hW => by
      rw [h0]
      exact ⟨⟨r, M', rfl, hq, by show va_P _ _ _ t.heap; rw [ht]; exact hP'⟩, hS'.F ht⟩) hS'.2.2 hd C'.2.2.2.2.2.2.1
