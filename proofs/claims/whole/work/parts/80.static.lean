/-! The static row of five zeros at the law's entry -/
theorem lw_eqi {args : Array Value} {s : State} {t : Term} {k : Int32} (h : (Cond.eq t (.int k)).before args s = true) : t.eval args s none [] s = some (.int k) := by
  have hk : (Term.int k).eval args s none [] s = some (.int k) := rfl
  simp only [Cond.before, Cond.holds, Cond.value, hk] at h
  generalize t.eval args s none [] s = v at h
  match v, h with
  | some (.int x), h =>
    have : x = k := by simpa using h
    rw [this]
  | none, h => simp at h
  | some .null, h => simp at h
  | some (.ref _), h => simp at h
  | some (.long _), h => simp at h
  | some (.float _), h => simp at h
  | some (.double _), h => simp at h
abbrev lw_st : Term := .static "VersionRing" "NOTHING_KNOWN" "[I"
set_option maxRecDepth 100000 in
theorem lw_row {args : Array Value} {s : State} {A : Nat → Prop} (hts : ∀ w ∈ lw_tbl, w.before args s = true) (hg : (Jvm.Cond.and given_1 narrow_1).before args s = true) (hA : ∀ a : Nat, a < s.heap.size → ¬ A a) : ∃ t : Nat, va_Z "VersionRing" "NOTHING_KNOWN" "[I" (.ref t) A s s.heap ∧ va_T .int t 5 (fun _ => .int 0) A s s.heap := by
  have hs := flat_of_before _ hg
  have harr : (Cond.arrayOf lw_st .int).before args s = true := hs _ (by decide +kernel)
  have hlen := lw_eqi (hs (Cond.eq (.length lw_st) (.int 5)) (by decide +kernel))
  have hel : ∀ j : Nat, j < 5 → (Term.elem lw_st (.int (Int32.ofNat j))).eval args s none [] s = some (.int 0)
    | 0, _ => lw_eqi (hs (Cond.eq (.elem lw_st (.int 0)) (.int 0)) (by decide +kernel))
    | 1, _ => lw_eqi (hs (Cond.eq (.elem lw_st (.int 1)) (.int 0)) (by decide +kernel))
    | 2, _ => lw_eqi (hs (Cond.eq (.elem lw_st (.int 2)) (.int 0)) (by decide +kernel))
    | 3, _ => lw_eqi (hs (Cond.eq (.elem lw_st (.int 3)) (.int 0)) (by decide +kernel))
    | 4, _ => lw_eqi (hs (Cond.eq (.elem lw_st (.int 4)) (.int 0)) (by decide +kernel))
    | j + 5, h => absurd h (by omega)
  obtain ⟨t, ht, hT⟩ := va_Tof (f := fun _ => .int 0) (N := 5) (by decide) harr hlen hel hA
  exact ⟨t, va_Zref (hts (.laysStatic "VersionRing" "NOTHING_KNOWN" "[I") (by decide +kernel)) (hts (.initialized "VersionRing") (by decide +kernel)) ht hA, hT⟩
