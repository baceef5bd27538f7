/-! The law from its entry to its end -/
theorem lw_known {args : Array Value} {s : State} (hts : ∀ w ∈ lw_tbl, w.before args s = true) : ∃ D : va_G, va_K D vwCl [] s := by
  obtain ⟨c0, i0, k0⟩ := u_known (C := R_V) (T := T_V) (N := 16) hts jw_uw_V (hts (.instantiable R_V 16) (by decide +kernel))
  obtain ⟨c1, i1, k1⟩ := u_known (C := R_R) (T := T_R) (N := 5) hts jw_uw_R (hts (.instantiable R_R 5) (by decide +kernel))
  obtain ⟨c2, i2, k2⟩ := u_known (C := R_G) (T := T_G) (N := 5) hts jw_uw_G (hts (.instantiable R_G 5) (by decide +kernel))
  obtain ⟨c3, i3, k3⟩ := u_known (C := R_N) (T := T_N) (N := 4) hts jw_uw_N (hts (.instantiable R_N 4) (by decide +kernel))
  obtain ⟨c4, i4, k4⟩ := u_known (C := R_C) (T := T_C) (N := 2) hts jw_uw_C (hts (.instantiable R_C 2) (by decide +kernel))
  obtain ⟨c5, i5, k5⟩ := u_known (C := R_M) (T := T_M) (N := 24) hts jw_uw_M (hts (.instantiable R_M 24) (by decide +kernel))
  refine ⟨(fun c => [c0, c1, c2, c3, c4, c5].getD c 0, fun c => [i0, i1, i2, i3, i4, i5].getD c (fun _ => 0)), fun c q hq => ?_, fun k q hk => by simp at hk⟩
  match c, hq with
  | 0, hq => cases (Option.some.inj (jw_c_V.symm.trans hq)); exact k0
  | 1, hq => cases (Option.some.inj (jw_c_R.symm.trans hq)); exact k1
  | 2, hq => cases (Option.some.inj (jw_c_G.symm.trans hq)); exact k2
  | 3, hq => cases (Option.some.inj (jw_c_N.symm.trans hq)); exact k3
  | 4, hq => cases (Option.some.inj (jw_c_C.symm.trans hq)); exact k4
  | 5, hq => cases (Option.some.inj (jw_c_M.symm.trans hq)); exact k5
  | c + 6, hq =>
    have : vwCl[c + 6]? = none := List.getElem?_eq_none (Nat.le_add_left 6 c)
    rw [this] at hq
    cases hq
set_option maxRecDepth 100000 in
theorem whole_start {p : Program} {e : Env} {s : State} {m : MethodId} {below : List Frame} {meth : Method} {c : Code} (l : Launch) {b L : Nat} {xs : Nat → Int32} (hL : L ≤ 2563) (C0 : lw_At p s m meth c b L xs) : W p l e room_1 s m #[Value.ref b] below meth c s.heap [] 0 0 (lw_Z below #[Value.ref b] s) (entryFrame m ([Value.ref b] : List Value).toArray 4) := by
  obtain ⟨hx, hb, hr, hml, hown, hts, hX, hbl, hlocks, hgv⟩ := C0
  obtain ⟨D, hK⟩ := lw_known hts
  obtain ⟨t, hZ, hT⟩ := lw_row (A := fun q => s.heap.size ≤ q) hts hgv (fun a ha hc => absurd ha (Nat.not_lt.mpr hc))
  have hl := lv_entry ([.ref b]) (n := 4) (Nat.le_of_ble_eq_true rfl)
  rw [lg_entry_eq]
  generalize (lg_sl ([.ref b]) ++ List.replicate (4 - (lg_sl ([.ref b])).length) Slot.unset).toArray = ls at hl ⊢
  have hl' : jw_l ls 4 [some (.ref b), none, none, none] := by
    refine ⟨hl.1, hl.2.1, fun i v hi => ?_⟩
    match i, hi with
    | 0, hi =>
      have : Value.ref b = v := Option.some.inj (Option.some.inj hi)
      subst this
      exact ⟨hl.2.2 (0, .ref b) List.mem_cons_self, rfl⟩
    | 1, hi => cases (Option.some.inj hi)
    | 2, hi => cases (Option.some.inj hi)
    | 3, hi => cases (Option.some.inj hi)
    | i + 4, hi => simp at hi
  have hsc : jw_scr (p, e, room_1, s, m, #[Value.ref b], below, meth, c, 600000, 7302250, lw_Z below #[Value.ref b] s) (fun q => s.heap.size ≤ q) b L xs := ⟨hX, hbl, fun hc => absurd hbl (Nat.not_lt.mpr hc)⟩
  have C : jn_C (fun q => s.heap.size ≤ q) f_L_law (600000, 7302250) p room_1 s m #[Value.ref b] meth c := ⟨hx, hb, hr, hml, hown, fun w hw => hts w (List.mem_filter.mp hw).1, hlocks, fun q hq => hq, ⟨Nat.le_of_ble_eq_true rfl, Nat.le_of_ble_eq_true rfl, Nat.le_refl _, Nat.le_refl _⟩, fun h => absurd h (by decide), va_AO.of (hts (.arrayOver (.object R_N)) (by decide +kernel)), va_AO.of (hts (.arrayOver (.object R_C)) (by decide +kernel))⟩
  have hR : ∀ (G : jw_G) (M : jw_Mem), jw_R l (p, e, room_1, s, m, #[Value.ref b], below, meth, c, 600000, 7302250, lw_Z below #[Value.ref b] s) (jw_g G) (fun q => s.heap.size ≤ q) f_L_law 1 M := by
    intro G M C' H locs pc ls' hP' hS'
    refine ⟨fun _ h1 _ => absurd h1 (by decide), fun ty _ hd => ?_⟩
    exact va_forget (fun q hq => hS'.2.2 q hq) (lw_ret hx hb hr hlocks hd)
  have hZ' : ∀ G : jw_G, G.2.2.2 = t → jw_Z (jw_g G) (fun q => s.heap.size ≤ q) s s.heap := by
    intro G hG t' ht'
    have h9 : some G.2.2.2 = some t' := ht'
    rw [hG] at h9
    have h8 : t = t' := Option.some.inj h9
    subst h8
    exact ⟨hZ, hT⟩
  have hw := law_world (l := l) (X := (p, e, room_1, s, m, #[Value.ref b], below, meth, c, 600000, 7302250, lw_Z below #[Value.ref b] s)) (D := D) (b := b) (n := L) (t := t) (xs := xs) rfl hZ' (fun G σ M hI => law_loop hsc hL (hR G) L 3 (by omega) (by omega) σ M hI)
  exact law_start (l := l) (X := (p, e, room_1, s, m, #[Value.ref b], below, meth, c, 600000, 7302250, lw_Z below #[Value.ref b] s)) (D := D) hsc (by omega) hw C s.heap [] ls (fun k q hk => by simp at hk) hK ⟨fun i j x y hi => by simp at hi, fun k q hk => by simp at hk⟩ va_S.rf hl'
