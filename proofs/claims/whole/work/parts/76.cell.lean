/-! The law's call of cell -/
theorem jn_st_cell : Cond.static f_L_cell.1 ∈ jw_ws := jw_in (by decide +kernel) (by decide +kernel)
set_option maxRecDepth 100000 in
theorem jw_cd_f_L_cell : Cond.code f_L_cell.1 f_L_cell.2.1 f_L_cell.2.2.1 f_L_cell.2.2.2.1 ∈ jw_ws := jw_in (List.mem_append_right _ (List.mem_of_getElem? (i := 413) rfl)) rfl
theorem jn_cell {l : Launch} {X : jw_X0} {D : va_G} {A : Nat → Prop} {f : jw_F} {Z : Nat × Nat} {nC nS pc b n k idx : Nat} {xs : Nat → Int32} {L : List (Option Value)} {S : List Value} {ws : va_W} {tys : jn_T} (hd : decode f.2.1 pc = .ok (.invokestatic idx, 3)) (hX : jw_scr X A b n xs) (hn : n < 2147483648) (hk : k < 2147483648) (ok : jw_ok f.1.cls idx f_L_cell 2) (hdep : 0 < f.2.2.2.2.1 ∧ 21 ≤ f.2.2.2.2.2) (h8 : (S.map fun v => v.category).sum ≤ 8) (h7 : nC ≤ Z.1 ∧ nS ≤ Z.2)
    (h : jn_X l X D A f Z nC nS (pc + 3) L (.int (vs_cell n xs k) :: S) ws tys) : jn_X l X D A f Z nC nS pc L (.int (nI k) :: .ref b :: S) ws tys := by
  obtain ⟨p, e, R, s, m, args, below, meth, c, cells, slots, Q⟩ := X
  intro C H locs ls hP hK hD hS hl
  have hR := C.2.2.2.2.2.2.2.2.1
  have hts := C.2.2.2.2.2.1
  have hX1 : va_X b n xs s s.heap := hX.1
  have hb1 : b < s.heap.size := hX.2.1
  have hX2 : va_X b n xs s H := hX1.kept (hS.2.1 b hb1 hX.2.2)
  have hrun := va_runS (cells := nC) (slots := nS) (e := e) (below := below) (meth := meth) (locs := locs) (g := F0 m pc ls (.int (nI k) :: .ref b :: S)) (rest := S) (Ts := jw_ws) (own := f.1.cls) ⟨C.1, C.2.1, C.2.2.2.1, C.2.2.2.2.1, hts⟩ (c_L_cell (l := l) (b := b) (xs := xs) hn hk)
    ⟨callB_of 2 hts (jw_good ok.2.2.1) rfl rfl rfl (hts _ ok.2.1) (hts _ ok.1) ok.2.2.2 ⟨Nat.le_trans hdep.1 hR.1, Nat.le_trans hdep.2 hR.2.1⟩, hts _ jn_st_cell⟩
    ⟨fun a U g mk q => ⟨q.1, va_X.moved (u := U) (U := U.calling g mk a) (Vm.Alike.refl U.vm) q.2.1, q.2.2⟩, fun U hU hW => ⟨rfl, by rw [hU]; exact va_X.moved hW.alike hX2, by rw [hU]; exact Nat.lt_of_lt_of_le hb1 hS.1⟩⟩ rfl rfl hl.1 rfl (lv_room h8) hd ⟨Nat.le_trans h7.1 hR.2.2.1, Nat.le_trans h7.2 hR.2.2.2⟩
  refine va_calli (a := [Value.ref b, .int (nI k)].toArray) (post := fun r (_ : Unit) => r = vs_cell n xs k) (B := fun _ _ => True) hrun hS (fun _ _ z => z.elim) (fun _ z => z.elim) (fun r u t H1 locs1 ht hvm hp hB hz hk1 hS1 => ?_)
  rw [hp]
  exact h C H1 locs1 ls (hP.kept (fun k q hq => hk1 q.1 ((hP k q hq).lt) (fun z => z))) hK hD hS1 hl
