/-! Small rows for the hand-made part: loops upwards, Bool answers, ranges. -/
def bI (b : Bool) : Int32 := if b then 1 else 0
theorem bI_t : bI true = 1 := rfl
theorem bI_f : bI false = 0 := rfl
theorem bI_01 (b : Bool) : bI b = 0 ∨ bI b = 1 := by cases b <;> simp [bI]
theorem bI_0 {b : Bool} : bI b = 0 ↔ b = false := by cases b <;> simp [bI]
theorem bI_n0 {b : Bool} : ¬ bI b = 0 ↔ b = true := by cases b <;> simp [bI]
theorem bI_inj {a b : Bool} : bI a = bI b ↔ a = b := by cases a <;> cases b <;> simp [bI]
/-- a loop upwards, from its end -/
theorem vs_up {P : Nat → Prop} {n : Nat} (hn : P n) (hs : ∀ v, v < n → P (v + 1) → P v) : ∀ v, v ≤ n → P v := by
  have key : ∀ d v, v + d = n → P v := by
    intro d
    induction d with
    | zero => intro v h; rw [Nat.add_zero] at h; rw [h]; exact hn
    | succ d ih => intro v h; exact hs v (by omega) (ih (v + 1) (by omega))
  exact fun v hv => key (n - v) v (by omega)
theorem vs_any_f {n : Nat} {p : Nat → Bool} (h : ∀ u, u < n → p u = false) : (List.range n).any p = false := by
  rw [List.any_eq_false]
  intro x hx
  rw [h x (List.mem_range.mp hx)]
  simp
theorem vs_any_t {n u : Nat} {p : Nat → Bool} (hu : u < n) (h : p u = true) : (List.range n).any p = true := List.any_eq_true.mpr ⟨u, List.mem_range.mpr hu, h⟩
theorem vs_any_c {n : Nat} {p q : Nat → Bool} (h : ∀ u, u < n → p u = q u) : (List.range n).any p = (List.range n).any q := by
  rw [Bool.eq_iff_iff, List.any_eq_true, List.any_eq_true]
  constructor
  · rintro ⟨x, hx, e⟩
    exact ⟨x, hx, by rw [← h x (List.mem_range.mp hx)]; exact e⟩
  · rintro ⟨x, hx, e⟩
    exact ⟨x, hx, by rw [h x (List.mem_range.mp hx)]; exact e⟩
theorem vs_all_t {n : Nat} {p : Nat → Bool} (h : ∀ u, u < n → p u = true) : (List.range n).all p = true := List.all_eq_true.mpr (fun x hx => h x (List.mem_range.mp hx))
theorem vs_all_f {n u : Nat} {p : Nat → Bool} (hu : u < n) (h : p u = false) : (List.range n).all p = false := by
  rw [List.all_eq_false]
  exact ⟨u, List.mem_range.mpr hu, by rw [h]; simp⟩
theorem vs_all_c {n : Nat} {p q : Nat → Bool} (h : ∀ u, u < n → p u = q u) : (List.range n).all p = (List.range n).all q := by
  rw [Bool.eq_iff_iff, List.all_eq_true, List.all_eq_true]
  constructor
  · intro a x hx
    rw [← h x (List.mem_range.mp hx)]; exact a x hx
  · intro a x hx
    rw [h x (List.mem_range.mp hx)]; exact a x hx
/-- how many below n -/
def vs_cnt (p : Nat → Bool) : Nat → Nat
  | 0 => 0
  | n + 1 => vs_cnt p n + (if p n then 1 else 0)
theorem vs_cnt_le (p : Nat → Bool) : ∀ n, vs_cnt p n ≤ n
  | 0 => Nat.le_refl 0
  | n + 1 => by
    have := vs_cnt_le p n
    unfold vs_cnt
    split <;> omega
theorem vs_cnt_c {p q : Nat → Bool} : ∀ {n : Nat}, (∀ u, u < n → p u = q u) → vs_cnt p n = vs_cnt q n
  | 0, _ => rfl
  | n + 1, h => by
    unfold vs_cnt
    rw [vs_cnt_c (fun u hu => h u (Nat.lt_succ_of_lt hu)), h n (Nat.lt_succ_self n)]
theorem nI_ne {a b : Nat} (ha : a < 2147483648) (hb : b < 2147483648) : nI a = nI b ↔ a = b := nI_eq (by omega) (by omega)
theorem nI_m1 {a : Nat} (ha : a < 2147483648) : ¬ nI a = -1 := by
  intro h
  have h1 : (nI a).toInt = ((-1 : Int32)).toInt := by rw [h]
  rw [nI_toInt (by omega)] at h1
  have h2 : ((-1 : Int32)).toInt = -1 := by decide
  omega
theorem jw_Une {M : jw_Mem} {k j q : Nat} {x : Int32} (h : q ≠ k) : jw_U M k j x q = M q := by simp [jw_U, h]
theorem jw_Uat {M : jw_Mem} {k j i : Nat} {x : Int32} : jw_U M k j x k i = if i = j then x else M k i := by simp [jw_U, upd]
theorem vs_all_s (p : Nat → Bool) (i : Nat) : (List.range (i + 1)).all p = ((List.range i).all p && p i) := by simp [List.range_succ]
