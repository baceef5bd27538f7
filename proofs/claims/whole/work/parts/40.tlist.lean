/-! Lists: targets that are homes come first, others behind them; homes that can't be reached -/
theorem vs_nd_inj {l : List Nat} (h : l.Nodup) {i j : Nat} (hi : i < l.length) (hj : j < l.length) (e : l.getD i 0 = l.getD j 0) : i = j := by
  rw [List.getD_eq_getElem?_getD, List.getD_eq_getElem?_getD, List.getElem?_eq_getElem hi, List.getElem?_eq_getElem hj] at e
  have e2 : l[i] = l[j] := e
  have hp := List.pairwise_iff_getElem.mp h
  rcases Nat.lt_trichotomy i j with c | c | c
  · exact absurd e2 (hp i j hi hj c)
  · exact c
  · exact absurd e2.symm (hp j i hj hi c)
theorem vs_getD_mem {l : List Nat} {i : Nat} (h : i < l.length) : l.getD i 0 ∈ l := by
  rw [List.getD_eq_getElem?_getD, List.getElem?_eq_getElem h]
  exact List.getElem_mem h
theorem vs_mem_getD {l : List Nat} {x : Nat} (h : x ∈ l) : ∃ i, i < l.length ∧ l.getD i 0 = x := by
  obtain ⟨i, hi, e⟩ := List.getElem_of_mem h
  exact ⟨i, hi, by rw [List.getD_eq_getElem?_getD, List.getElem?_eq_getElem hi]; exact e⟩
theorem vs_getD_l {a b : List Nat} {i : Nat} (h : i < a.length) : (a ++ b).getD i 0 = a.getD i 0 := by
  rw [List.getD_eq_getElem?_getD, List.getD_eq_getElem?_getD, List.getElem?_append_left h]
theorem vs_getD_r {a b : List Nat} {i : Nat} (h : a.length ≤ i) : (a ++ b).getD i 0 = b.getD (i - a.length) 0 := by
  rw [List.getD_eq_getElem?_getD, List.getD_eq_getElem?_getD, List.getElem?_append_right h]
theorem vs_getD_take {a : List Nat} {i n : Nat} (h : i < n) : (a.take n).getD i 0 = a.getD i 0 := by
  rw [List.getD_eq_getElem?_getD, List.getD_eq_getElem?_getD, List.getElem?_take_of_lt h]
theorem vs_getD_drop {a : List Nat} {i n : Nat} : (a.drop n).getD i 0 = a.getD (n + i) 0 := by
  rw [List.getD_eq_getElem?_getD, List.getD_eq_getElem?_getD, List.getElem?_drop]
theorem vs_tg_split (mo : Nat) (r : List Nat) (p : Nat → Bool) : vs_tg mo r p = (r.take mo).filter p ++ ((r.drop mo).filter p).take (mo - vs_th mo r p) := by
  unfold vs_tg vs_th
  have h1 : ((r.take mo).filter p).length ≤ mo := by
    have a := List.length_filter_le p (r.take mo)
    have b : (r.take mo).length ≤ mo := by rw [List.length_take]; omega
    omega
  have e : r.filter p = (r.take mo).filter p ++ (r.drop mo).filter p := by rw [← List.filter_append, List.take_append_drop]
  rw [e, List.take_append, List.take_of_length_le h1]
/-- a target is a home just if it is among the first -/
theorem vs_tg_home {mo : Nat} {r : List Nat} {p : Nat → Bool} (hn : r.Nodup) {k t : Nat} (hk : k < (vs_tg mo r p).length) (ht : t < r.length) (e : r.getD t 0 = (vs_tg mo r p).getD k 0) : t < mo ↔ k < vs_th mo r p := by
  have hsp := vs_tg_split mo r p
  constructor
  · intro h
    refine Nat.lt_of_not_le (fun hc => ?_)
    have hl : ((r.take mo).filter p).length = vs_th mo r p := rfl
    rw [hsp, vs_getD_r (by rw [hl]; exact hc), hl] at e
    rw [hsp, List.length_append, hl] at hk
    have hm := vs_getD_mem (l := ((r.drop mo).filter p).take (mo - vs_th mo r p)) (i := k - vs_th mo r p) (by omega)
    rw [← e] at hm
    have hm2 := (List.mem_filter.mp (List.mem_of_mem_take hm)).1
    obtain ⟨i, hi, ei⟩ := vs_mem_getD hm2
    rw [vs_getD_drop] at ei
    rw [List.length_drop] at hi
    have := vs_nd_inj hn (by omega) ht ei
    omega
  · intro h
    have hl : ((r.take mo).filter p).length = vs_th mo r p := rfl
    rw [hsp, vs_getD_l (by rw [hl]; exact h)] at e
    have hm := vs_getD_mem (l := (r.take mo).filter p) (i := k) (by rw [hl]; exact h)
    rw [← e] at hm
    obtain ⟨i, hi, ei⟩ := vs_mem_getD (List.mem_filter.mp hm).1
    rw [List.length_take] at hi
    rw [vs_getD_take (by omega)] at ei
    have := vs_nd_inj hn (by omega) ht ei
    omega
theorem vs_tg_in {mo : Nat} {r : List Nat} {p : Nat → Bool} {k : Nat} (hk : k < (vs_tg mo r p).length) : (vs_tg mo r p).getD k 0 ∈ r := by
  have := vs_getD_mem hk
  unfold vs_tg at this
  exact (List.mem_filter.mp (List.mem_of_mem_take this)).1
/-- the homes that can't be reached -/
def vs_ul (mo : Nat) (r : List Nat) (p : Nat → Bool) : List Nat := (r.take mo).filter (fun x => !p x)
theorem vs_fsum (p : Nat → Bool) : ∀ l : List Nat, (l.filter p).length + (l.filter (fun x => !p x)).length = l.length
  | [] => rfl
  | a :: t => by
    have := vs_fsum p t
    cases h : p a <;> simp [h] <;> omega
theorem vs_str_le (mo : Nat) (r : List Nat) (p : Nat → Bool) : (vs_tg mo r p).length ≤ vs_th mo r p + (vs_ul mo r p).length := by
  rw [vs_tg_split, List.length_append]
  have hl : ((r.take mo).filter p).length = vs_th mo r p := rfl
  have h1 := vs_fsum p (r.take mo)
  have h2 : ((r.take mo).filter (fun x => !p x)).length = (vs_ul mo r p).length := rfl
  rw [hl, List.length_take]
  by_cases c : mo ≤ r.length
  · have h3 : (r.take mo).length = mo := by rw [List.length_take]; omega
    omega
  · have h3 : r.drop mo = [] := List.drop_of_length_le (by omega)
    rw [h3]
    simp
theorem vs_th_le (mo : Nat) (r : List Nat) (p : Nat → Bool) : vs_th mo r p ≤ (vs_tg mo r p).length := by
  rw [vs_tg_split, List.length_append]
  have hl : ((r.take mo).filter p).length = vs_th mo r p := rfl
  omega
theorem vs_tg_mo (mo : Nat) (r : List Nat) (p : Nat → Bool) : (vs_tg mo r p).length ≤ mo := by unfold vs_tg; rw [List.length_take]; omega
/-- the next home that can't be reached -/
theorem vs_ul_at {mo h : Nat} {r : List Nat} {p : Nat → Bool} (hr : h < r.length) (hm : h < mo) (hp : p (r.getD h 0) = false) : (vs_ul mo r p).getD ((r.take h).filter (fun x => !p x)).length 0 = r.getD h 0 := by
  unfold vs_ul
  have e : r.take mo = r.take (h + 1) ++ (r.drop (h + 1)).take (mo - (h + 1)) := by
    rw [← List.take_add]
    congr 1
    omega
  rw [e, vs_take_s hr, List.filter_append, List.filter_append]
  generalize r.getD h 0 = x at hp ⊢
  have e2 : List.filter (fun x => !p x) [x] = [x] := by simp [hp]
  rw [e2, vs_getD_l (by simp), vs_getD_r (Nat.le_refl _), Nat.sub_self]
  rfl
theorem vs_un_s {h : Nat} {r : List Nat} {p : Nat → Bool} (hr : h < r.length) : ((r.take (h + 1)).filter (fun x => !p x)).length = ((r.take h).filter (fun x => !p x)).length + (if p (r.getD h 0) then 0 else 1) := by
  rw [vs_take_s hr, List.filter_append, List.length_append]
  generalize r.getD h 0 = x
  cases hp : p x <;> simp [hp]
theorem vs_un_all (mo : Nat) (r : List Nat) (p : Nat → Bool) : ((r.take (min mo r.length)).filter (fun x => !p x)).length = (vs_ul mo r p).length := by
  unfold vs_ul
  by_cases c : mo ≤ r.length
  · rw [Nat.min_eq_left c]
  · rw [Nat.min_eq_right (by omega), List.take_length, List.take_of_length_le (by omega)]
/-- one after the other: f on the rows of the nodes of a list; hints for them -/
def vs_sn (hs : Nat → Nat → Bool) (f : (Nat → Bool) → Nat → Bool) (T : List Nat) : Nat → Nat → Nat → Bool
  | 0 => hs
  | k + 1 => va_up (vs_sn hs f T k) (T.getD k 0) (f (vs_sn hs f T k (T.getD k 0)))
def vs_hn (hi : Nat → Nat → Option Nat) (v : Nat) (T : List Nat) (hm : Nat) (U : List Nat) : Nat → Nat → Nat → Option Nat
  | 0 => hi
  | k + 1 => fun a u => if a = T.getD (hm + k) 0 ∧ u = v then some (U.getD k 0) else vs_hn hi v T hm U k a u
