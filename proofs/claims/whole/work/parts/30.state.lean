/-! The abstract state: most, readers, writers, owners, up, cuts, made, keys, values, authors, clocks, has, hints, contexts (key, clock), found, repairs -/
abbrev vs_S : Type := Nat × Nat × Nat × (Nat → Option Nat) × (Nat → Bool) × (Nat → Nat → Bool) × Nat × (Nat → Int32) × (Nat → Int32) × (Nat → Int32) × (Nat → Int32) × (Nat → Nat → Bool) × (Nat → Nat → Option Nat) × (Nat → Option Nat) × (Nat → Nat → Int32) × (Nat → Bool) × Nat
def s_mo (σ : vs_S) : Nat := σ.1
def s_rd (σ : vs_S) : Nat := σ.2.1
def s_wr (σ : vs_S) : Nat := σ.2.2.1
def s_ow (σ : vs_S) : Nat → Option Nat := σ.2.2.2.1
def s_up (σ : vs_S) : Nat → Bool := σ.2.2.2.2.1
def s_cu (σ : vs_S) : Nat → Nat → Bool := σ.2.2.2.2.2.1
def s_md (σ : vs_S) : Nat := σ.2.2.2.2.2.2.1
def s_ky (σ : vs_S) : Nat → Int32 := σ.2.2.2.2.2.2.2.1
def s_vl (σ : vs_S) : Nat → Int32 := σ.2.2.2.2.2.2.2.2.1
def s_au (σ : vs_S) : Nat → Int32 := σ.2.2.2.2.2.2.2.2.2.1
def s_cl (σ : vs_S) : Nat → Int32 := σ.2.2.2.2.2.2.2.2.2.2.1
def s_hs (σ : vs_S) : Nat → Nat → Bool := σ.2.2.2.2.2.2.2.2.2.2.2.1
def s_hi (σ : vs_S) : Nat → Nat → Option Nat := σ.2.2.2.2.2.2.2.2.2.2.2.2.1
def s_xk (σ : vs_S) : Nat → Option Nat := σ.2.2.2.2.2.2.2.2.2.2.2.2.2.1
def s_xc (σ : vs_S) : Nat → Nat → Int32 := σ.2.2.2.2.2.2.2.2.2.2.2.2.2.2.1
def s_fd (σ : vs_S) : Nat → Bool := σ.2.2.2.2.2.2.2.2.2.2.2.2.2.2.2.1
def s_rp (σ : vs_S) : Nat := σ.2.2.2.2.2.2.2.2.2.2.2.2.2.2.2.2
def w_mo (σ : vs_S) (x : Nat) : vs_S := (x, σ.2.1, σ.2.2.1, σ.2.2.2.1, σ.2.2.2.2.1, σ.2.2.2.2.2.1, σ.2.2.2.2.2.2.1, σ.2.2.2.2.2.2.2.1, σ.2.2.2.2.2.2.2.2.1, σ.2.2.2.2.2.2.2.2.2.1, σ.2.2.2.2.2.2.2.2.2.2.1, σ.2.2.2.2.2.2.2.2.2.2.2.1, σ.2.2.2.2.2.2.2.2.2.2.2.2.1, σ.2.2.2.2.2.2.2.2.2.2.2.2.2.1, σ.2.2.2.2.2.2.2.2.2.2.2.2.2.2.1, σ.2.2.2.2.2.2.2.2.2.2.2.2.2.2.2.1, σ.2.2.2.2.2.2.2.2.2.2.2.2.2.2.2.2)
def w_rd (σ : vs_S) (x : Nat) : vs_S := (σ.1, x, σ.2.2.1, σ.2.2.2.1, σ.2.2.2.2.1, σ.2.2.2.2.2.1, σ.2.2.2.2.2.2.1, σ.2.2.2.2.2.2.2.1, σ.2.2.2.2.2.2.2.2.1, σ.2.2.2.2.2.2.2.2.2.1, σ.2.2.2.2.2.2.2.2.2.2.1, σ.2.2.2.2.2.2.2.2.2.2.2.1, σ.2.2.2.2.2.2.2.2.2.2.2.2.1, σ.2.2.2.2.2.2.2.2.2.2.2.2.2.1, σ.2.2.2.2.2.2.2.2.2.2.2.2.2.2.1, σ.2.2.2.2.2.2.2.2.2.2.2.2.2.2.2.1, σ.2.2.2.2.2.2.2.2.2.2.2.2.2.2.2.2)
def w_wr (σ : vs_S) (x : Nat) : vs_S := (σ.1, σ.2.1, x, σ.2.2.2.1, σ.2.2.2.2.1, σ.2.2.2.2.2.1, σ.2.2.2.2.2.2.1, σ.2.2.2.2.2.2.2.1, σ.2.2.2.2.2.2.2.2.1, σ.2.2.2.2.2.2.2.2.2.1, σ.2.2.2.2.2.2.2.2.2.2.1, σ.2.2.2.2.2.2.2.2.2.2.2.1, σ.2.2.2.2.2.2.2.2.2.2.2.2.1, σ.2.2.2.2.2.2.2.2.2.2.2.2.2.1, σ.2.2.2.2.2.2.2.2.2.2.2.2.2.2.1, σ.2.2.2.2.2.2.2.2.2.2.2.2.2.2.2.1, σ.2.2.2.2.2.2.2.2.2.2.2.2.2.2.2.2)
def w_ow (σ : vs_S) (x : Nat → Option Nat) : vs_S := (σ.1, σ.2.1, σ.2.2.1, x, σ.2.2.2.2.1, σ.2.2.2.2.2.1, σ.2.2.2.2.2.2.1, σ.2.2.2.2.2.2.2.1, σ.2.2.2.2.2.2.2.2.1, σ.2.2.2.2.2.2.2.2.2.1, σ.2.2.2.2.2.2.2.2.2.2.1, σ.2.2.2.2.2.2.2.2.2.2.2.1, σ.2.2.2.2.2.2.2.2.2.2.2.2.1, σ.2.2.2.2.2.2.2.2.2.2.2.2.2.1, σ.2.2.2.2.2.2.2.2.2.2.2.2.2.2.1, σ.2.2.2.2.2.2.2.2.2.2.2.2.2.2.2.1, σ.2.2.2.2.2.2.2.2.2.2.2.2.2.2.2.2)
def w_up (σ : vs_S) (x : Nat → Bool) : vs_S := (σ.1, σ.2.1, σ.2.2.1, σ.2.2.2.1, x, σ.2.2.2.2.2.1, σ.2.2.2.2.2.2.1, σ.2.2.2.2.2.2.2.1, σ.2.2.2.2.2.2.2.2.1, σ.2.2.2.2.2.2.2.2.2.1, σ.2.2.2.2.2.2.2.2.2.2.1, σ.2.2.2.2.2.2.2.2.2.2.2.1, σ.2.2.2.2.2.2.2.2.2.2.2.2.1, σ.2.2.2.2.2.2.2.2.2.2.2.2.2.1, σ.2.2.2.2.2.2.2.2.2.2.2.2.2.2.1, σ.2.2.2.2.2.2.2.2.2.2.2.2.2.2.2.1, σ.2.2.2.2.2.2.2.2.2.2.2.2.2.2.2.2)
def w_cu (σ : vs_S) (x : Nat → Nat → Bool) : vs_S := (σ.1, σ.2.1, σ.2.2.1, σ.2.2.2.1, σ.2.2.2.2.1, x, σ.2.2.2.2.2.2.1, σ.2.2.2.2.2.2.2.1, σ.2.2.2.2.2.2.2.2.1, σ.2.2.2.2.2.2.2.2.2.1, σ.2.2.2.2.2.2.2.2.2.2.1, σ.2.2.2.2.2.2.2.2.2.2.2.1, σ.2.2.2.2.2.2.2.2.2.2.2.2.1, σ.2.2.2.2.2.2.2.2.2.2.2.2.2.1, σ.2.2.2.2.2.2.2.2.2.2.2.2.2.2.1, σ.2.2.2.2.2.2.2.2.2.2.2.2.2.2.2.1, σ.2.2.2.2.2.2.2.2.2.2.2.2.2.2.2.2)
def w_md (σ : vs_S) (x : Nat) : vs_S := (σ.1, σ.2.1, σ.2.2.1, σ.2.2.2.1, σ.2.2.2.2.1, σ.2.2.2.2.2.1, x, σ.2.2.2.2.2.2.2.1, σ.2.2.2.2.2.2.2.2.1, σ.2.2.2.2.2.2.2.2.2.1, σ.2.2.2.2.2.2.2.2.2.2.1, σ.2.2.2.2.2.2.2.2.2.2.2.1, σ.2.2.2.2.2.2.2.2.2.2.2.2.1, σ.2.2.2.2.2.2.2.2.2.2.2.2.2.1, σ.2.2.2.2.2.2.2.2.2.2.2.2.2.2.1, σ.2.2.2.2.2.2.2.2.2.2.2.2.2.2.2.1, σ.2.2.2.2.2.2.2.2.2.2.2.2.2.2.2.2)
def w_ky (σ : vs_S) (x : Nat → Int32) : vs_S := (σ.1, σ.2.1, σ.2.2.1, σ.2.2.2.1, σ.2.2.2.2.1, σ.2.2.2.2.2.1, σ.2.2.2.2.2.2.1, x, σ.2.2.2.2.2.2.2.2.1, σ.2.2.2.2.2.2.2.2.2.1, σ.2.2.2.2.2.2.2.2.2.2.1, σ.2.2.2.2.2.2.2.2.2.2.2.1, σ.2.2.2.2.2.2.2.2.2.2.2.2.1, σ.2.2.2.2.2.2.2.2.2.2.2.2.2.1, σ.2.2.2.2.2.2.2.2.2.2.2.2.2.2.1, σ.2.2.2.2.2.2.2.2.2.2.2.2.2.2.2.1, σ.2.2.2.2.2.2.2.2.2.2.2.2.2.2.2.2)
def w_vl (σ : vs_S) (x : Nat → Int32) : vs_S := (σ.1, σ.2.1, σ.2.2.1, σ.2.2.2.1, σ.2.2.2.2.1, σ.2.2.2.2.2.1, σ.2.2.2.2.2.2.1, σ.2.2.2.2.2.2.2.1, x, σ.2.2.2.2.2.2.2.2.2.1, σ.2.2.2.2.2.2.2.2.2.2.1, σ.2.2.2.2.2.2.2.2.2.2.2.1, σ.2.2.2.2.2.2.2.2.2.2.2.2.1, σ.2.2.2.2.2.2.2.2.2.2.2.2.2.1, σ.2.2.2.2.2.2.2.2.2.2.2.2.2.2.1, σ.2.2.2.2.2.2.2.2.2.2.2.2.2.2.2.1, σ.2.2.2.2.2.2.2.2.2.2.2.2.2.2.2.2)
def w_au (σ : vs_S) (x : Nat → Int32) : vs_S := (σ.1, σ.2.1, σ.2.2.1, σ.2.2.2.1, σ.2.2.2.2.1, σ.2.2.2.2.2.1, σ.2.2.2.2.2.2.1, σ.2.2.2.2.2.2.2.1, σ.2.2.2.2.2.2.2.2.1, x, σ.2.2.2.2.2.2.2.2.2.2.1, σ.2.2.2.2.2.2.2.2.2.2.2.1, σ.2.2.2.2.2.2.2.2.2.2.2.2.1, σ.2.2.2.2.2.2.2.2.2.2.2.2.2.1, σ.2.2.2.2.2.2.2.2.2.2.2.2.2.2.1, σ.2.2.2.2.2.2.2.2.2.2.2.2.2.2.2.1, σ.2.2.2.2.2.2.2.2.2.2.2.2.2.2.2.2)
def w_cl (σ : vs_S) (x : Nat → Int32) : vs_S := (σ.1, σ.2.1, σ.2.2.1, σ.2.2.2.1, σ.2.2.2.2.1, σ.2.2.2.2.2.1, σ.2.2.2.2.2.2.1, σ.2.2.2.2.2.2.2.1, σ.2.2.2.2.2.2.2.2.1, σ.2.2.2.2.2.2.2.2.2.1, x, σ.2.2.2.2.2.2.2.2.2.2.2.1, σ.2.2.2.2.2.2.2.2.2.2.2.2.1, σ.2.2.2.2.2.2.2.2.2.2.2.2.2.1, σ.2.2.2.2.2.2.2.2.2.2.2.2.2.2.1, σ.2.2.2.2.2.2.2.2.2.2.2.2.2.2.2.1, σ.2.2.2.2.2.2.2.2.2.2.2.2.2.2.2.2)
def w_hs (σ : vs_S) (x : Nat → Nat → Bool) : vs_S := (σ.1, σ.2.1, σ.2.2.1, σ.2.2.2.1, σ.2.2.2.2.1, σ.2.2.2.2.2.1, σ.2.2.2.2.2.2.1, σ.2.2.2.2.2.2.2.1, σ.2.2.2.2.2.2.2.2.1, σ.2.2.2.2.2.2.2.2.2.1, σ.2.2.2.2.2.2.2.2.2.2.1, x, σ.2.2.2.2.2.2.2.2.2.2.2.2.1, σ.2.2.2.2.2.2.2.2.2.2.2.2.2.1, σ.2.2.2.2.2.2.2.2.2.2.2.2.2.2.1, σ.2.2.2.2.2.2.2.2.2.2.2.2.2.2.2.1, σ.2.2.2.2.2.2.2.2.2.2.2.2.2.2.2.2)
def w_hi (σ : vs_S) (x : Nat → Nat → Option Nat) : vs_S := (σ.1, σ.2.1, σ.2.2.1, σ.2.2.2.1, σ.2.2.2.2.1, σ.2.2.2.2.2.1, σ.2.2.2.2.2.2.1, σ.2.2.2.2.2.2.2.1, σ.2.2.2.2.2.2.2.2.1, σ.2.2.2.2.2.2.2.2.2.1, σ.2.2.2.2.2.2.2.2.2.2.1, σ.2.2.2.2.2.2.2.2.2.2.2.1, x, σ.2.2.2.2.2.2.2.2.2.2.2.2.2.1, σ.2.2.2.2.2.2.2.2.2.2.2.2.2.2.1, σ.2.2.2.2.2.2.2.2.2.2.2.2.2.2.2.1, σ.2.2.2.2.2.2.2.2.2.2.2.2.2.2.2.2)
def w_xk (σ : vs_S) (x : Nat → Option Nat) : vs_S := (σ.1, σ.2.1, σ.2.2.1, σ.2.2.2.1, σ.2.2.2.2.1, σ.2.2.2.2.2.1, σ.2.2.2.2.2.2.1, σ.2.2.2.2.2.2.2.1, σ.2.2.2.2.2.2.2.2.1, σ.2.2.2.2.2.2.2.2.2.1, σ.2.2.2.2.2.2.2.2.2.2.1, σ.2.2.2.2.2.2.2.2.2.2.2.1, σ.2.2.2.2.2.2.2.2.2.2.2.2.1, x, σ.2.2.2.2.2.2.2.2.2.2.2.2.2.2.1, σ.2.2.2.2.2.2.2.2.2.2.2.2.2.2.2.1, σ.2.2.2.2.2.2.2.2.2.2.2.2.2.2.2.2)
def w_xc (σ : vs_S) (x : Nat → Nat → Int32) : vs_S := (σ.1, σ.2.1, σ.2.2.1, σ.2.2.2.1, σ.2.2.2.2.1, σ.2.2.2.2.2.1, σ.2.2.2.2.2.2.1, σ.2.2.2.2.2.2.2.1, σ.2.2.2.2.2.2.2.2.1, σ.2.2.2.2.2.2.2.2.2.1, σ.2.2.2.2.2.2.2.2.2.2.1, σ.2.2.2.2.2.2.2.2.2.2.2.1, σ.2.2.2.2.2.2.2.2.2.2.2.2.1, σ.2.2.2.2.2.2.2.2.2.2.2.2.2.1, x, σ.2.2.2.2.2.2.2.2.2.2.2.2.2.2.2.1, σ.2.2.2.2.2.2.2.2.2.2.2.2.2.2.2.2)
def w_fd (σ : vs_S) (x : Nat → Bool) : vs_S := (σ.1, σ.2.1, σ.2.2.1, σ.2.2.2.1, σ.2.2.2.2.1, σ.2.2.2.2.2.1, σ.2.2.2.2.2.2.1, σ.2.2.2.2.2.2.2.1, σ.2.2.2.2.2.2.2.2.1, σ.2.2.2.2.2.2.2.2.2.1, σ.2.2.2.2.2.2.2.2.2.2.1, σ.2.2.2.2.2.2.2.2.2.2.2.1, σ.2.2.2.2.2.2.2.2.2.2.2.2.1, σ.2.2.2.2.2.2.2.2.2.2.2.2.2.1, σ.2.2.2.2.2.2.2.2.2.2.2.2.2.2.1, x, σ.2.2.2.2.2.2.2.2.2.2.2.2.2.2.2.2)
def w_rp (σ : vs_S) (x : Nat) : vs_S := (σ.1, σ.2.1, σ.2.2.1, σ.2.2.2.1, σ.2.2.2.2.1, σ.2.2.2.2.2.1, σ.2.2.2.2.2.2.1, σ.2.2.2.2.2.2.2.1, σ.2.2.2.2.2.2.2.2.1, σ.2.2.2.2.2.2.2.2.2.1, σ.2.2.2.2.2.2.2.2.2.2.1, σ.2.2.2.2.2.2.2.2.2.2.2.1, σ.2.2.2.2.2.2.2.2.2.2.2.2.1, σ.2.2.2.2.2.2.2.2.2.2.2.2.2.1, σ.2.2.2.2.2.2.2.2.2.2.2.2.2.2.1, σ.2.2.2.2.2.2.2.2.2.2.2.2.2.2.2.1, x)
theorem sw_mo_ow {σ : vs_S} {x : Nat → Option Nat} : s_mo (w_ow σ x) = s_mo σ := rfl
theorem sw_mo_up {σ : vs_S} {x : Nat → Bool} : s_mo (w_up σ x) = s_mo σ := rfl
theorem sw_mo_cu {σ : vs_S} {x : Nat → Nat → Bool} : s_mo (w_cu σ x) = s_mo σ := rfl
theorem sw_mo_md {σ : vs_S} {x : Nat} : s_mo (w_md σ x) = s_mo σ := rfl
theorem sw_mo_ky {σ : vs_S} {x : Nat → Int32} : s_mo (w_ky σ x) = s_mo σ := rfl
theorem sw_mo_vl {σ : vs_S} {x : Nat → Int32} : s_mo (w_vl σ x) = s_mo σ := rfl
theorem sw_mo_au {σ : vs_S} {x : Nat → Int32} : s_mo (w_au σ x) = s_mo σ := rfl
theorem sw_mo_cl {σ : vs_S} {x : Nat → Int32} : s_mo (w_cl σ x) = s_mo σ := rfl
theorem sw_mo_hs {σ : vs_S} {x : Nat → Nat → Bool} : s_mo (w_hs σ x) = s_mo σ := rfl
theorem sw_mo_hi {σ : vs_S} {x : Nat → Nat → Option Nat} : s_mo (w_hi σ x) = s_mo σ := rfl
theorem sw_mo_xk {σ : vs_S} {x : Nat → Option Nat} : s_mo (w_xk σ x) = s_mo σ := rfl
theorem sw_mo_xc {σ : vs_S} {x : Nat → Nat → Int32} : s_mo (w_xc σ x) = s_mo σ := rfl
theorem sw_mo_fd {σ : vs_S} {x : Nat → Bool} : s_mo (w_fd σ x) = s_mo σ := rfl
theorem sw_mo_rp {σ : vs_S} {x : Nat} : s_mo (w_rp σ x) = s_mo σ := rfl
theorem sw_rd_ow {σ : vs_S} {x : Nat → Option Nat} : s_rd (w_ow σ x) = s_rd σ := rfl
theorem sw_rd_up {σ : vs_S} {x : Nat → Bool} : s_rd (w_up σ x) = s_rd σ := rfl
theorem sw_rd_cu {σ : vs_S} {x : Nat → Nat → Bool} : s_rd (w_cu σ x) = s_rd σ := rfl
theorem sw_rd_md {σ : vs_S} {x : Nat} : s_rd (w_md σ x) = s_rd σ := rfl
theorem sw_rd_ky {σ : vs_S} {x : Nat → Int32} : s_rd (w_ky σ x) = s_rd σ := rfl
theorem sw_rd_vl {σ : vs_S} {x : Nat → Int32} : s_rd (w_vl σ x) = s_rd σ := rfl
theorem sw_rd_au {σ : vs_S} {x : Nat → Int32} : s_rd (w_au σ x) = s_rd σ := rfl
theorem sw_rd_cl {σ : vs_S} {x : Nat → Int32} : s_rd (w_cl σ x) = s_rd σ := rfl
theorem sw_rd_hs {σ : vs_S} {x : Nat → Nat → Bool} : s_rd (w_hs σ x) = s_rd σ := rfl
theorem sw_rd_hi {σ : vs_S} {x : Nat → Nat → Option Nat} : s_rd (w_hi σ x) = s_rd σ := rfl
theorem sw_rd_xk {σ : vs_S} {x : Nat → Option Nat} : s_rd (w_xk σ x) = s_rd σ := rfl
theorem sw_rd_xc {σ : vs_S} {x : Nat → Nat → Int32} : s_rd (w_xc σ x) = s_rd σ := rfl
theorem sw_rd_fd {σ : vs_S} {x : Nat → Bool} : s_rd (w_fd σ x) = s_rd σ := rfl
theorem sw_rd_rp {σ : vs_S} {x : Nat} : s_rd (w_rp σ x) = s_rd σ := rfl
theorem sw_wr_ow {σ : vs_S} {x : Nat → Option Nat} : s_wr (w_ow σ x) = s_wr σ := rfl
theorem sw_wr_up {σ : vs_S} {x : Nat → Bool} : s_wr (w_up σ x) = s_wr σ := rfl
theorem sw_wr_cu {σ : vs_S} {x : Nat → Nat → Bool} : s_wr (w_cu σ x) = s_wr σ := rfl
theorem sw_wr_md {σ : vs_S} {x : Nat} : s_wr (w_md σ x) = s_wr σ := rfl
theorem sw_wr_ky {σ : vs_S} {x : Nat → Int32} : s_wr (w_ky σ x) = s_wr σ := rfl
theorem sw_wr_vl {σ : vs_S} {x : Nat → Int32} : s_wr (w_vl σ x) = s_wr σ := rfl
theorem sw_wr_au {σ : vs_S} {x : Nat → Int32} : s_wr (w_au σ x) = s_wr σ := rfl
theorem sw_wr_cl {σ : vs_S} {x : Nat → Int32} : s_wr (w_cl σ x) = s_wr σ := rfl
theorem sw_wr_hs {σ : vs_S} {x : Nat → Nat → Bool} : s_wr (w_hs σ x) = s_wr σ := rfl
theorem sw_wr_hi {σ : vs_S} {x : Nat → Nat → Option Nat} : s_wr (w_hi σ x) = s_wr σ := rfl
theorem sw_wr_xk {σ : vs_S} {x : Nat → Option Nat} : s_wr (w_xk σ x) = s_wr σ := rfl
theorem sw_wr_xc {σ : vs_S} {x : Nat → Nat → Int32} : s_wr (w_xc σ x) = s_wr σ := rfl
theorem sw_wr_fd {σ : vs_S} {x : Nat → Bool} : s_wr (w_fd σ x) = s_wr σ := rfl
theorem sw_wr_rp {σ : vs_S} {x : Nat} : s_wr (w_rp σ x) = s_wr σ := rfl
theorem sw_ow_ow {σ : vs_S} {x : Nat → Option Nat} : s_ow (w_ow σ x) = x := rfl
theorem sw_ow_up {σ : vs_S} {x : Nat → Bool} : s_ow (w_up σ x) = s_ow σ := rfl
theorem sw_ow_cu {σ : vs_S} {x : Nat → Nat → Bool} : s_ow (w_cu σ x) = s_ow σ := rfl
theorem sw_ow_md {σ : vs_S} {x : Nat} : s_ow (w_md σ x) = s_ow σ := rfl
theorem sw_ow_ky {σ : vs_S} {x : Nat → Int32} : s_ow (w_ky σ x) = s_ow σ := rfl
theorem sw_ow_vl {σ : vs_S} {x : Nat → Int32} : s_ow (w_vl σ x) = s_ow σ := rfl
theorem sw_ow_au {σ : vs_S} {x : Nat → Int32} : s_ow (w_au σ x) = s_ow σ := rfl
theorem sw_ow_cl {σ : vs_S} {x : Nat → Int32} : s_ow (w_cl σ x) = s_ow σ := rfl
theorem sw_ow_hs {σ : vs_S} {x : Nat → Nat → Bool} : s_ow (w_hs σ x) = s_ow σ := rfl
theorem sw_ow_hi {σ : vs_S} {x : Nat → Nat → Option Nat} : s_ow (w_hi σ x) = s_ow σ := rfl
theorem sw_ow_xk {σ : vs_S} {x : Nat → Option Nat} : s_ow (w_xk σ x) = s_ow σ := rfl
theorem sw_ow_xc {σ : vs_S} {x : Nat → Nat → Int32} : s_ow (w_xc σ x) = s_ow σ := rfl
theorem sw_ow_fd {σ : vs_S} {x : Nat → Bool} : s_ow (w_fd σ x) = s_ow σ := rfl
theorem sw_ow_rp {σ : vs_S} {x : Nat} : s_ow (w_rp σ x) = s_ow σ := rfl
theorem sw_up_ow {σ : vs_S} {x : Nat → Option Nat} : s_up (w_ow σ x) = s_up σ := rfl
theorem sw_up_up {σ : vs_S} {x : Nat → Bool} : s_up (w_up σ x) = x := rfl
theorem sw_up_cu {σ : vs_S} {x : Nat → Nat → Bool} : s_up (w_cu σ x) = s_up σ := rfl
theorem sw_up_md {σ : vs_S} {x : Nat} : s_up (w_md σ x) = s_up σ := rfl
theorem sw_up_ky {σ : vs_S} {x : Nat → Int32} : s_up (w_ky σ x) = s_up σ := rfl
theorem sw_up_vl {σ : vs_S} {x : Nat → Int32} : s_up (w_vl σ x) = s_up σ := rfl
theorem sw_up_au {σ : vs_S} {x : Nat → Int32} : s_up (w_au σ x) = s_up σ := rfl
theorem sw_up_cl {σ : vs_S} {x : Nat → Int32} : s_up (w_cl σ x) = s_up σ := rfl
theorem sw_up_hs {σ : vs_S} {x : Nat → Nat → Bool} : s_up (w_hs σ x) = s_up σ := rfl
theorem sw_up_hi {σ : vs_S} {x : Nat → Nat → Option Nat} : s_up (w_hi σ x) = s_up σ := rfl
theorem sw_up_xk {σ : vs_S} {x : Nat → Option Nat} : s_up (w_xk σ x) = s_up σ := rfl
theorem sw_up_xc {σ : vs_S} {x : Nat → Nat → Int32} : s_up (w_xc σ x) = s_up σ := rfl
theorem sw_up_fd {σ : vs_S} {x : Nat → Bool} : s_up (w_fd σ x) = s_up σ := rfl
theorem sw_up_rp {σ : vs_S} {x : Nat} : s_up (w_rp σ x) = s_up σ := rfl
theorem sw_cu_ow {σ : vs_S} {x : Nat → Option Nat} : s_cu (w_ow σ x) = s_cu σ := rfl
theorem sw_cu_up {σ : vs_S} {x : Nat → Bool} : s_cu (w_up σ x) = s_cu σ := rfl
theorem sw_cu_cu {σ : vs_S} {x : Nat → Nat → Bool} : s_cu (w_cu σ x) = x := rfl
theorem sw_cu_md {σ : vs_S} {x : Nat} : s_cu (w_md σ x) = s_cu σ := rfl
theorem sw_cu_ky {σ : vs_S} {x : Nat → Int32} : s_cu (w_ky σ x) = s_cu σ := rfl
theorem sw_cu_vl {σ : vs_S} {x : Nat → Int32} : s_cu (w_vl σ x) = s_cu σ := rfl
theorem sw_cu_au {σ : vs_S} {x : Nat → Int32} : s_cu (w_au σ x) = s_cu σ := rfl
theorem sw_cu_cl {σ : vs_S} {x : Nat → Int32} : s_cu (w_cl σ x) = s_cu σ := rfl
theorem sw_cu_hs {σ : vs_S} {x : Nat → Nat → Bool} : s_cu (w_hs σ x) = s_cu σ := rfl
theorem sw_cu_hi {σ : vs_S} {x : Nat → Nat → Option Nat} : s_cu (w_hi σ x) = s_cu σ := rfl
theorem sw_cu_xk {σ : vs_S} {x : Nat → Option Nat} : s_cu (w_xk σ x) = s_cu σ := rfl
theorem sw_cu_xc {σ : vs_S} {x : Nat → Nat → Int32} : s_cu (w_xc σ x) = s_cu σ := rfl
theorem sw_cu_fd {σ : vs_S} {x : Nat → Bool} : s_cu (w_fd σ x) = s_cu σ := rfl
theorem sw_cu_rp {σ : vs_S} {x : Nat} : s_cu (w_rp σ x) = s_cu σ := rfl
theorem sw_md_ow {σ : vs_S} {x : Nat → Option Nat} : s_md (w_ow σ x) = s_md σ := rfl
theorem sw_md_up {σ : vs_S} {x : Nat → Bool} : s_md (w_up σ x) = s_md σ := rfl
theorem sw_md_cu {σ : vs_S} {x : Nat → Nat → Bool} : s_md (w_cu σ x) = s_md σ := rfl
theorem sw_md_md {σ : vs_S} {x : Nat} : s_md (w_md σ x) = x := rfl
theorem sw_md_ky {σ : vs_S} {x : Nat → Int32} : s_md (w_ky σ x) = s_md σ := rfl
theorem sw_md_vl {σ : vs_S} {x : Nat → Int32} : s_md (w_vl σ x) = s_md σ := rfl
theorem sw_md_au {σ : vs_S} {x : Nat → Int32} : s_md (w_au σ x) = s_md σ := rfl
theorem sw_md_cl {σ : vs_S} {x : Nat → Int32} : s_md (w_cl σ x) = s_md σ := rfl
theorem sw_md_hs {σ : vs_S} {x : Nat → Nat → Bool} : s_md (w_hs σ x) = s_md σ := rfl
theorem sw_md_hi {σ : vs_S} {x : Nat → Nat → Option Nat} : s_md (w_hi σ x) = s_md σ := rfl
theorem sw_md_xk {σ : vs_S} {x : Nat → Option Nat} : s_md (w_xk σ x) = s_md σ := rfl
theorem sw_md_xc {σ : vs_S} {x : Nat → Nat → Int32} : s_md (w_xc σ x) = s_md σ := rfl
theorem sw_md_fd {σ : vs_S} {x : Nat → Bool} : s_md (w_fd σ x) = s_md σ := rfl
theorem sw_md_rp {σ : vs_S} {x : Nat} : s_md (w_rp σ x) = s_md σ := rfl
theorem sw_ky_ow {σ : vs_S} {x : Nat → Option Nat} : s_ky (w_ow σ x) = s_ky σ := rfl
theorem sw_ky_up {σ : vs_S} {x : Nat → Bool} : s_ky (w_up σ x) = s_ky σ := rfl
theorem sw_ky_cu {σ : vs_S} {x : Nat → Nat → Bool} : s_ky (w_cu σ x) = s_ky σ := rfl
theorem sw_ky_md {σ : vs_S} {x : Nat} : s_ky (w_md σ x) = s_ky σ := rfl
theorem sw_ky_ky {σ : vs_S} {x : Nat → Int32} : s_ky (w_ky σ x) = x := rfl
theorem sw_ky_vl {σ : vs_S} {x : Nat → Int32} : s_ky (w_vl σ x) = s_ky σ := rfl
theorem sw_ky_au {σ : vs_S} {x : Nat → Int32} : s_ky (w_au σ x) = s_ky σ := rfl
theorem sw_ky_cl {σ : vs_S} {x : Nat → Int32} : s_ky (w_cl σ x) = s_ky σ := rfl
theorem sw_ky_hs {σ : vs_S} {x : Nat → Nat → Bool} : s_ky (w_hs σ x) = s_ky σ := rfl
theorem sw_ky_hi {σ : vs_S} {x : Nat → Nat → Option Nat} : s_ky (w_hi σ x) = s_ky σ := rfl
theorem sw_ky_xk {σ : vs_S} {x : Nat → Option Nat} : s_ky (w_xk σ x) = s_ky σ := rfl
theorem sw_ky_xc {σ : vs_S} {x : Nat → Nat → Int32} : s_ky (w_xc σ x) = s_ky σ := rfl
theorem sw_ky_fd {σ : vs_S} {x : Nat → Bool} : s_ky (w_fd σ x) = s_ky σ := rfl
theorem sw_ky_rp {σ : vs_S} {x : Nat} : s_ky (w_rp σ x) = s_ky σ := rfl
theorem sw_vl_ow {σ : vs_S} {x : Nat → Option Nat} : s_vl (w_ow σ x) = s_vl σ := rfl
theorem sw_vl_up {σ : vs_S} {x : Nat → Bool} : s_vl (w_up σ x) = s_vl σ := rfl
theorem sw_vl_cu {σ : vs_S} {x : Nat → Nat → Bool} : s_vl (w_cu σ x) = s_vl σ := rfl
theorem sw_vl_md {σ : vs_S} {x : Nat} : s_vl (w_md σ x) = s_vl σ := rfl
theorem sw_vl_ky {σ : vs_S} {x : Nat → Int32} : s_vl (w_ky σ x) = s_vl σ := rfl
theorem sw_vl_vl {σ : vs_S} {x : Nat → Int32} : s_vl (w_vl σ x) = x := rfl
theorem sw_vl_au {σ : vs_S} {x : Nat → Int32} : s_vl (w_au σ x) = s_vl σ := rfl
theorem sw_vl_cl {σ : vs_S} {x : Nat → Int32} : s_vl (w_cl σ x) = s_vl σ := rfl
theorem sw_vl_hs {σ : vs_S} {x : Nat → Nat → Bool} : s_vl (w_hs σ x) = s_vl σ := rfl
theorem sw_vl_hi {σ : vs_S} {x : Nat → Nat → Option Nat} : s_vl (w_hi σ x) = s_vl σ := rfl
theorem sw_vl_xk {σ : vs_S} {x : Nat → Option Nat} : s_vl (w_xk σ x) = s_vl σ := rfl
theorem sw_vl_xc {σ : vs_S} {x : Nat → Nat → Int32} : s_vl (w_xc σ x) = s_vl σ := rfl
theorem sw_vl_fd {σ : vs_S} {x : Nat → Bool} : s_vl (w_fd σ x) = s_vl σ := rfl
theorem sw_vl_rp {σ : vs_S} {x : Nat} : s_vl (w_rp σ x) = s_vl σ := rfl
theorem sw_au_ow {σ : vs_S} {x : Nat → Option Nat} : s_au (w_ow σ x) = s_au σ := rfl
theorem sw_au_up {σ : vs_S} {x : Nat → Bool} : s_au (w_up σ x) = s_au σ := rfl
theorem sw_au_cu {σ : vs_S} {x : Nat → Nat → Bool} : s_au (w_cu σ x) = s_au σ := rfl
theorem sw_au_md {σ : vs_S} {x : Nat} : s_au (w_md σ x) = s_au σ := rfl
theorem sw_au_ky {σ : vs_S} {x : Nat → Int32} : s_au (w_ky σ x) = s_au σ := rfl
theorem sw_au_vl {σ : vs_S} {x : Nat → Int32} : s_au (w_vl σ x) = s_au σ := rfl
theorem sw_au_au {σ : vs_S} {x : Nat → Int32} : s_au (w_au σ x) = x := rfl
theorem sw_au_cl {σ : vs_S} {x : Nat → Int32} : s_au (w_cl σ x) = s_au σ := rfl
theorem sw_au_hs {σ : vs_S} {x : Nat → Nat → Bool} : s_au (w_hs σ x) = s_au σ := rfl
theorem sw_au_hi {σ : vs_S} {x : Nat → Nat → Option Nat} : s_au (w_hi σ x) = s_au σ := rfl
theorem sw_au_xk {σ : vs_S} {x : Nat → Option Nat} : s_au (w_xk σ x) = s_au σ := rfl
theorem sw_au_xc {σ : vs_S} {x : Nat → Nat → Int32} : s_au (w_xc σ x) = s_au σ := rfl
theorem sw_au_fd {σ : vs_S} {x : Nat → Bool} : s_au (w_fd σ x) = s_au σ := rfl
theorem sw_au_rp {σ : vs_S} {x : Nat} : s_au (w_rp σ x) = s_au σ := rfl
theorem sw_cl_ow {σ : vs_S} {x : Nat → Option Nat} : s_cl (w_ow σ x) = s_cl σ := rfl
theorem sw_cl_up {σ : vs_S} {x : Nat → Bool} : s_cl (w_up σ x) = s_cl σ := rfl
theorem sw_cl_cu {σ : vs_S} {x : Nat → Nat → Bool} : s_cl (w_cu σ x) = s_cl σ := rfl
theorem sw_cl_md {σ : vs_S} {x : Nat} : s_cl (w_md σ x) = s_cl σ := rfl
theorem sw_cl_ky {σ : vs_S} {x : Nat → Int32} : s_cl (w_ky σ x) = s_cl σ := rfl
theorem sw_cl_vl {σ : vs_S} {x : Nat → Int32} : s_cl (w_vl σ x) = s_cl σ := rfl
theorem sw_cl_au {σ : vs_S} {x : Nat → Int32} : s_cl (w_au σ x) = s_cl σ := rfl
theorem sw_cl_cl {σ : vs_S} {x : Nat → Int32} : s_cl (w_cl σ x) = x := rfl
theorem sw_cl_hs {σ : vs_S} {x : Nat → Nat → Bool} : s_cl (w_hs σ x) = s_cl σ := rfl
theorem sw_cl_hi {σ : vs_S} {x : Nat → Nat → Option Nat} : s_cl (w_hi σ x) = s_cl σ := rfl
theorem sw_cl_xk {σ : vs_S} {x : Nat → Option Nat} : s_cl (w_xk σ x) = s_cl σ := rfl
theorem sw_cl_xc {σ : vs_S} {x : Nat → Nat → Int32} : s_cl (w_xc σ x) = s_cl σ := rfl
theorem sw_cl_fd {σ : vs_S} {x : Nat → Bool} : s_cl (w_fd σ x) = s_cl σ := rfl
theorem sw_cl_rp {σ : vs_S} {x : Nat} : s_cl (w_rp σ x) = s_cl σ := rfl
theorem sw_hs_ow {σ : vs_S} {x : Nat → Option Nat} : s_hs (w_ow σ x) = s_hs σ := rfl
theorem sw_hs_up {σ : vs_S} {x : Nat → Bool} : s_hs (w_up σ x) = s_hs σ := rfl
theorem sw_hs_cu {σ : vs_S} {x : Nat → Nat → Bool} : s_hs (w_cu σ x) = s_hs σ := rfl
theorem sw_hs_md {σ : vs_S} {x : Nat} : s_hs (w_md σ x) = s_hs σ := rfl
theorem sw_hs_ky {σ : vs_S} {x : Nat → Int32} : s_hs (w_ky σ x) = s_hs σ := rfl
theorem sw_hs_vl {σ : vs_S} {x : Nat → Int32} : s_hs (w_vl σ x) = s_hs σ := rfl
theorem sw_hs_au {σ : vs_S} {x : Nat → Int32} : s_hs (w_au σ x) = s_hs σ := rfl
theorem sw_hs_cl {σ : vs_S} {x : Nat → Int32} : s_hs (w_cl σ x) = s_hs σ := rfl
theorem sw_hs_hs {σ : vs_S} {x : Nat → Nat → Bool} : s_hs (w_hs σ x) = x := rfl
theorem sw_hs_hi {σ : vs_S} {x : Nat → Nat → Option Nat} : s_hs (w_hi σ x) = s_hs σ := rfl
theorem sw_hs_xk {σ : vs_S} {x : Nat → Option Nat} : s_hs (w_xk σ x) = s_hs σ := rfl
theorem sw_hs_xc {σ : vs_S} {x : Nat → Nat → Int32} : s_hs (w_xc σ x) = s_hs σ := rfl
theorem sw_hs_fd {σ : vs_S} {x : Nat → Bool} : s_hs (w_fd σ x) = s_hs σ := rfl
theorem sw_hs_rp {σ : vs_S} {x : Nat} : s_hs (w_rp σ x) = s_hs σ := rfl
theorem sw_hi_ow {σ : vs_S} {x : Nat → Option Nat} : s_hi (w_ow σ x) = s_hi σ := rfl
theorem sw_hi_up {σ : vs_S} {x : Nat → Bool} : s_hi (w_up σ x) = s_hi σ := rfl
theorem sw_hi_cu {σ : vs_S} {x : Nat → Nat → Bool} : s_hi (w_cu σ x) = s_hi σ := rfl
theorem sw_hi_md {σ : vs_S} {x : Nat} : s_hi (w_md σ x) = s_hi σ := rfl
theorem sw_hi_ky {σ : vs_S} {x : Nat → Int32} : s_hi (w_ky σ x) = s_hi σ := rfl
theorem sw_hi_vl {σ : vs_S} {x : Nat → Int32} : s_hi (w_vl σ x) = s_hi σ := rfl
theorem sw_hi_au {σ : vs_S} {x : Nat → Int32} : s_hi (w_au σ x) = s_hi σ := rfl
theorem sw_hi_cl {σ : vs_S} {x : Nat → Int32} : s_hi (w_cl σ x) = s_hi σ := rfl
theorem sw_hi_hs {σ : vs_S} {x : Nat → Nat → Bool} : s_hi (w_hs σ x) = s_hi σ := rfl
theorem sw_hi_hi {σ : vs_S} {x : Nat → Nat → Option Nat} : s_hi (w_hi σ x) = x := rfl
theorem sw_hi_xk {σ : vs_S} {x : Nat → Option Nat} : s_hi (w_xk σ x) = s_hi σ := rfl
theorem sw_hi_xc {σ : vs_S} {x : Nat → Nat → Int32} : s_hi (w_xc σ x) = s_hi σ := rfl
theorem sw_hi_fd {σ : vs_S} {x : Nat → Bool} : s_hi (w_fd σ x) = s_hi σ := rfl
theorem sw_hi_rp {σ : vs_S} {x : Nat} : s_hi (w_rp σ x) = s_hi σ := rfl
theorem sw_xk_ow {σ : vs_S} {x : Nat → Option Nat} : s_xk (w_ow σ x) = s_xk σ := rfl
theorem sw_xk_up {σ : vs_S} {x : Nat → Bool} : s_xk (w_up σ x) = s_xk σ := rfl
theorem sw_xk_cu {σ : vs_S} {x : Nat → Nat → Bool} : s_xk (w_cu σ x) = s_xk σ := rfl
theorem sw_xk_md {σ : vs_S} {x : Nat} : s_xk (w_md σ x) = s_xk σ := rfl
theorem sw_xk_ky {σ : vs_S} {x : Nat → Int32} : s_xk (w_ky σ x) = s_xk σ := rfl
theorem sw_xk_vl {σ : vs_S} {x : Nat → Int32} : s_xk (w_vl σ x) = s_xk σ := rfl
theorem sw_xk_au {σ : vs_S} {x : Nat → Int32} : s_xk (w_au σ x) = s_xk σ := rfl
theorem sw_xk_cl {σ : vs_S} {x : Nat → Int32} : s_xk (w_cl σ x) = s_xk σ := rfl
theorem sw_xk_hs {σ : vs_S} {x : Nat → Nat → Bool} : s_xk (w_hs σ x) = s_xk σ := rfl
theorem sw_xk_hi {σ : vs_S} {x : Nat → Nat → Option Nat} : s_xk (w_hi σ x) = s_xk σ := rfl
theorem sw_xk_xk {σ : vs_S} {x : Nat → Option Nat} : s_xk (w_xk σ x) = x := rfl
theorem sw_xk_xc {σ : vs_S} {x : Nat → Nat → Int32} : s_xk (w_xc σ x) = s_xk σ := rfl
theorem sw_xk_fd {σ : vs_S} {x : Nat → Bool} : s_xk (w_fd σ x) = s_xk σ := rfl
theorem sw_xk_rp {σ : vs_S} {x : Nat} : s_xk (w_rp σ x) = s_xk σ := rfl
theorem sw_xc_ow {σ : vs_S} {x : Nat → Option Nat} : s_xc (w_ow σ x) = s_xc σ := rfl
theorem sw_xc_up {σ : vs_S} {x : Nat → Bool} : s_xc (w_up σ x) = s_xc σ := rfl
theorem sw_xc_cu {σ : vs_S} {x : Nat → Nat → Bool} : s_xc (w_cu σ x) = s_xc σ := rfl
theorem sw_xc_md {σ : vs_S} {x : Nat} : s_xc (w_md σ x) = s_xc σ := rfl
theorem sw_xc_ky {σ : vs_S} {x : Nat → Int32} : s_xc (w_ky σ x) = s_xc σ := rfl
theorem sw_xc_vl {σ : vs_S} {x : Nat → Int32} : s_xc (w_vl σ x) = s_xc σ := rfl
theorem sw_xc_au {σ : vs_S} {x : Nat → Int32} : s_xc (w_au σ x) = s_xc σ := rfl
theorem sw_xc_cl {σ : vs_S} {x : Nat → Int32} : s_xc (w_cl σ x) = s_xc σ := rfl
theorem sw_xc_hs {σ : vs_S} {x : Nat → Nat → Bool} : s_xc (w_hs σ x) = s_xc σ := rfl
theorem sw_xc_hi {σ : vs_S} {x : Nat → Nat → Option Nat} : s_xc (w_hi σ x) = s_xc σ := rfl
theorem sw_xc_xk {σ : vs_S} {x : Nat → Option Nat} : s_xc (w_xk σ x) = s_xc σ := rfl
theorem sw_xc_xc {σ : vs_S} {x : Nat → Nat → Int32} : s_xc (w_xc σ x) = x := rfl
theorem sw_xc_fd {σ : vs_S} {x : Nat → Bool} : s_xc (w_fd σ x) = s_xc σ := rfl
theorem sw_xc_rp {σ : vs_S} {x : Nat} : s_xc (w_rp σ x) = s_xc σ := rfl
theorem sw_fd_ow {σ : vs_S} {x : Nat → Option Nat} : s_fd (w_ow σ x) = s_fd σ := rfl
theorem sw_fd_up {σ : vs_S} {x : Nat → Bool} : s_fd (w_up σ x) = s_fd σ := rfl
theorem sw_fd_cu {σ : vs_S} {x : Nat → Nat → Bool} : s_fd (w_cu σ x) = s_fd σ := rfl
theorem sw_fd_md {σ : vs_S} {x : Nat} : s_fd (w_md σ x) = s_fd σ := rfl
theorem sw_fd_ky {σ : vs_S} {x : Nat → Int32} : s_fd (w_ky σ x) = s_fd σ := rfl
theorem sw_fd_vl {σ : vs_S} {x : Nat → Int32} : s_fd (w_vl σ x) = s_fd σ := rfl
theorem sw_fd_au {σ : vs_S} {x : Nat → Int32} : s_fd (w_au σ x) = s_fd σ := rfl
theorem sw_fd_cl {σ : vs_S} {x : Nat → Int32} : s_fd (w_cl σ x) = s_fd σ := rfl
theorem sw_fd_hs {σ : vs_S} {x : Nat → Nat → Bool} : s_fd (w_hs σ x) = s_fd σ := rfl
theorem sw_fd_hi {σ : vs_S} {x : Nat → Nat → Option Nat} : s_fd (w_hi σ x) = s_fd σ := rfl
theorem sw_fd_xk {σ : vs_S} {x : Nat → Option Nat} : s_fd (w_xk σ x) = s_fd σ := rfl
theorem sw_fd_xc {σ : vs_S} {x : Nat → Nat → Int32} : s_fd (w_xc σ x) = s_fd σ := rfl
theorem sw_fd_fd {σ : vs_S} {x : Nat → Bool} : s_fd (w_fd σ x) = x := rfl
theorem sw_fd_rp {σ : vs_S} {x : Nat} : s_fd (w_rp σ x) = s_fd σ := rfl
theorem sw_rp_ow {σ : vs_S} {x : Nat → Option Nat} : s_rp (w_ow σ x) = s_rp σ := rfl
theorem sw_rp_up {σ : vs_S} {x : Nat → Bool} : s_rp (w_up σ x) = s_rp σ := rfl
theorem sw_rp_cu {σ : vs_S} {x : Nat → Nat → Bool} : s_rp (w_cu σ x) = s_rp σ := rfl
theorem sw_rp_md {σ : vs_S} {x : Nat} : s_rp (w_md σ x) = s_rp σ := rfl
theorem sw_rp_ky {σ : vs_S} {x : Nat → Int32} : s_rp (w_ky σ x) = s_rp σ := rfl
theorem sw_rp_vl {σ : vs_S} {x : Nat → Int32} : s_rp (w_vl σ x) = s_rp σ := rfl
theorem sw_rp_au {σ : vs_S} {x : Nat → Int32} : s_rp (w_au σ x) = s_rp σ := rfl
theorem sw_rp_cl {σ : vs_S} {x : Nat → Int32} : s_rp (w_cl σ x) = s_rp σ := rfl
theorem sw_rp_hs {σ : vs_S} {x : Nat → Nat → Bool} : s_rp (w_hs σ x) = s_rp σ := rfl
theorem sw_rp_hi {σ : vs_S} {x : Nat → Nat → Option Nat} : s_rp (w_hi σ x) = s_rp σ := rfl
theorem sw_rp_xk {σ : vs_S} {x : Nat → Option Nat} : s_rp (w_xk σ x) = s_rp σ := rfl
theorem sw_rp_xc {σ : vs_S} {x : Nat → Nat → Int32} : s_rp (w_xc σ x) = s_rp σ := rfl
theorem sw_rp_fd {σ : vs_S} {x : Nat → Bool} : s_rp (w_fd σ x) = s_rp σ := rfl
theorem sw_rp_rp {σ : vs_S} {x : Nat} : s_rp (w_rp σ x) = x := rfl
/-- what always holds of it -/
def vs_ok (σ : vs_S) : Prop := (1 ≤ s_mo σ ∧ s_rd σ ≤ 3 ∧ s_wr σ ≤ 3) ∧ s_mo σ ≤ 3 ∧ s_md σ ≤ 40 ∧ (∀ p o, s_ow σ p = some o → o < 5) ∧ (∀ a u o, s_hi σ a u = some o → o < 5) ∧ (∀ c k, s_xk σ c = some k → k < 32) ∧ (∀ c k, s_xk σ c = none → s_xc σ c k = 0) ∧ (∀ u, s_fd σ u = true → u < s_md σ)
/-- the class's cells hold it -/
def vs_C (σ : vs_S) (M : jw_Mem) : Prop := (M 1 0 = nI (s_mo σ) ∧ M 0 5 = nI (s_rd σ) ∧ M 0 6 = nI (s_wr σ)) ∧ (∀ p, p < 16 → M 2 p = oI (s_ow σ p)) ∧ (∀ a, a < 5 → M (10 + 3 * a) 3 = bI (s_up σ a)) ∧ (∀ a b, a < 5 → b < 5 → M 34 (5 * min a b + max a b) = bI (s_cu σ a b)) ∧ M 4 4 = nI (s_md σ) ∧ ((∀ u, u < 40 → M 5 u = s_ky σ u) ∧ (∀ u, u < 40 → M 6 u = s_vl σ u) ∧ (∀ u, u < 40 → M 7 u = s_au σ u) ∧ (∀ i, i < 200 → M 8 i = s_cl σ i)) ∧ (∀ a u, a < 5 → u < 40 → M (11 + 3 * a) u = bI (s_hs σ a u)) ∧ (∀ a u, a < 5 → u < 40 → M (12 + 3 * a) u = oI (s_hi σ a u)) ∧ (∀ c, c < 4 → M (26 + 2 * c) 1 = oI (s_xk σ c)) ∧ (∀ c k, c < 4 → k < 5 → M (27 + 2 * c) k = s_xc σ c k) ∧ (∀ u, u < 40 → M 35 u = bI (s_fd σ u)) ∧ M 0 8 = nI (s_rp σ)
/-- the reference's cells hold it -/
def vs_M (σ : vs_S) (M : jw_Mem) : Prop := (M 41 0 = nI (s_mo σ) ∧ M 41 1 = nI (s_rd σ) ∧ M 41 2 = nI (s_wr σ)) ∧ (∀ p, p < 16 → M 44 p = oM (s_ow σ p)) ∧ (∀ a, a < 5 → M 42 a = bI (!s_up σ a)) ∧ (∀ a b, a < 5 → b < 5 → M 43 (5 * a + b) = bI (s_cu σ a b)) ∧ M 41 6 = nI (s_md σ) ∧ ((∀ u, u < 40 → M 45 u = s_ky σ u) ∧ (∀ u, u < 40 → M 46 u = s_vl σ u) ∧ (∀ u, u < 40 → M 47 u = s_au σ u) ∧ (∀ i, i < 200 → M 48 i = s_cl σ i)) ∧ (∀ a u, a < 5 → u < 40 → M 49 (40 * a + u) = bI (s_hs σ a u)) ∧ (∀ a u, a < 5 → u < 40 → M 50 (40 * a + u) = oM (s_hi σ a u)) ∧ (∀ c, c < 4 → M 53 c = bI (s_xk σ c).isSome) ∧ (∀ c k, c < 4 → s_xk σ c = some k → M 52 c = nI k) ∧ (∀ c k, c < 4 → k < 5 → s_xk σ c ≠ none → M 54 (5 * c + k) = s_xc σ c k) ∧ (M 41 18 = nI (vs_cnt (s_fd σ) 40) ∧ ∀ u, u < 40 → s_fd σ u = true → M 55 (vs_cnt (s_fd σ) u) = nI u) ∧ M 41 19 = nI (s_rp σ)
