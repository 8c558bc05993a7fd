/-! values: arrays of Nats and of truth values, changed places -/
def upf {α : Type} (f : Nat → α) (k : Nat) (x : α) : Nat → α := fun j => if j = k then x else f j
def nf (f : Nat → Nat) : Nat → Int32 := fun k => nI (f k)
def bf (f : Nat → Bool) : Nat → Int32 := fun k => bB (f k)
def ab (x : Int32) : Int32 := if 0 ≤ x then x else 0 - x
theorem upf_s {α : Type} (f : Nat → α) (k : Nat) (x : α) : upf f k x k = x := by simp [upf]
theorem upf_n {α : Type} {f : Nat → α} {k j : Nat} {x : α} (h : j ≠ k) : upf f k x j = f j := by simp [upf, h]
theorem nf_upd (f : Nat → Nat) (k x : Nat) : upd (nf f) k (nI x) = nf (upf f k x) := by
  funext j
  by_cases h : j = k <;> simp [upd, nf, upf, h]
theorem bf_upd (f : Nat → Bool) (k : Nat) (x : Bool) : upd (bf f) k (vp_nar .boolean (bB x)) = bf (upf f k x) := by
  rw [bB_n]
  funext j
  by_cases h : j = k <;> simp [upd, bf, upf, h]
theorem bf_updT (f : Nat → Bool) (k : Nat) : upd (bf f) k (vp_nar .boolean (nI 1)) = bf (upf f k true) := bf_upd f k true
theorem bf_updF (f : Nat → Bool) (k : Nat) : upd (bf f) k (vp_nar .boolean (nI 0)) = bf (upf f k false) := bf_upd f k false
theorem cpy_r {α : Type} {f g : Nat → α} {a b c : Nat} (ha : a < 2147483648) (hb : b < 2147483648) (hc : c < 2147483648) : va_cpy f g (nI a).toNatClampNeg (nI b).toNatClampNeg (nI c).toNatClampNeg = va_cpy f g a b c := by
  rw [nI_clamp ha, nI_clamp hb, nI_clamp hc]
theorem cpy_all {α : Type} {f g : Nat → α} {n j : Nat} (h : j < n) : va_cpy f g 0 0 n j = f j := by
  rw [pk_cpy_in (Nat.zero_le _) (by omega)]; simp
theorem nf_cpy {f g : Nat → Nat} {a b c : Nat} (ha : a < 2147483648) (hb : b < 2147483648) (hc : c < 2147483648) : va_cpy (nf f) (nf g) (nI a).toNatClampNeg (nI b).toNatClampNeg (nI c).toNatClampNeg = nf (va_cpy f g a b c) := by
  rw [cpy_r ha hb hc]
  funext j
  by_cases h : b ≤ j ∧ j < b + c
  · rw [pk_cpy_in h.1 h.2]
    simp only [nf]
    rw [pk_cpy_in h.1 h.2]
  · have h' : j < b ∨ b + c ≤ j := by omega
    rw [pk_cpy_out h']
    simp only [nf]
    rw [pk_cpy_out h']
theorem nI_max {a b : Nat} (ha : a < 2147483648) (hb : b < 2147483648) : (if nI a < nI b then nI b else nI a) = nI (max a b) := by
  by_cases h : a < b
  · rw [if_pos ((nI_ltI ha hb).mpr h), Nat.max_eq_right (Nat.le_of_lt h)]
  · rw [if_neg (fun h2 => h ((nI_ltI ha hb).mp h2)), Nat.max_eq_left (by omega)]
theorem nI_min {a b : Nat} (ha : a < 2147483648) (hb : b < 2147483648) : (if nI b < nI a then nI b else nI a) = nI (min a b) := by
  by_cases h : b < a
  · rw [if_pos ((nI_ltI hb ha).mpr h), Nat.min_eq_right (Nat.le_of_lt h)]
  · rw [if_neg (fun h2 => h ((nI_ltI hb ha).mp h2)), Nat.min_eq_left (by omega)]
theorem nI_dec {a : Nat} (h : 1 ≤ a) : nI a + Int32.ofInt (-1) = nI (a - 1) := by
  obtain ⟨b, rfl⟩ : ∃ b, a = b + 1 := ⟨a - 1, by omega⟩
  exact pk_m1 b
/-- an Int32 is negative, or too great, or a Nat below n -/
theorem ix_c (x : Int32) {n : Nat} (hn : n < 2147483648) : (x < 0 ∨ nI n ≤ x) ∨ ∃ j : Nat, j < n ∧ x = nI j := by
  rcases pk_ix x hn with h | h | h
  · exact Or.inl (Or.inl h)
  · exact Or.inl (Or.inr h)
  · exact Or.inr h
