def psO (s : SV) (w : Nat) : Nat → Bool
  | 0 => false
  | n + 1 => psO s w n || decide (wyO s (bpN (n / 12) (n % 12)) = some w)
theorem psO_t {s : SV} {w n : Nat} : psO s w n = true ↔ ∃ k, k < n ∧ wyO s (bpN (k / 12) (k % 12)) = some w := by
  induction n with
  | zero => simp [psO]
  | succ n ih =>
    simp only [psO, Bool.or_eq_true, decide_eq_true_eq]
    rw [ih]
    constructor
    · rintro (⟨k, hk, h⟩ | h)
      · exact ⟨k, by omega, h⟩
      · exact ⟨n, by omega, h⟩
    · rintro ⟨k, hk, h⟩
      by_cases hkn : k = n
      · subst hkn; exact Or.inr h
      · exact Or.inl ⟨k, by omega, h⟩
