/-! swings: how large, and the same the other way round -/
/-! swings -/
def swQ (w p : Nat) : Bool := !decide (SW w p < 0) && !decide (nI 200 < SW w p) && decide (SW w p = SW w (12 * (p % 12) + p / 12))
set_option maxRecDepth 100000 in
theorem swQ_0 : ∀ w, w < 8 → ∀ p, p < 144 → swQ (0 + w) p = true := by decide +kernel
set_option maxRecDepth 100000 in
theorem swQ_1 : ∀ w, w < 8 → ∀ p, p < 144 → swQ (8 + w) p = true := by decide +kernel
set_option maxRecDepth 100000 in
theorem swQ_2 : ∀ w, w < 8 → ∀ p, p < 144 → swQ (16 + w) p = true := by decide +kernel
set_option maxRecDepth 100000 in
theorem swQ_3 : ∀ w, w < 8 → ∀ p, p < 144 → swQ (24 + w) p = true := by decide +kernel
set_option maxRecDepth 100000 in
theorem swQ_4 : ∀ w, w < 8 → ∀ p, p < 144 → swQ (32 + w) p = true := by decide +kernel
set_option maxRecDepth 100000 in
theorem swQ_5 : ∀ w, w < 8 → ∀ p, p < 144 → swQ (40 + w) p = true := by decide +kernel
theorem swQ_all {w p : Nat} (hw : w < 48) (hp : p < 144) : swQ w p = true := by
  by_cases h1 : w < 8
  · have := swQ_0 w h1 p hp; rwa [Nat.zero_add] at this
  by_cases h2 : w < 16
  · have := swQ_1 (w - 8) (by omega) p hp; rwa [show 8 + (w - 8) = w by omega] at this
  by_cases h3 : w < 24
  · have := swQ_2 (w - 16) (by omega) p hp; rwa [show 16 + (w - 16) = w by omega] at this
  by_cases h4 : w < 32
  · have := swQ_3 (w - 24) (by omega) p hp; rwa [show 24 + (w - 24) = w by omega] at this
  by_cases h5 : w < 40
  · have := swQ_4 (w - 32) (by omega) p hp; rwa [show 32 + (w - 32) = w by omega] at this
  · have := swQ_5 (w - 40) (by omega) p hp; rwa [show 40 + (w - 40) = w by omega] at this
theorem SW_ge {w p : Nat} (hw : w < 48) (hp : p < 144) : ¬ SW w p < 0 := by
  have h := swQ_all hw hp
  simp only [swQ, Bool.and_eq_true, Bool.not_eq_true', decide_eq_false_iff_not, decide_eq_true_eq] at h
  exact h.1.1
theorem SW_le {w p : Nat} (hw : w < 48) (hp : p < 144) : ¬ nI 200 < SW w p := by
  have h := swQ_all hw hp
  simp only [swQ, Bool.and_eq_true, Bool.not_eq_true', decide_eq_false_iff_not, decide_eq_true_eq] at h
  exact h.1.2
theorem SW_sym {w p : Nat} (hw : w < 48) (hp : p < 144) : SW w (12 * (p % 12) + p / 12) = SW w p := by
  have h := swQ_all hw hp
  simp only [swQ, Bool.and_eq_true, Bool.not_eq_true', decide_eq_false_iff_not, decide_eq_true_eq] at h
  exact h.2.symm
