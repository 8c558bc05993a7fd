/-! a piece of bowings: what its rows hold behind a change -/
def apf {α : Type} (f g : Nat → α) (n i : Nat) : Nat → α := fun j => if n ≤ j ∧ j < n + i then g (j - n) else f j
theorem apf_0 {α : Type} (f g : Nat → α) (n : Nat) : apf f g n 0 = f := by funext j; simp only [apf]; rw [if_neg (by omega)]
theorem apf_s {α : Type} (f g : Nat → α) (n i : Nat) : upf (apf f g n i) (n + i) (g i) = apf f g n (i + 1) := by
  funext j
  by_cases h : j = n + i
  · subst h; simp only [upf, apf]; rw [if_pos trivial, if_pos (by omega)]; congr 1; omega
  · simp only [upf, apf]; rw [if_neg h]
    by_cases h2 : n ≤ j ∧ j < n + i
    · rw [if_pos h2, if_pos (by omega)]
    · rw [if_neg h2, if_neg (by omega)]
theorem apf_at {α : Type} {f g : Nat → α} {i j : Nat} (h : j < i) : apf f g 0 i j = g j := by simp only [apf]; rw [if_pos (by omega)]; congr 1
def dff {α : Type} (f : Nat → α) (d i : Nat) : Nat → α := fun j => if j < i then f (j + d) else f j
theorem dff_0 {α : Type} (f : Nat → α) (d : Nat) : dff f d 0 = f := by funext j; simp [dff]
theorem dff_s {α : Type} (f : Nat → α) (d i : Nat) : upf (dff f d i) i (dff f d i (d + i)) = dff f d (i + 1) := by
  funext j
  by_cases h : j = i
  · subst h; simp only [upf, dff]; rw [if_pos trivial, if_neg (by omega), if_pos (by omega), Nat.add_comm]
  · simp only [upf, dff]; rw [if_neg h]
    by_cases h2 : j < i
    · rw [if_pos h2, if_pos (by omega)]
    · rw [if_neg h2, if_neg (by omega)]
def cntB (p : Nat → Bool) : Nat → Nat
  | 0 => 0
  | n + 1 => cntB p n + (if p n then 1 else 0)
theorem cntB_le (p : Nat → Bool) (n : Nat) : cntB p n ≤ n := by
  induction n with
  | zero => exact Nat.le_refl 0
  | succ n ih => simp only [cntB]; split <;> omega
theorem cntB_t {p : Nat → Bool} {n : Nat} (h : p n = true) : cntB p (n + 1) = cntB p n + 1 := by simp [cntB, h]
theorem cntB_f {p : Nat → Bool} {n : Nat} (h : p n = false) : cntB p (n + 1) = cntB p n := by simp [cntB, h]
def flt {α : Type} (f : Nat → α) (p : Nat → Bool) : Nat → (Nat → α)
  | 0 => f
  | n + 1 => if p n then upf (flt f p n) (cntB p n) (f n) else flt f p n
theorem flt_hi {α : Type} (f : Nat → α) (p : Nat → Bool) (n : Nat) : ∀ j, cntB p n ≤ j → flt f p n j = f j := by
  induction n with
  | zero => intro j _; rfl
  | succ n ih =>
    intro j h
    cases hp : p n
    · rw [cntB_f hp] at h; simp only [flt, hp]; exact ih j h
    · rw [cntB_t hp] at h; simp only [flt, hp, if_true]; rw [upf_n (by omega)]; exact ih j (by omega)
theorem flt_t {α : Type} {f : Nat → α} {p : Nat → Bool} {n : Nat} (h : p n = true) : flt f p (n + 1) = upf (flt f p n) (cntB p n) (flt f p n n) := by
  rw [flt_hi f p n n (cntB_le p n)]; simp [flt, h]
theorem flt_f {α : Type} {f : Nat → α} {p : Nat → Bool} {n : Nat} (h : p n = false) : flt f p (n + 1) = flt f p n := by simp [flt, h]
def isB (f : Nat → Nat) (x : Nat) : Nat → Bool := fun j => f j == x
def isN (f : Nat → Nat) (x : Nat) : Nat → Bool := fun j => !(f j == x)
