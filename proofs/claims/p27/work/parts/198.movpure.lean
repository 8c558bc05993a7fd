/-! strokes -/
def edB (p : Nat) : Bool := decide (p % 12 = 0 ∨ p / 12 = 0 ∨ p % 12 = 11 ∨ p / 12 = 11)
def clm (sw : Nat → Int32) (t : Nat) (o : Option Nat) : Nat := match o with
  | some p => if sw p < sw t then p else t
  | none => t
theorem clm_lt {sw : Nat → Int32} {t : Nat} {o : Option Nat} (ht : t < 144) (ho : ∀ p, o = some p → p < 144) : clm sw t o < 144 := by
  cases o with
  | none => exact ht
  | some p => simp only [clm]; split; exact ho p rfl; exact ht
def tgF (sw : Nat → Int32) (x y : Nat) : Nat := clm sw (clm sw (clm sw (clm sw (y * 12 + x) (rchP (nI x) (nI y - nI 1))) (rchP (nI x - nI 1) (nI y))) (rchP (nI (x + 1)) (nI y))) (rchP (nI x) (nI (y + 1)))
theorem tgF_lt {sw : Nat → Int32} {x y : Nat} (hx : x < 12) (hy : y < 12) : tgF sw x y < 144 := clm_lt (clm_lt (clm_lt (clm_lt (by omega) (fun _ h => rchP_lt h)) (fun _ h => rchP_lt h)) (fun _ h => rchP_lt h)) (fun _ h => rchP_lt h)
def tgW (w p : Nat) : Nat := tgF (SW w) (p % 12) (p / 12)
theorem tgW_lt {w p : Nat} (hp : p < 144) : tgW w p < 144 := tgF_lt (by omega) (by omega)
def flB (sw se : Nat → Int32) (p : Nat) : Bool := edB p && decide (se 3 ≤ sw p)
def goB (sw se : Nat → Int32) (g : Nat → Nat) (p : Nat) : Bool := decide (se 2 < sw p) && decide (0 < g p)
def shA (sw se : Nat → Int32) (tg g a : Nat → Nat) (p : Nat) : Nat → Nat := upf a (tg p) (a (tg p) + ((g p + 1) / 2 - (if flB sw se p = true then 1 else 0)))
abbrev ST3 : Type := (Nat → Nat) × (Nat → Nat) × Int32
def soF (sw se : Nat → Int32) (tg g : Nat → Nat) (fl : Int32) : Nat → ST3
  | 0 => (g, fun _ => 0, fl)
  | n + 1 => if goB sw se (soF sw se tg g fl n).1 n = true then (upf (soF sw se tg g fl n).1 n ((soF sw se tg g fl n).1 n - ((soF sw se tg g fl n).1 n + 1) / 2), shA sw se tg (soF sw se tg g fl n).1 (soF sw se tg g fl n).2.1 n, if flB sw se n = true then (soF sw se tg g fl n).2.2 + nI 1 else (soF sw se tg g fl n).2.2) else soF sw se tg g fl n
def adF (g a : Nat → Nat) : Nat → (Nat → Nat)
  | 0 => g
  | n + 1 => upf (adF g a n) n (adF g a n n + a n)
theorem adF_hi (g a : Nat → Nat) (n : Nat) : ∀ j, n ≤ j → adF g a n j = g j := by
  induction n with
  | zero => intro j _; rfl
  | succ n ih => intro j h; simp only [adF]; rw [upf_n (by omega)]; exact ih j (by omega)
theorem adF_at (g a : Nat → Nat) (n : Nat) : ∀ j, j < n → adF g a n j = g j + a j := by
  induction n with
  | zero => intro j h; omega
  | succ n ih =>
    intro j h
    simp only [adF]
    by_cases hj : j = n
    · subst hj; rw [upf_s, adF_hi g a j j (Nat.le_refl _)]
    · rw [upf_n hj]; exact ih j (by omega)
/-- one stroke: the grains and those that fell -/
def onG (sw se : Nat → Int32) (tg g : Nat → Nat) (fl : Int32) : Nat → Nat := adF (soF sw se tg g fl 144).1 (soF sw se tg g fl 144).2.1 144
def onL (sw se : Nat → Int32) (tg g : Nat → Nat) (fl : Int32) : Int32 := (soF sw se tg g fl 144).2.2
def stI (sw se : Nat → Int32) (tg g : Nat → Nat) (fl : Int32) : Nat → (Nat → Nat) × Int32
  | 0 => (g, fl)
  | n + 1 => (onG sw se tg (stI sw se tg g fl n).1 (stI sw se tg g fl n).2, onL sw se tg (stI sw se tg g fl n).1 (stI sw se tg g fl n).2)
theorem soF_le (sw se : Nat → Int32) (tg g : Nat → Nat) (fl : Int32) (n : Nat) : ∀ q, (soF sw se tg g fl n).1 q ≤ g q := by
  induction n with
  | zero => intro q; exact Nat.le_refl _
  | succ n ih =>
    intro q
    simp only [soF]
    split
    · show upf _ n _ q ≤ g q
      by_cases hq : q = n
      · subst hq; rw [upf_s]; have := ih q; omega
      · rw [upf_n hq]; exact ih q
    · exact ih q
