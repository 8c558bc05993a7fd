/-! the ways and their tables -/
def hW (k x : Nat) : Int32 := if 200 * k * x / 11 % 400 ≤ 200 then nI 100 - nI (200 * k * x / 11 % 400) else nI (200 * k * x / 11 % 400) - nI 300
def hT : Nat → Int32 := fun j => hW (j / 12) (j % 12)
theorem hT_at {k x : Nat} (h : x < 12) : hT (k * 12 + x) = hW k x := by
  simp only [hT]
  rw [show (k * 12 + x) / 12 = k by omega, show (k * 12 + x) % 12 = x by omega]
/-- the 48 ways in their order: m, n, sign -/
def wayT : List (Nat × Nat × Nat) := [(0, 1, 0), (0, 1, 1), (1, 1, 0), (0, 2, 0), (0, 2, 1), (1, 2, 0), (1, 2, 1), (2, 2, 0), (0, 3, 0), (0, 3, 1), (1, 3, 0), (1, 3, 1), (2, 3, 0), (2, 3, 1), (0, 4, 0), (0, 4, 1), (1, 4, 0), (1, 4, 1), (3, 3, 0), (2, 4, 0), (2, 4, 1), (0, 5, 0), (3, 4, 0), (0, 5, 1), (3, 4, 1), (1, 5, 0), (1, 5, 1), (2, 5, 0), (2, 5, 1), (4, 4, 0), (3, 5, 0), (3, 5, 1), (0, 6, 0), (0, 6, 1), (1, 6, 0), (1, 6, 1), (2, 6, 0), (2, 6, 1), (4, 5, 0), (4, 5, 1), (3, 6, 0), (3, 6, 1), (5, 5, 0), (4, 6, 0), (4, 6, 1), (5, 6, 0), (5, 6, 1), (6, 6, 0)]
def tM (w : Nat) : Nat := (wayT.getD w (0, 0, 0)).1
def tN (w : Nat) : Nat := (wayT.getD w (0, 0, 0)).2.1
def tS (w : Nat) : Nat := (wayT.getD w (0, 0, 0)).2.2
theorem tab_all : ∀ w, w < 48 → tM w ≤ 6 ∧ tN w ≤ 6 ∧ tS w ≤ 1 := by decide +kernel
/-- the swing of a way at a place -/
def SW (w p : Nat) : Int32 := ab ((if tS w = 0 then hW (tM w) (p % 12) * hW (tN w) (p / 12) + hW (tN w) (p % 12) * hW (tM w) (p / 12) else hW (tM w) (p % 12) * hW (tN w) (p / 12) - hW (tN w) (p % 12) * hW (tM w) (p / 12)) / nI 100)
theorem SW_xy {w x y : Nat} (hx : x < 12) : SW w (12 * y + x) = ab ((if tS w = 0 then hW (tM w) x * hW (tN w) y + hW (tN w) x * hW (tM w) y else hW (tM w) x * hW (tN w) y - hW (tN w) x * hW (tM w) y) / nI 100) := by
  simp only [SW]
  rw [show (12 * y + x) % 12 = x by omega, show (12 * y + x) / 12 = y by omega]
/-- the place of a bow -/
def bpN (sd al : Nat) : Nat := if sd = 0 then al else if sd = 1 then 12 * al + 11 else if sd = 2 then 132 + al else 12 * al
theorem bpN_lt {sd al : Nat} (h : al < 12) : bpN sd al < 144 := by simp only [bpN]; split <;> (try split) <;> (try split) <;> omega
/-- what the clamps let be, which way sounds -/
def clB (s : SV) (w : Nat) : Bool := (fdB (fun c => !decide (SW w (12 * sv_cr s c + sv_cc s c) ≤ sv_se s 0)) (sv_nc s)).isNone
def bwB (s : SV) (w p : Nat) : Bool := decide (sv_se s 1 ≤ SW w p)
def wyO (s : SV) (p : Nat) : Option Nat := fdB (fun w => bwB s w p && clB s w) 48
theorem clB_t {s : SV} {w : Nat} (h : ∀ c, c < sv_nc s → (!decide (SW w (12 * sv_cr s c + sv_cc s c) ≤ sv_se s 0)) = false) : clB s w = true := by
  simp only [clB]; rw [fdB_none.mpr h]; rfl
theorem clB_f {s : SV} {w c : Nat} (hc : c < sv_nc s) (h : (!decide (SW w (12 * sv_cr s c + sv_cc s c) ≤ sv_se s 0)) = true) : clB s w = false := by
  simp only [clB]
  cases hf : fdB (fun c => !decide (SW w (12 * sv_cr s c + sv_cc s c) ≤ sv_se s 0)) (sv_nc s) with
  | some k => rfl
  | none => have := fdB_none.mp hf c hc; rw [h] at this; cases this
theorem wyO_lt {s : SV} {p w : Nat} (h : wyO s p = some w) : w < 48 := (fdB_some.mp h).1
theorem orM_eq {o : Option Nat} {w : Nat} (ho : ∀ k, o = some k → k < 2147483648) (hw : w < 2147483648) : orM o = nI w ↔ o = some w := by
  cases o with
  | none =>
    simp only [orM, reduceCtorEq, iff_false]
    intro h
    have h2 : (-1 : Int32).toInt = (nI w).toInt := by rw [h]
    rw [nI_toInt hw] at h2
    have h3 : (-1 : Int32).toInt = -1 := by decide +kernel
    omega
  | some k => simp only [orM, Option.some.injEq]; exact nI_eq (ho k rfl) hw
def rsN (s : SV) (w p : Nat) : Nat := if clB s w = true then (if bwB s w p = true then (if wyO s p = some w then 0 else 3) else 2) else 1
/-- the bows that ways take, one after another -/
def tkB (s : SV) (w : Nat) (tk : Nat → Bool) : Nat → (Nat → Bool)
  | 0 => tk
  | n + 1 => if tkB s w tk n n = false ∧ bwB s w (bpN (n / 12) (n % 12)) = true then upf (tkB s w tk n) n true else tkB s w tk n
def tkT (s : SV) (w : Nat) (tk : Nat → Bool) : Nat → Bool
  | 0 => false
  | n + 1 => if tkB s w tk n n = false ∧ bwB s w (bpN (n / 12) (n % 12)) = true then true else tkT s w tk n
def fpK (s : SV) : Nat → (Nat → Bool)
  | 0 => fun _ => false
  | n + 1 => if clB s n = true then tkB s n (fpK s n) 48 else fpK s n
def fpP (s : SV) (n : Nat) : Bool := clB s n && tkT s n (fpK s n) 48
def fpF (s : SV) (f : Nat → Nat) : Nat → (Nat → Nat)
  | 0 => f
  | n + 1 => if fpP s n = true then upf (fpF s f n) (cntB (fpP s) n) n else fpF s f n
