/-! the ring of states -/
def roN (o hd : Nat) : Nat := if hd = 4 then (o + 1) % 4 else o
def rhN (hd : Nat) : Nat := if hd = 4 then 4 else hd + 1
def rkN (o hd : Nat) : Nat := if hd = 4 then o else (o + hd) % 4
theorem rf4_up {a b c d : Nat} : va_up (va_up (va_up (va_up (fun _ => none) 0 (some a)) 1 (some b)) 2 (some c)) 3 (some d) = fun j => if j < 4 then rf4 a b c d j else none := by
  funext j
  by_cases h0 : j = 0
  · subst h0; rfl
  by_cases h1 : j = 1
  · subst h1; rfl
  by_cases h2 : j = 2
  · subst h2; rfl
  by_cases h3 : j = 3
  · subst h3; rfl
  simp only [va_up]
  rw [if_neg h3, if_neg h2, if_neg h1, if_neg h0, if_neg (by omega)]
def rf5 (a b c d : Nat) : Nat → Option Nat := fun j => if j < 4 then rf4 a b c d j else none
theorem rf5_s {a b c d j : Nat} (h : j < 4) : rf5 a b c d j = rf4 a b c d j := by simp only [rf5]; rw [if_pos h]
