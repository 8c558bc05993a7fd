def rmf (f : Nat → Nat) (d : Nat) : Nat → Nat := fun j => if j < d then f j else f (j + 1)
