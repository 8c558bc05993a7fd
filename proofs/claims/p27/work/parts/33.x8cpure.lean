/-! answers that hang on the last way -/
def laF (x : Int32) (f : Nat → Int32) : Int32 := if x < 0 then -5 else f x.toNatClampNeg
theorem laF_n {w : Nat} {f : Nat → Int32} (h : w < 48) : laF (nI w) f = f w := by
  simp only [laF]; rw [if_neg (nI_pos (by omega)), nI_clamp (by omega)]
