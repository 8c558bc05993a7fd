/-! the rows of the ways, as they are listed -/
abbrev WL : Type := List (Nat × Nat × Nat)
def la1 (a : WL) : Nat → Nat := fun j => (a.getD j (0, 0, 0)).1
def la2 (a : WL) : Nat → Nat := fun j => (a.getD j (0, 0, 0)).2.1
def la3 (a : WL) : Nat → Nat := fun j => (a.getD j (0, 0, 0)).2.2
theorem la_g (a : WL) (t : Nat × Nat × Nat) (j : Nat) : (a ++ [t]).getD j (0, 0, 0) = if j = a.length then t else a.getD j (0, 0, 0) := by
  rw [List.getD_eq_getElem?_getD, List.getD_eq_getElem?_getD]
  by_cases h : j < a.length
  · rw [List.getElem?_append_left h, if_neg (by omega)]
  · by_cases h2 : j = a.length
    · subst h2; simp
    · rw [if_neg h2, List.getElem?_eq_none (by simp; omega), List.getElem?_eq_none (by omega)]
theorem la1_s (a : WL) (m n s : Nat) : upf (la1 a) a.length m = la1 (a ++ [(m, n, s)]) := by
  funext j; simp only [upf, la1]; rw [la_g]; split <;> rfl
theorem la2_s (a : WL) (m n s : Nat) : upf (la2 a) a.length n = la2 (a ++ [(m, n, s)]) := by
  funext j; simp only [upf, la2]; rw [la_g]; split <;> rfl
theorem la3_s (a : WL) (m n s : Nat) : upf (la3 a) a.length s = la3 (a ++ [(m, n, s)]) := by
  funext j; simp only [upf, la3]; rw [la_g]; split <;> rfl
def addW (sq sg m n : Nat) (a : WL) : WL := if m * m + n * n = sq ∧ a.length < 48 then a ++ [(m, n, sg)] else a
def lwN (sq sg m : Nat) : Nat → WL → WL
  | 0, a => a
  | k + 1, a => addW sq sg m (m + sg + k) (lwN sq sg m k a)
def lwM (sq sg : Nat) : Nat → WL → WL
  | 0, a => a
  | m + 1, a => lwN sq sg m (7 - (m + sg)) (lwM sq sg m a)
def lwA : Nat → WL
  | 0 => []
  | i + 1 => lwM (i + 1) 1 7 (lwM (i + 1) 0 7 (lwA i))
theorem addW_le {sq sg m n : Nat} {a : WL} (h : a.length ≤ 48) : (addW sq sg m n a).length ≤ 48 := by
  simp only [addW]; split
  · simp; omega
  · exact h
theorem lwN_le {sq sg m k : Nat} {a : WL} (h : a.length ≤ 48) : (lwN sq sg m k a).length ≤ 48 := by
  induction k with
  | zero => exact h
  | succ k ih => exact addW_le ih
theorem lwM_le {sq sg k : Nat} {a : WL} (h : a.length ≤ 48) : (lwM sq sg k a).length ≤ 48 := by
  induction k with
  | zero => exact h
  | succ k ih => exact lwN_le ih
theorem lwA_le (i : Nat) : (lwA i).length ≤ 48 := by
  induction i with
  | zero => exact Nat.zero_le _
  | succ i ih => exact lwM_le (lwM_le ih)
theorem lwA_all : lwA 72 = wayT := by decide +kernel
