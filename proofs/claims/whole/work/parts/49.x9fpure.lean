/-! the twin: the ways, as it finds them -/
def addF (nt a b : Nat) (l : WL) : WL := if 10 * (a * a + b * b) + nt % 10 = nt ∧ nt % 10 < 2 ∧ (a < b ∨ nt % 10 = 0) then l ++ [(a, b, nt % 10)] else l
def fwN (nt a : Nat) : Nat → WL → WL
  | 0, l => l
  | k + 1, l => addF nt a (a + k) (fwN nt a k l)
def fwM (nt : Nat) : Nat → WL → WL
  | 0, l => l
  | a + 1, l => fwN nt a (7 - a) (fwM nt a l)
def fwA : Nat → WL
  | 0 => []
  | i + 1 => fwM (10 + i) 7 (fwA i)
theorem fwA_all : fwA 712 = wayT := by decide +kernel
theorem addF_ge (nt a b : Nat) (l : WL) : l.length ≤ (addF nt a b l).length := by
  simp only [addF]; split
  · simp
  · exact Nat.le_refl _
theorem fwN_ge (nt a : Nat) (l : WL) (k d : Nat) : (fwN nt a k l).length ≤ (fwN nt a (k + d) l).length := by
  induction d with
  | zero => exact Nat.le_refl _
  | succ d ih => exact Nat.le_trans ih (addF_ge _ _ _ _)
theorem fwM_ge (nt : Nat) (l : WL) (a d : Nat) : (fwM nt a l).length ≤ (fwM nt (a + d) l).length := by
  induction d with
  | zero => exact Nat.le_refl _
  | succ d ih => exact Nat.le_trans ih (by have := fwN_ge nt (a + d) (fwM nt (a + d) l) 0 (7 - (a + d)); rw [Nat.zero_add] at this; exact this)
theorem fwA_ge (i d : Nat) : (fwA i).length ≤ (fwA (i + d)).length := by
  induction d with
  | zero => exact Nat.le_refl _
  | succ d ih => exact Nat.le_trans ih (by have := fwM_ge (10 + (i + d)) (fwA (i + d)) 0 7; rw [Nat.zero_add] at this; exact this)
theorem fw_le {i a k : Nat} (hi : i < 712) (ha : a < 7) (hk : a + k ≤ 7) : (fwN (10 + i) a k (fwM (10 + i) a (fwA i))).length ≤ 48 := by
  have h1 := fwN_ge (10 + i) a (fwM (10 + i) a (fwA i)) k (7 - a - k)
  rw [show k + (7 - a - k) = 7 - a by omega] at h1
  have h2 := fwM_ge (10 + i) (fwA i) (a + 1) (7 - (a + 1))
  rw [show a + 1 + (7 - (a + 1)) = 7 by omega] at h2
  have h3 := fwA_ge (i + 1) (712 - (i + 1))
  rw [show i + 1 + (712 - (i + 1)) = 712 by omega, fwA_all] at h3
  have h4 : wayT.length = 48 := by decide +kernel
  have h5 : (fwN (10 + i) a (7 - a) (fwM (10 + i) a (fwA i))).length = (fwM (10 + i) (a + 1) (fwA i)).length := rfl
  have h6 : (fwM (10 + i) 7 (fwA i)).length = (fwA (i + 1)).length := rfl
  omega
theorem SWT_e (j : Nat) : SWT j = ab ((if tS (j / 144) = 0 then hW (tM (j / 144)) (j % 12) * hW (tN (j / 144)) (j % 144 / 12) + hW (tN (j / 144)) (j % 12) * hW (tM (j / 144)) (j % 144 / 12) else hW (tM (j / 144)) (j % 12) * hW (tN (j / 144)) (j % 144 / 12) - hW (tN (j / 144)) (j % 12) * hW (tM (j / 144)) (j % 144 / 12)) / nI 100) := by
  simp only [SWT, SW]; rw [show j % 144 % 12 = j % 12 by omega]
theorem RM_init {F : Nat → Int32} (hF : ∀ j, F j = if j < 144 then nI 5 else 0) : RM (upd (upd (upd (upd (upd (upd F 148 (nI 720)) 144 (nI 20)) 145 (nI 60)) 146 (nI 15)) 147 (nI 150)) 153 (-5)) SV0 := by
  have hz : ∀ j, 144 ≤ j → F j = 0 := fun j hj => by rw [hF, if_neg (by omega)]
  refine ⟨fun p hp => ?_, fun k hk => ?_, ?_, ?_, ?_, ?_, ?_, ?_, ?_, fun c hc => ?_, ?_, fun k hk => ?_⟩
  · rw [pk_un (by omega), pk_un (by omega), pk_un (by omega), pk_un (by omega), pk_un (by omega), pk_un (by omega), hF, if_pos hp]
    show nI 5 = nI (cvf (fun _ => 0) 5 144 p)
    rw [cvf_at _ _ _ _ hp]
  · show _ = va_cpy zF (nf (fun _ => 0)) 0 0 4 k
    rw [cpy_all hk]
    rcases (show k = 0 ∨ k = 1 ∨ k = 2 ∨ k = 3 by omega) with rfl | rfl | rfl | rfl
    · rw [pk_un (by omega), pk_un (by omega), pk_un (by omega), pk_un (by omega)]; exact pk_us
    · rw [pk_un (by omega), pk_un (by omega), pk_un (by omega)]; exact pk_us
    · rw [pk_un (by omega), pk_un (by omega)]; exact pk_us
    · rw [pk_un (by omega)]; exact pk_us
  · rw [pk_un (by omega), pk_un (by omega), pk_un (by omega), pk_un (by omega), pk_un (by omega), pk_us]; rfl
  · rw [pk_un (by omega), pk_un (by omega), pk_un (by omega), pk_un (by omega), pk_un (by omega), pk_un (by omega), hz _ (by omega)]; exact nI_0.symm
  · rw [pk_un (by omega), pk_un (by omega), pk_un (by omega), pk_un (by omega), pk_un (by omega), pk_un (by omega), hz _ (by omega)]; exact nI_0.symm
  · rw [pk_un (by omega), pk_un (by omega), pk_un (by omega), pk_un (by omega), pk_un (by omega), pk_un (by omega), hz _ (by omega)]; exact nI_0.symm
  · rw [pk_un (by omega), pk_un (by omega), pk_un (by omega), pk_un (by omega), pk_un (by omega), pk_un (by omega), hz _ (by omega)]; exact nI_0.symm
  · rw [pk_us]; exact laM_m1.symm
  · rw [pk_un (by omega), pk_un (by omega), pk_un (by omega), pk_un (by omega), pk_un (by omega), pk_un (by omega), hz _ (by omega)]; exact nI_0.symm
  · exact absurd hc (Nat.not_lt_zero c)
  · rw [pk_un (by omega), pk_un (by omega), pk_un (by omega), pk_un (by omega), pk_un (by omega), pk_un (by omega), hz _ (by omega)]; exact nI_0.symm
  · exact absurd hk (Nat.not_lt_zero k)
