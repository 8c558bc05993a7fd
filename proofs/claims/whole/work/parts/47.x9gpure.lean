/-! the twin: what is told -/
theorem laM_m1 : laM (-1) = -5 := by decide +kernel
theorem laM_n {w : Nat} (h : w < 48) : laM (nI w) = nI w := by simp only [laM]; rw [if_neg (nI_pos (by omega))]
def vsN (t : VT) (q : Nat) : Nat → VT
  | 0 => t
  | j + 1 => visit (nbP q j) (vsN t q j)
theorem vs4 (t : VT) (q : Nat) : vsN t q 4 = vis4 t q := rfl
theorem visit_r {o : Option Nat} {t : VT} {k : Nat} (h : k < vC t) : vR (visit o t) k = vR t k := by
  cases o with
  | none => rfl
  | some p =>
    simp only [visit]
    split
    · show upf (vR t) (vC t) p k = vR t k
      rw [upf_n (by omega)]
    · rfl
theorem visit_cle {o : Option Nat} {t : VT} : vC t ≤ vC (visit o t) := by
  cases o with
  | none => exact Nat.le_refl _
  | some p =>
    simp only [visit]
    split
    · exact Nat.le_succ _
    · exact Nat.le_refl _
theorem cntB_upf {o : Nat → Bool} {p n : Nat} (hp : p < n) (h : o p = true) : cntB (upf o p false) n + 1 = cntB o n := by
  induction n with
  | zero => omega
  | succ n ih =>
    simp only [cntB]
    by_cases hpn : p = n
    · subst hpn
      rw [upf_s, h]
      have : ∀ m, m ≤ p → cntB (upf o p false) m = cntB o m := by
        intro m
        induction m with
        | zero => intro _; rfl
        | succ m ihm => intro hm; simp only [cntB]; rw [ihm (by omega), upf_n (by omega)]
      rw [this p (Nat.le_refl _)]; rfl
    · rw [upf_n (fun e => hpn e.symm)]
      have := ih (by omega)
      omega
def capV (t : VT) : Prop := vC t + cntB (vO t) 144 ≤ 144
theorem cap_lt {t : VT} {p : Nat} (h : capV t) (hp : p < 144) (ho : vO t p = true) : vC t < 144 := by
  have h1 := cntB_upf hp ho
  simp only [capV] at h
  omega
theorem cap_visit {o : Option Nat} {t : VT} (ho : ∀ p, o = some p → p < 144) (h : capV t) : capV (visit o t) := by
  cases o with
  | none => exact h
  | some p =>
    simp only [visit]
    split
    · rename_i hh
      have h1 := cntB_upf (ho p rfl) hh.1
      simp only [capV] at h ⊢
      show vC t + 1 + cntB (upf (vO t) p false) 144 ≤ 144
      omega
    · exact h
theorem nv_upf (o : Nat → Bool) (q : Nat) : upf (fun p => !o p) q true = fun p => !(upf o q false) p := by
  funext j
  by_cases h : j = q
  · subst h; simp [upf]
  · simp [upf, h]
theorem visit_t {t : VT} {p : Nat} (ho : vO t p = true) (hc : vC t < 144) : visit (some p) t = mkV (upf (vO t) p false) (upf (vR t) (vC t) p) (vC t + 1) := by
  simp only [visit]; rw [if_pos ⟨ho, hc⟩]
theorem visit_f {t : VT} {p : Nat} (ho : vO t p = false) : visit (some p) t = t := by
  simp only [visit]; rw [if_neg (by rw [ho]; simp)]
theorem cntB_all (o : Nat → Bool) (n : Nat) : cntB o n ≤ n := cntB_le o n
theorem clF_0 {t : VT} {p : Nat} (hp : p < 144) (ho : vO t p = true) : clF t p = bfs 145 (mkV (upf (vO t) p false) (upf (vR t) 0 p) 1) 0 := by
  simp only [clF]
  rw [rchP_s (by omega) (by omega), show p / 12 * 12 + p % 12 = p by omega, visit_t (t := mkV (vO t) (vR t) 0) ho (by show 0 < 144; omega)]
  rfl
theorem lnF_le (s : SV) (w : Nat) (r : Nat → Nat) (c n : Nat) : (lnF s w r c n).2 ≤ n := by
  induction n with
  | zero => exact Nat.le_refl _
  | succ n ih =>
    simp only [lnF]
    split
    · show _ + 1 ≤ n + 1; omega
    · omega
