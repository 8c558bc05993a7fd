/-! figures: still places, and the lines that they make -/
def stB (s : SV) (w p : Nat) : Bool := decide (SW w p ≤ sv_se s 2)
def gsN (s : SV) (w : Nat) : Nat → Nat
  | 0 => 0
  | n + 1 => if stB s w n = true then gsN s w n + sv_g s n else gsN s w n
abbrev VT : Type := (Nat → Bool) × (Nat → Nat) × Nat
def vO (t : VT) : Nat → Bool := t.1
def vR (t : VT) : Nat → Nat := t.2.1
def vC (t : VT) : Nat := t.2.2
def mkV (o : Nat → Bool) (r : Nat → Nat) (c : Nat) : VT := (o, r, c)
/-- the place at x, y, if there is one -/
def rchP (x y : Int32) : Option Nat := if (rgB x 12 && rgB y 12) = true then some (y.toNatClampNeg * 12 + x.toNatClampNeg) else none
theorem rchP_s {a b : Nat} (ha : a < 12) (hb : b < 12) : rchP (nI a) (nI b) = some (b * 12 + a) := by
  simp only [rchP]
  rw [rgB_t ha (by omega), rgB_t hb (by omega), nI_clamp (by omega), nI_clamp (by omega)]; rfl
theorem rchP_n {x y : Int32} (h : (rgB x 12 && rgB y 12) = false) : rchP x y = none := by simp only [rchP]; rw [h]; rfl
theorem rchP_lt {x y : Int32} {p : Nat} (h : rchP x y = some p) : p < 144 := by
  cases hb : (rgB x 12 && rgB y 12)
  · rw [rchP_n hb] at h; cases h
  · rw [Bool.and_eq_true] at hb
    obtain ⟨a, ha, rfl⟩ := (rgB_iff (by omega)).mp hb.1
    obtain ⟨b, hb', rfl⟩ := (rgB_iff (by omega)).mp hb.2
    rw [rchP_s ha hb'] at h
    cases h; omega
def visit (o : Option Nat) (t : VT) : VT := match o with
  | some p => if vO t p = true ∧ vC t < 144 then mkV (upf (vO t) p false) (upf (vR t) (vC t) p) (vC t + 1) else t
  | none => t
def vis4 (t : VT) (q : Nat) : VT := visit (rchP (nI (q % 12)) (nI (q / 12 + 1))) (visit (rchP (nI (q % 12 + 1)) (nI (q / 12))) (visit (rchP (nI (q % 12) - nI 1) (nI (q / 12))) (visit (rchP (nI (q % 12)) (nI (q / 12) - nI 1)) t)))
def bfs : Nat → VT → Nat → VT
  | 0, t, _ => t
  | f + 1, t, k => if k < vC t ∧ k < 144 then bfs f (vis4 t (vR t k)) (k + 1) else t
def clF (t : VT) (p : Nat) : VT := bfs 145 (visit (rchP (nI (p % 12)) (nI (p / 12))) (mkV (vO t) (vR t) 0)) 0
def rOk (t : VT) : Prop := ∀ j, j < vC t → vR t j < 144
theorem visit_ok {o : Option Nat} {t : VT} (ho : ∀ p, o = some p → p < 144) (h : rOk t) : rOk (visit o t) := by
  cases o with
  | none => exact h
  | some p =>
    simp only [visit]
    split
    · intro j hj
      show upf (vR t) (vC t) p j < 144
      have hj' : j < vC t + 1 := hj
      by_cases hjc : j = vC t
      · subst hjc; rw [upf_s]; exact ho p rfl
      · rw [upf_n hjc]; exact h j (by omega)
    · exact h
theorem vis4_ok {t : VT} {q : Nat} (h : rOk t) : rOk (vis4 t q) := visit_ok (fun _ h => rchP_lt h) (visit_ok (fun _ h => rchP_lt h) (visit_ok (fun _ h => rchP_lt h) (visit_ok (fun _ h => rchP_lt h) h)))
theorem visit_c {o : Option Nat} {t : VT} (h : vC t ≤ 144) : vC (visit o t) ≤ 144 := by
  cases o with
  | none => exact h
  | some p =>
    simp only [visit]
    split
    · show vC t + 1 ≤ 144
      omega
    · exact h
theorem vis4_c {t : VT} {q : Nat} (h : vC t ≤ 144) : vC (vis4 t q) ≤ 144 := visit_c (visit_c (visit_c (visit_c h)))
theorem vlt {c : Nat} (h : c ≤ 144) : c < 1073741824 := by omega
theorem bfs_s {t : VT} {k : Nat} (hk : k < 144) (h : k < vC t) : bfs (145 - k) t k = bfs (145 - (k + 1)) (vis4 t (vR t k)) (k + 1) := by
  rw [show 145 - k = (145 - (k + 1)) + 1 by omega]
  simp only [bfs]
  rw [if_pos ⟨h, hk⟩]
theorem bfs_e {t : VT} {k : Nat} (hk : k ≤ 144) (h : ¬ (k < vC t ∧ k < 144)) : bfs (145 - k) t k = t := by
  rw [show 145 - k = (144 - k) + 1 by omega]
  simp only [bfs]
  rw [if_neg h]
def lnF (s : SV) (w : Nat) (r : Nat → Nat) (c : Nat) : Nat → VT × Nat
  | 0 => (mkV (fun p => stB s w p) r c, 0)
  | n + 1 => if vO (lnF s w r c n).1 n = true then (clF (lnF s w r c n).1 n, (lnF s w r c n).2 + 1) else lnF s w r c n
