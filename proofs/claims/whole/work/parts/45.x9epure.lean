/-! the twin reads a text -/
def chV (tx : Nat → Nat) (ty ta : Nat) : Nat := if ta < ty then tx ta else 0
def sgW (tx : Nat → Nat) (ty ta : Nat) (iw : Bool) (lo hi : Nat) : Bool := iw || !decide (lo ≤ chV tx ty ta ∧ chV tx ty ta ≤ hi)
def sgA (tx : Nat → Nat) (ty ta : Nat) (iw : Bool) (lo hi : Nat) : Nat := if sgW tx ty ta iw lo hi = true then ta else ta + 1
theorem sg_w {tx : Nat → Nat} {ty ta lo hi : Nat} : sgW tx ty ta true lo hi = true ∧ sgA tx ty ta true lo hi = ta := ⟨rfl, rfl⟩
theorem sg_t {tx : Nat → Nat} {ty ta lo hi : Nat} (h0 : 0 < lo) (h : sgW tx ty ta false lo hi = false) : ta < ty ∧ lo ≤ tx ta ∧ tx ta ≤ hi ∧ chV tx ty ta = tx ta ∧ sgA tx ty ta false lo hi = ta + 1 := by
  have h1 : lo ≤ chV tx ty ta ∧ chV tx ty ta ≤ hi := by
    simp only [sgW, Bool.false_or] at h
    exact of_decide_eq_true (by cases hd : decide (lo ≤ chV tx ty ta ∧ chV tx ty ta ≤ hi); (rw [hd] at h; cases h); rfl)
  have h2 : ta < ty := by
    by_cases hh : ta < ty
    · exact hh
    · exfalso
      have e : chV tx ty ta = 0 := by simp only [chV]; rw [if_neg hh]
      omega
  have e : chV tx ty ta = tx ta := by simp only [chV]; rw [if_pos h2]
  rw [e] at h1
  exact ⟨h2, h1.1, h1.2, e, by simp only [sgA]; rw [h]; rfl⟩
theorem sg_f {tx : Nat → Nat} {ty ta lo hi : Nat} (h : sgW tx ty ta false lo hi = true) : ¬ (ta < ty ∧ lo ≤ tx ta ∧ tx ta ≤ hi) ∧ sgA tx ty ta false lo hi = ta := by
  refine ⟨fun hh => ?_, by simp only [sgA]; rw [h]; rfl⟩
  have e : chV tx ty ta = tx ta := by simp only [chV]; rw [if_pos hh.1]
  simp only [sgW, Bool.false_or] at h
  rw [e, decide_eq_true hh.2] at h
  cases h
theorem sg_ok {tx : Nat → Nat} {ty ta lo hi : Nat} (h1 : ta < ty) (h2 : lo ≤ tx ta) (h3 : tx ta ≤ hi) : sgW tx ty ta false lo hi = false ∧ sgA tx ty ta false lo hi = ta + 1 ∧ chV tx ty ta = tx ta := by
  have e : chV tx ty ta = tx ta := by simp only [chV]; rw [if_pos h1]
  have w : sgW tx ty ta false lo hi = false := by simp only [sgW]; rw [e, decide_eq_true ⟨h2, h3⟩]; rfl
  exact ⟨w, by simp only [sgA]; rw [w]; rfl, e⟩
theorem dg_s {tx : Nat → Nat} {ty c : Nat} (h1 : c < ty) (h2 : 48 ≤ tx c) (h3 : tx c ≤ 57) : dgO (chO tx ty c) = some (tx c - 48) := by
  rw [chO_s h1]; simp only [dgO]; rw [if_pos ⟨h2, h3⟩]
theorem dg_n {tx : Nat → Nat} {ty c : Nat} (h : ¬ (c < ty ∧ 48 ≤ tx c ∧ tx c ≤ 57)) : dgO (chO tx ty c) = none := by
  by_cases h1 : c < ty
  · rw [chO_s h1]; simp only [dgO]; rw [if_neg (fun hh => h ⟨h1, hh⟩)]
  · rw [chO_n h1]; rfl
theorem rdN_n {tx : Nat → Nat} {ty c lo hi : Nat} (hlo : lo ≤ 1) (h : ¬ (c < ty ∧ 48 + lo ≤ tx c ∧ tx c ≤ 57)) : rdN tx ty c lo hi = (none, c) := by
  simp only [rdN]
  by_cases h1 : c < ty ∧ 48 ≤ tx c ∧ tx c ≤ 57
  · rw [dg_s h1.1 h1.2.1 h1.2.2]
    dsimp only
    rw [if_pos (by omega)]
  · rw [dg_n h1]
theorem rdN_1 {tx : Nat → Nat} {ty c lo hi : Nat} (h1 : c < ty) (h2 : 48 + lo ≤ tx c) (h3 : tx c ≤ 57) (h : tx c - 48 = 0 ∨ ¬ (c + 1 < ty ∧ 48 ≤ tx (c + 1) ∧ tx (c + 1) ≤ 57) ∨ hi < (tx c - 48) * 10 + (tx (c + 1) - 48)) : rdN tx ty c lo hi = (some (tx c - 48), c + 1) := by
  simp only [rdN]
  rw [dg_s h1 (by omega) h3]
  dsimp only
  rw [if_neg (by omega)]
  by_cases h0 : tx c - 48 = 0
  · rw [if_pos h0, h0]
  · rw [if_neg h0]
    by_cases hn : c + 1 < ty ∧ 48 ≤ tx (c + 1) ∧ tx (c + 1) ≤ 57
    · rw [dg_s hn.1 hn.2.1 hn.2.2]
      dsimp only
      rw [if_pos (by omega)]
    · rw [dg_n hn]
theorem rdN_2 {tx : Nat → Nat} {ty c lo hi : Nat} (h1 : c < ty) (h2 : 48 + lo ≤ tx c) (h3 : tx c ≤ 57) (h0 : 0 < tx c - 48) (hn : c + 1 < ty ∧ 48 ≤ tx (c + 1) ∧ tx (c + 1) ≤ 57) (hh : (tx c - 48) * 10 + (tx (c + 1) - 48) ≤ hi) : rdN tx ty c lo hi = (some ((tx c - 48) * 10 + (tx (c + 1) - 48)), c + 2) := by
  simp only [rdN]
  rw [dg_s h1 (by omega) h3]
  dsimp only
  rw [if_neg (by omega), if_neg (by omega), dg_s hn.1 hn.2.1 hn.2.2]
  dsimp only
  rw [if_neg (by omega)]
theorem apf_u {f g : Nat → Nat} {n i x : Nat} : upf (apf f g n i) (n + i) x = apf f (upf g i x) n (i + 1) := by
  funext j
  by_cases h : j = n + i
  · subst h; simp only [upf, apf]; rw [if_pos trivial, if_pos (by omega), if_pos (by omega)]
  · simp only [upf, apf]; rw [if_neg h]
    by_cases h2 : n ≤ j ∧ j < n + i
    · rw [if_pos h2, if_pos (by omega), if_neg (by omega)]
    · rw [if_neg h2, if_neg (by omega)]
def apS (s : SV) (fs fa fk : Nat → Nat) (i : Nat) : SV := s_pc s (apf (sv_fs s) fs (sv_ps s) i) (apf (sv_fa s) fa (sv_ps s) i) (apf (sv_fk s) fk (sv_ps s) i) (sv_ps s + i)
theorem apS_0 {M : Nat → Int32} {s : SV} {fs fa fk : Nat → Nat} (h : RM M s) : RM M (apS s fs fa fk 0) := by
  simp only [apS]; rw [apf_0, apf_0, apf_0]; exact h
theorem rdP_B0 {tx : Nat → Nat} {ty f c c1 n : Nat} {fs fa fk : Nat → Nat} (h : rdB tx ty c = (none, c1)) : rdP tx ty (f + 1) c fs fa fk n = (false, c1, fs, fa, fk, n) := by
  simp only [rdP]; rw [h]
theorem rdP_Be {tx : Nat → Nat} {ty f c c1 n sd al k : Nat} {fs fa fk : Nat → Nat} (h : rdB tx ty c = (some (sd, al, k), c1)) (h2 : ¬ c1 < ty) : rdP tx ty (f + 1) c fs fa fk n = (true, c1, upf fs n sd, upf fa n al, upf fk n k, n + 1) := by
  simp only [rdP]; rw [h]; dsimp only; rw [chO_n h2]
theorem rdP_Bc {tx : Nat → Nat} {ty f c c1 n sd al k : Nat} {fs fa fk : Nat → Nat} (h : rdB tx ty c = (some (sd, al, k), c1)) (h2 : c1 < ty) (h3 : tx c1 = 44) : rdP tx ty (f + 1) c fs fa fk n = rdP tx ty f (c1 + 1) (upf fs n sd) (upf fa n al) (upf fk n k) (n + 1) := by
  simp only [rdP]; rw [h]; dsimp only; rw [chO_s h2]; dsimp only; rw [if_pos h3]
theorem rdP_Bn {tx : Nat → Nat} {ty f c c1 n sd al k : Nat} {fs fa fk : Nat → Nat} (h : rdB tx ty c = (some (sd, al, k), c1)) (h2 : c1 < ty) (h3 : ¬ tx c1 = 44) : rdP tx ty (f + 1) c fs fa fk n = (false, c1, upf fs n sd, upf fa n al, upf fk n k, n + 1) := by
  simp only [rdP]; rw [h]; dsimp only; rw [chO_s h2]; dsimp only; rw [if_neg h3]
theorem rdB_0 {tx : Nat → Nat} {ty c : Nat} (h : sdO (chO tx ty c) = none) : rdB tx ty c = (none, c) := by simp only [rdB]; rw [h]
theorem rdB_1 {tx : Nat → Nat} {ty c sd c1 : Nat} (h : sdO (chO tx ty c) = some sd) (h2 : rdN tx ty (c + 1) 0 11 = (none, c1)) : rdB tx ty c = (none, c1) := by simp only [rdB]; rw [h]; dsimp only; rw [h2]
theorem rdB_2 {tx : Nat → Nat} {ty c sd al c1 : Nat} (h : sdO (chO tx ty c) = some sd) (h2 : rdN tx ty (c + 1) 0 11 = (some al, c1)) (h3 : ¬ (c1 < ty ∧ tx c1 = 120)) : rdB tx ty c = (some (sd, al, 1), c1) := by
  simp only [rdB]; rw [h]; dsimp only; rw [h2]; dsimp only
  rw [if_neg (fun e => h3 ?_)]
  by_cases hc : c1 < ty
  · rw [chO_s hc] at e; exact ⟨hc, Option.some.inj e⟩
  · rw [chO_n hc] at e; cases e
theorem rdB_3 {tx : Nat → Nat} {ty c sd al c1 c2 : Nat} (h : sdO (chO tx ty c) = some sd) (h2 : rdN tx ty (c + 1) 0 11 = (some al, c1)) (h3 : c1 < ty) (h4 : tx c1 = 120) (h5 : rdN tx ty (c1 + 1) 1 20 = (none, c2)) : rdB tx ty c = (none, c2) := by
  simp only [rdB]; rw [h]; dsimp only; rw [h2]; dsimp only
  rw [if_pos (by rw [chO_s h3, h4]), h5]
theorem rdB_4 {tx : Nat → Nat} {ty c sd al k c1 c2 : Nat} (h : sdO (chO tx ty c) = some sd) (h2 : rdN tx ty (c + 1) 0 11 = (some al, c1)) (h3 : c1 < ty) (h4 : tx c1 = 120) (h5 : rdN tx ty (c1 + 1) 1 20 = (some k, c2)) : rdB tx ty c = (some (sd, al, k), c2) := by
  simp only [rdB]; rw [h]; dsimp only; rw [h2]; dsimp only
  rw [if_pos (by rw [chO_s h3, h4]), h5]
theorem rdP_mono {tx : Nat → Nat} {ty : Nat} : ∀ (f c : Nat) (fs fa fk : Nat → Nat) (n : Nat), n ≤ (rdP tx ty f c fs fa fk n).2.2.2.2.2 := by
  intro f
  induction f with
  | zero => intro c fs fa fk n; exact Nat.le_refl _
  | succ f ih =>
    intro c fs fa fk n
    simp only [rdP]
    split
    · exact Nat.le_refl _
    · split
      · exact Nat.le_succ n
      · split
        · exact Nat.le_trans (Nat.le_succ n) (ih _ _ _ _ _)
        · exact Nat.le_succ n
theorem rdP_ge {tx : Nat → Nat} {ty : Nat} {f c : Nat} {fs fa fk : Nat → Nat} {n : Nat} (h : (rdP tx ty f c fs fa fk n).1 = true) : n + 1 ≤ (rdP tx ty f c fs fa fk n).2.2.2.2.2 := by
  cases f with
  | zero => cases h
  | succ f =>
    revert h
    simp only [rdP]
    split
    · intro h; cases h
    · split
      · intro _; exact Nat.le_refl _
      · split
        · intro _; exact rdP_mono _ _ _ _ _ _
        · intro h; cases h
