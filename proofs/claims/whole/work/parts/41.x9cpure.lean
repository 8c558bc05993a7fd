/-! the twin: bowings struck, strokes, pieces played -/
def rmf (f : Nat → Nat) (d : Nat) : Nat → Nat := fun j => if j < d then f j else f (j + 1)
def rmS (s : SV) (d : Nat) : SV := s_pc s (rmf (sv_fs s) d) (rmf (sv_fa s) d) (rmf (sv_fk s) d) (sv_ps s - 1)
theorem RM_rm {M : Nat → Int32} {s : SV} (h : RM M s) {d : Nat} (hd : d < sv_ps s) (hp : sv_ps s ≤ 16) (hn : sv_nc s ≤ 4) : RM (shf (upd M 159 (nI (sv_ps s - 1))) (160 + 3 * d) 3 (3 * (sv_ps s - 1 - d))) (rmS s d) := by
  obtain ⟨h1, h2, h3, h4, h5, h6, h7, h8, h9, h10, h11, h12⟩ := h
  refine ⟨fun p hp => ?_, fun k hk => ?_, ?_, ?_, ?_, ?_, ?_, ?_, ?_, fun c hc => ?_, ?_, fun k hk => ?_⟩
  · rw [shf_lo (by omega), pk_un (by omega)]; exact h1 p hp
  · rw [shf_lo (by omega), pk_un (by omega)]; exact h2 k hk
  · rw [shf_lo (by omega), pk_un (by omega)]; exact h3
  · rw [shf_lo (by omega), pk_un (by omega)]; exact h4
  · rw [shf_lo (by omega), pk_un (by omega)]; exact h5
  · rw [shf_lo (by omega), pk_un (by omega)]; exact h6
  · rw [shf_lo (by omega), pk_un (by omega)]; exact h7
  · rw [shf_lo (by omega), pk_un (by omega)]; exact h8
  · rw [shf_lo (by omega), pk_un (by omega)]; exact h9
  · have hc : c < sv_nc s := hc
    rw [shf_lo (by omega), pk_un (by omega)]; exact h10 c hc
  · rw [shf_lo (by omega), pk_us]; rfl
  · have hk : k < sv_ps s - 1 := hk
    show _ = nI (rmf (sv_fs s) d k) ∧ _ = nI (rmf (sv_fa s) d k) ∧ _ = nI (rmf (sv_fk s) d k)
    by_cases hkd : k < d
    · rw [shf_lo (by omega), shf_lo (by omega), shf_lo (by omega), pk_un (by omega), pk_un (by omega), pk_un (by omega)]
      simp only [rmf]; rw [if_pos hkd, if_pos hkd, if_pos hkd]; exact h12 k (by omega)
    · rw [shf_in (by omega), shf_in (by omega), shf_in (by omega), pk_un (by omega), pk_un (by omega), pk_un (by omega)]
      simp only [rmf]; rw [if_neg hkd, if_neg hkd, if_neg hkd]; exact h12 (k + 1) (by omega)
/-- the bowings at a side go, the last ones first -/
def dsF (s : SV) (x : Nat) : Nat → SV
  | 0 => s
  | m + 1 => if sv_fs s (sv_ps s - 1 - m) = x then rmS (dsF s x m) (sv_ps s - 1 - m) else dsF s x m
theorem dsF_k (s : SV) (x : Nat) : ∀ m, m ≤ sv_ps s → sv_nc (dsF s x m) = sv_nc s ∧ sv_ps s - m ≤ sv_ps (dsF s x m) ∧ sv_ps (dsF s x m) ≤ sv_ps s ∧ ∀ j, j < sv_ps s - m → sv_fs (dsF s x m) j = sv_fs s j := by
  intro m
  induction m with
  | zero => intro _; exact ⟨rfl, Nat.le_refl _, Nat.le_refl _, fun _ _ => rfl⟩
  | succ m ih =>
    intro hm
    obtain ⟨h1, h2, h3, h4⟩ := ih (by omega)
    simp only [dsF]
    split
    · refine ⟨h1, ?_, ?_, fun j hj => ?_⟩
      · show _ ≤ sv_ps (dsF s x m) - 1; omega
      · show sv_ps (dsF s x m) - 1 ≤ _; omega
      · show rmf (sv_fs (dsF s x m)) (sv_ps s - 1 - m) j = _
        simp only [rmf]; rw [if_pos (by omega)]; exact h4 j (by omega)
    · exact ⟨h1, by omega, h3, fun j hj => h4 j (by omega)⟩
/-! the calmest place near by -/
def nbP (p k : Nat) : Option Nat := match k with
  | 0 => rchP (nI (p % 12)) (nI (p / 12) - nI 1)
  | 1 => rchP (nI (p % 12) - nI 1) (nI (p / 12))
  | 2 => rchP (nI (p % 12 + 1)) (nI (p / 12))
  | _ => rchP (nI (p % 12)) (nI (p / 12 + 1))
def cmS (sw : Nat → Int32) (m o : Option Nat) : Option Nat := match o with
  | none => m
  | some q => match m with
    | none => some q
    | some f => if sw q < sw f then some q else some f
def cmO (sw : Nat → Int32) (p : Nat) : Nat → Option Nat
  | 0 => none
  | k + 1 => cmS sw (cmO sw p k) (nbP p k)
theorem cmO_s {sw : Nat → Int32} {p k : Nat} : cmO sw p (k + 1) = cmS sw (cmO sw p k) (nbP p k) := rfl
theorem nbP_lt {p k q : Nat} (h : nbP p k = some q) : q < 144 := by
  match k, h with
  | 0, h => exact rchP_lt h
  | 1, h => exact rchP_lt h
  | 2, h => exact rchP_lt h
  | k + 3, h => exact rchP_lt h
theorem cmS_lt {sw : Nat → Int32} {m o : Option Nat} {q : Nat} (hm : ∀ f, m = some f → f < 144) (ho : ∀ f, o = some f → f < 144) (h : cmS sw m o = some q) : q < 144 := by
  cases o with
  | none => exact hm q h
  | some a =>
    cases m with
    | none => cases h; exact ho _ rfl
    | some f =>
      simp only [cmS] at h
      split at h
      · cases h; exact ho _ rfl
      · cases h; exact hm _ rfl
theorem cmO_lt {sw : Nat → Int32} {p : Nat} : ∀ k q, cmO sw p k = some q → q < 144 := by
  intro k
  induction k with
  | zero => intro q h; cases h
  | succ k ih => intro q h; exact cmS_lt (fun f hf => ih f hf) (fun f hf => nbP_lt hf) h
theorem cmS_some {sw : Nat → Int32} {m : Option Nat} {q : Nat} : ∃ r, cmS sw m (some q) = some r := by
  cases m with
  | none => exact ⟨q, rfl⟩
  | some f => simp only [cmS]; split <;> exact ⟨_, rfl⟩
theorem cmS_keep {sw : Nat → Int32} {o : Option Nat} {f : Nat} : ∃ r, cmS sw (some f) o = some r := by
  cases o with
  | none => exact ⟨f, rfl⟩
  | some q => exact cmS_some
theorem m1_I (a : Nat) : nI (a + 1) - nI 1 = nI a := by rw [pk_sub (by omega)]; rfl
theorem cmO_some {sw : Nat → Int32} {p : Nat} (hp : p < 144) : ∃ f, cmO sw p 4 = some f := by
  simp only [cmO]
  by_cases h : p % 12 = 0
  · -- there is one to the right
    have h2 : nbP p 2 = some (p / 12 * 12 + (p % 12 + 1)) := rchP_s (by omega) (by omega)
    rw [h2]
    obtain ⟨r, hr⟩ := cmS_some (sw := sw) (m := cmS sw (cmS sw none (nbP p 0)) (nbP p 1)) (q := p / 12 * 12 + (p % 12 + 1))
    rw [hr]; exact cmS_keep
  · have h1 : nbP p 1 = some (p / 12 * 12 + (p % 12 - 1)) := by
      show rchP (nI (p % 12) - nI 1) (nI (p / 12)) = _
      rw [pk_sub (by omega)]; exact rchP_s (by omega) (by omega)
    rw [h1]
    obtain ⟨r, hr⟩ := cmS_some (sw := sw) (m := cmS sw none (nbP p 0)) (q := p / 12 * 12 + (p % 12 - 1))
    rw [hr]
    obtain ⟨r2, hr2⟩ := cmS_keep (sw := sw) (o := nbP p 2) (f := r)
    rw [hr2]; exact cmS_keep
def cmN (w p : Nat) : Nat := (cmO (SW w) p 4).getD 0
theorem cmN_lt {w p : Nat} (hp : p < 144) : cmN w p < 144 := by
  obtain ⟨f, hf⟩ := cmO_some (sw := SW w) hp
  simp only [cmN]; rw [hf]; exact cmO_lt 4 f hf
/-- the class's target and the twin's calmest place -/
def tgI (sw : Nat → Int32) (p : Nat) (m : Option Nat) : Nat := match m with
  | none => p
  | some f => if sw f < sw p then f else p
theorem tgI_s {sw : Nat → Int32} {p : Nat} {m o : Option Nat} : clm sw (tgI sw p m) o = tgI sw p (cmS sw m o) := by
  cases o with
  | none => rfl
  | some q =>
    cases m with
    | none => rfl
    | some f =>
      by_cases hf : sw f < sw p
      · have e : tgI sw p (some f) = f := if_pos hf
        rw [e]
        by_cases hq : sw q < sw f
        · have e2 : cmS sw (some f) (some q) = some q := if_pos hq
          have e3 : clm sw f (some q) = q := if_pos hq
          rw [e2, e3]; exact (if_pos (Int32.lt_trans hq hf)).symm
        · have e2 : cmS sw (some f) (some q) = some f := if_neg hq
          have e3 : clm sw f (some q) = f := if_neg hq
          rw [e2, e3, e]
      · have e : tgI sw p (some f) = p := if_neg hf
        rw [e]
        by_cases hq : sw q < sw f
        · have e2 : cmS sw (some f) (some q) = some q := if_pos hq
          rw [e2]; rfl
        · have e2 : cmS sw (some f) (some q) = some f := if_neg hq
          rw [e2, e]; exact if_neg (fun h => hf (Int32.lt_of_le_of_lt (Int32.not_lt.mp hq) h))
theorem tgW_cm {w p : Nat} (hp : p < 144) : tgW w p = if SW w (cmN w p) < SW w p then cmN w p else p := by
  obtain ⟨f, hf⟩ := cmO_some (sw := SW w) hp
  have h1 : tgW w p = tgI (SW w) p (cmO (SW w) p 4) := by
    simp only [tgW, tgF, cmO]
    rw [show p / 12 * 12 + p % 12 = p by omega]
    rw [← tgI_s, ← tgI_s, ← tgI_s, ← tgI_s]; rfl
  have e : cmN w p = f := by simp only [cmN]; rw [hf]; rfl
  rw [h1, hf, e]; rfl
theorem m1_e (x : Int32) : x + (-1) = x - nI 1 := by
  rw [show (-1 : Int32) = -(nI 1) by decide +kernel]; exact (Int32.sub_eq_add_neg x (nI 1)).symm
