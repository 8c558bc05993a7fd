/-! the twin: how its row of numbers holds a state -/
def SWT : Nat → Int32 := fun j => SW (j / 144) (j % 144)
theorem SWT_at {w p : Nat} (h : p < 144) : SWT (144 * w + p) = SW w p := by
  simp only [SWT]; rw [show (144 * w + p) / 144 = w by omega, show (144 * w + p) % 144 = p by omega]
def RM (M : Nat → Int32) (s : SV) : Prop := (∀ p, p < 144 → M p = nI (sv_g s p)) ∧ (∀ k, k < 4 → M (144 + k) = sv_se s k) ∧ M 148 = sv_st s ∧ M 149 = sv_sw s ∧ M 150 = sv_fl s ∧ M 151 = sv_sk s ∧ M 152 = sv_mu s ∧ M 153 = laM (sv_la s) ∧ M 154 = nI (sv_nc s) ∧ (∀ c, c < sv_nc s → M (155 + c) = nI (12 * sv_cr s c + sv_cc s c)) ∧ M 159 = nI (sv_ps s) ∧ ∀ k, k < sv_ps s → M (160 + 3 * k) = nI (sv_fs s k) ∧ M (160 + 3 * k + 1) = nI (sv_fa s k) ∧ M (160 + 3 * k + 2) = nI (sv_fk s k)
section RMx
variable {M : Nat → Int32} {s : SV}
theorem RM_g (h : RM M s) {p : Nat} (hp : p < 144) : M p = nI (sv_g s p) := h.1 p hp
theorem RM_se (h : RM M s) {k : Nat} (hk : k < 4) : M (144 + k) = sv_se s k := h.2.1 k hk
theorem RM_st (h : RM M s) : M 148 = sv_st s := h.2.2.1
theorem RM_sw (h : RM M s) : M 149 = sv_sw s := h.2.2.2.1
theorem RM_fl (h : RM M s) : M 150 = sv_fl s := h.2.2.2.2.1
theorem RM_sk (h : RM M s) : M 151 = sv_sk s := h.2.2.2.2.2.1
theorem RM_mu (h : RM M s) : M 152 = sv_mu s := h.2.2.2.2.2.2.1
theorem RM_la (h : RM M s) : M 153 = laM (sv_la s) := h.2.2.2.2.2.2.2.1
theorem RM_nc (h : RM M s) : M 154 = nI (sv_nc s) := h.2.2.2.2.2.2.2.2.1
theorem RM_cl (h : RM M s) {c : Nat} (hc : c < sv_nc s) : M (155 + c) = nI (12 * sv_cr s c + sv_cc s c) := h.2.2.2.2.2.2.2.2.2.1 c hc
theorem RM_ps (h : RM M s) : M 159 = nI (sv_ps s) := h.2.2.2.2.2.2.2.2.2.2.1
theorem RM_b (h : RM M s) {k : Nat} (hk : k < sv_ps s) : M (160 + 3 * k) = nI (sv_fs s k) ∧ M (160 + 3 * k + 1) = nI (sv_fa s k) ∧ M (160 + 3 * k + 2) = nI (sv_fk s k) := h.2.2.2.2.2.2.2.2.2.2.2 k hk
theorem RM_g0 (h : RM M s) {p : Nat} (hp : p < 144) : M (0 + p) = nI (sv_g s p) := by rw [Nat.zero_add]; exact RM_g h hp
theorem RM_s0 (h : RM M s) : M 144 = sv_se s 0 := RM_se h (k := 0) (by omega)
theorem RM_s1 (h : RM M s) : M 145 = sv_se s 1 := RM_se h (k := 1) (by omega)
theorem RM_s2 (h : RM M s) : M 146 = sv_se s 2 := RM_se h (k := 2) (by omega)
theorem RM_s3 (h : RM M s) : M 147 = sv_se s 3 := RM_se h (k := 3) (by omega)
end RMx
def inI (x lo hi : Int32) : Bool := decide (lo ≤ x) && decide (x ≤ hi)
theorem inI_r (x : Int32) {k : Nat} (hk : k < 2147483647) : inI x (nI 0) (nI k) = rgB x (k + 1) := by
  rcases ix_c x (n := k + 1) (by omega) with (h | h) | ⟨j, hj, rfl⟩
  · rw [rgB_neg h]; simp only [inI]; rw [show nI 0 = (0 : Int32) from rfl, decide_eq_false (Int32.not_le.mpr h)]; rfl
  · rw [rgB_ge h]; simp only [inI]
    have h2 : ¬ x ≤ nI k := fun h3 => by
      have h4 := Int32.le_trans h h3
      rw [nI_leI (by omega) (by omega)] at h4; omega
    rw [decide_eq_false h2]; simp
  · rw [rgB_t hj (by omega)]; simp only [inI]
    rw [decide_eq_true (nI_le (Nat.zero_le _) (by omega)), decide_eq_true (nI_le (by omega) (by omega))]; rfl
theorem inI_N {x lo hi : Nat} (hx : x < 2147483648) (hl : lo < 2147483648) (hh : hi < 2147483648) : inI (nI x) (nI lo) (nI hi) = decide (lo ≤ x ∧ x ≤ hi) := by
  simp only [inI]
  by_cases h1 : lo ≤ x
  · by_cases h2 : x ≤ hi
    · rw [decide_eq_true ((nI_leI hl hx).mpr h1), decide_eq_true ((nI_leI hx hh).mpr h2), decide_eq_true (⟨h1, h2⟩ : lo ≤ x ∧ x ≤ hi)]; rfl
    · rw [decide_eq_false (fun h => h2 ((nI_leI hx hh).mp h)), decide_eq_false (fun h : lo ≤ x ∧ x ≤ hi => h2 h.2)]; simp
  · rw [decide_eq_false (fun h => h1 ((nI_leI hl hx).mp h)), decide_eq_false (fun h : lo ≤ x ∧ x ≤ hi => h1 h.1)]; rfl
theorem inI_f {x lo hi : Int32} (h : x < lo ∨ hi < x) : inI x lo hi = false := by
  simp only [inI]
  rcases h with h | h
  · rw [decide_eq_false (Int32.not_le.mpr h)]; rfl
  · rw [decide_eq_false (Int32.not_le.mpr h)]; simp
theorem inI_t {x lo hi : Int32} (h1 : lo ≤ x) (h2 : x ≤ hi) : inI x lo hi = true := by
  simp only [inI]; rw [decide_eq_true h1, decide_eq_true h2]; rfl
theorem ab_e (x : Int32) : ab x = if x < 0 then -x else x := by
  simp only [ab]
  by_cases h : x < 0
  · rw [if_pos h, if_neg (Int32.not_le.mpr h)]; exact Int32.zero_sub x
  · rw [if_neg h, if_pos (Int32.not_lt.mp h)]
/-- whether one of the first n clamps holds a way -/
def hdB (s : SV) (w : Nat) : Nat → Bool
  | 0 => false
  | n + 1 => hdB s w n || !decide (SW w (12 * sv_cr s n + sv_cc s n) ≤ sv_se s 0)
theorem hdB_f {s : SV} {w n : Nat} : hdB s w n = false ↔ ∀ c, c < n → (!decide (SW w (12 * sv_cr s c + sv_cc s c) ≤ sv_se s 0)) = false := by
  induction n with
  | zero => simp [hdB]
  | succ n ih =>
    simp only [hdB, Bool.or_eq_false_iff]
    rw [ih]
    constructor
    · intro ⟨h1, h2⟩ c hc
      by_cases hcn : c = n
      · subst hcn; exact h2
      · exact h1 c (by omega)
    · intro h
      exact ⟨fun c hc => h c (by omega), h n (by omega)⟩
theorem hdB_cl (s : SV) (w : Nat) : hdB s w (sv_nc s) = !clB s w := by
  cases h : hdB s w (sv_nc s)
  · rw [clB_t (hdB_f.mp h)]; rfl
  · cases hc : clB s w
    · rfl
    · exfalso
      have h1 : fdB (fun c => !decide (SW w (12 * sv_cr s c + sv_cc s c) ≤ sv_se s 0)) (sv_nc s) = none := by
        simp only [clB] at hc
        exact Option.isNone_iff_eq_none.mp hc
      have h2 := hdB_f.mpr (fdB_none.mp h1)
      rw [h2] at h; cases h
def psO (s : SV) (w : Nat) : Nat → Bool
  | 0 => false
  | n + 1 => psO s w n || decide (wyO s (bpN (n / 12) (n % 12)) = some w)
theorem psO_t {s : SV} {w n : Nat} : psO s w n = true ↔ ∃ k, k < n ∧ wyO s (bpN (k / 12) (k % 12)) = some w := by
  induction n with
  | zero => simp [psO]
  | succ n ih =>
    simp only [psO, Bool.or_eq_true, decide_eq_true_eq]
    rw [ih]
    constructor
    · rintro (⟨k, hk, h⟩ | h)
      · exact ⟨k, by omega, h⟩
      · exact ⟨n, by omega, h⟩
    · rintro ⟨k, hk, h⟩
      by_cases hkn : k = n
      · subst hkn; exact Or.inr h
      · exact Or.inl ⟨k, by omega, h⟩
theorem psO_up {s : SV} {w n m : Nat} (h : psO s w n = true) (hm : n ≤ m) : psO s w m = true := by
  obtain ⟨k, hk, hh⟩ := psO_t.mp h
  exact psO_t.mpr ⟨k, by omega, hh⟩
theorem orN_eq {o : Option Nat} {w : Nat} (ho : ∀ k, o = some k → k < 2147483648) (hw : w < 2147483648) : orN o = nI w ↔ o = some w := by
  cases o with
  | none =>
    simp only [orN, reduceCtorEq, iff_false]
    intro h
    have h2 : (-5 : Int32).toInt = (nI w).toInt := by rw [h]
    rw [nI_toInt hw] at h2
    have h3 : (-5 : Int32).toInt = -5 := by decide +kernel
    omega
  | some k => simp only [orN, Option.some.injEq]; exact nI_eq (ho k rfl) hw
theorem orN_5 {o : Option Nat} (ho : ∀ k, o = some k → k < 2147483648) : orN o = -5 ↔ o = none := by
  cases o with
  | none => simp [orN]
  | some k =>
    simp only [orN, reduceCtorEq, iff_false]
    intro h2
    have h3 : (nI k).toInt = (-5 : Int32).toInt := by rw [h2]
    rw [nI_toInt (ho k rfl)] at h3
    have h4 : (-5 : Int32).toInt = -5 := by decide +kernel
    omega
theorem wy_lt {s : SV} {p : Nat} : ∀ k, wyO s p = some k → k < 2147483648 := fun _ hk => Nat.lt_trans (wyO_lt hk) (by decide)
