/-! texts: what is read at a place -/
theorem cf_upd {f : Nat → Nat} {k x : Nat} (h : x < 65536) : upd (nf f) k (vp_nar .char (nI x)) = nf (upf f k x) := by
  have e : vp_nar .char (nI x) = nI x := Value.int.inj (pk_charN h).1
  rw [e]; exact nf_upd _ _ _
def chO (tx : Nat → Nat) (len c : Nat) : Option Nat := if c < len then some (tx c) else none
theorem chO_s {tx : Nat → Nat} {len c : Nat} (h : c < len) : chO tx len c = some (tx c) := by simp only [chO]; rw [if_pos h]
theorem chO_n {tx : Nat → Nat} {len c : Nat} (h : ¬ c < len) : chO tx len c = none := by simp only [chO]; rw [if_neg h]
def dgO (o : Option Nat) : Option Nat := match o with
  | some k => if 48 ≤ k ∧ k ≤ 57 then some (k - 48) else none
  | none => none
theorem dgO_lt {o : Option Nat} {d : Nat} (h : dgO o = some d) : d ≤ 9 := by
  cases o with
  | none => cases h
  | some k =>
    simp only [dgO] at h
    split at h
    · cases h; omega
    · cases h
def sdN (k : Nat) : Option Nat := if k = 116 then some 0 else if k = 114 then some 1 else if k = 98 then some 2 else if k = 108 then some 3 else none
def sdO (o : Option Nat) : Option Nat := match o with
  | some k => sdN k
  | none => none
theorem sdN_lt {k d : Nat} (h : sdN k = some d) : d < 4 := by
  simp only [sdN] at h
  split at h
  · cases h; omega
  · split at h
    · cases h; omega
    · split at h
      · cases h; omega
      · split at h
        · cases h; omega
        · cases h
theorem sdO_lt {o : Option Nat} {d : Nat} (h : sdO o = some d) : d < 4 := by
  cases o with
  | none => cases h
  | some k => exact sdN_lt h
/-- a number: its value, or none; where reading stopped -/
def rdN (tx : Nat → Nat) (len c lo hi : Nat) : Option Nat × Nat := match dgO (chO tx len c) with
  | none => (none, c)
  | some v => if v < lo then (none, c) else if v = 0 then (some 0, c + 1) else match dgO (chO tx len (c + 1)) with
    | none => (some v, c + 1)
    | some d => if hi < v * 10 + d then (some v, c + 1) else (some (v * 10 + d), c + 2)
def rdB (tx : Nat → Nat) (len c : Nat) : Option (Nat × Nat × Nat) × Nat := match sdO (chO tx len c) with
  | none => (none, c)
  | some sd => match rdN tx len (c + 1) 0 11 with
    | (none, c1) => (none, c1)
    | (some al, c1) => if chO tx len c1 = some 120 then (match rdN tx len (c1 + 1) 1 20 with
        | (none, c2) => (none, c2)
        | (some k, c2) => (some (sd, al, k), c2)) else (some (sd, al, 1), c1)
/-- what reading a text leaves: whether it has no fault, where it stopped, its bowings -/
abbrev TP : Type := Bool × Nat × (Nat → Nat) × (Nat → Nat) × (Nat → Nat) × Nat
def rdP (tx : Nat → Nat) (len : Nat) : Nat → Nat → (Nat → Nat) → (Nat → Nat) → (Nat → Nat) → Nat → TP
  | 0, c, fs, fa, fk, n => (false, c, fs, fa, fk, n)
  | f + 1, c, fs, fa, fk, n => match rdB tx len c with
    | (none, c1) => (false, c1, fs, fa, fk, n)
    | (some (sd, al, k), c1) => match chO tx len c1 with
      | none => (true, c1, upf fs n sd, upf fa n al, upf fk n k, n + 1)
      | some x => if x = 44 then rdP tx len f (c1 + 1) (upf fs n sd) (upf fa n al) (upf fk n k) (n + 1) else (false, c1, upf fs n sd, upf fa n al, upf fk n k, n + 1)
theorem orM_m1 {o : Option Nat} (h : ∀ k, o = some k → k < 2147483648) : orM o = -1 ↔ o = none := by
  cases o with
  | none => simp [orM]
  | some k =>
    simp only [orM, reduceCtorEq, iff_false]
    intro h2
    have h3 : (nI k).toInt = (-1 : Int32).toInt := by rw [h2]
    rw [nI_toInt (h k rfl)] at h3
    have h4 : (-1 : Int32).toInt = -1 := by decide +kernel
    omega
theorem rdN_c {tx : Nat → Nat} {len c lo hi : Nat} : c ≤ (rdN tx len c lo hi).2 ∧ (rdN tx len c lo hi).2 ≤ c + 2 := by
  simp only [rdN]
  split
  · exact ⟨Nat.le_refl _, by omega⟩
  · split
    · exact ⟨Nat.le_refl _, by omega⟩
    · split
      · exact ⟨by omega, by omega⟩
      · split
        · exact ⟨by omega, by omega⟩
        · split <;> exact ⟨by omega, by omega⟩
theorem rdN_v {tx : Nat → Nat} {len c lo hi v : Nat} (hh : 9 ≤ hi) (h : (rdN tx len c lo hi).1 = some v) : lo ≤ v ∧ v ≤ hi ∧ c + 1 ≤ (rdN tx len c lo hi).2 ∧ (rdN tx len c lo hi).2 ≤ len := by
  revert h
  simp only [rdN]
  cases hd : dgO (chO tx len c) with
  | none => intro h; cases h
  | some w =>
    have hw := dgO_lt hd
    have hcl : c < len := by
      by_cases hc : c < len
      · exact hc
      · rw [chO_n hc] at hd; cases hd
    dsimp only
    split
    · intro h; cases h
    · split
      · intro h; cases h; exact ⟨by omega, by omega, by omega, by show c + 1 ≤ len; omega⟩
      · cases hd2 : dgO (chO tx len (c + 1)) with
        | none => intro h; cases h; exact ⟨by omega, by omega, Nat.le_refl _, by show c + 1 ≤ len; omega⟩
        | some d =>
          have hcl2 : c + 1 < len := by
            by_cases hc : c + 1 < len
            · exact hc
            · rw [chO_n hc] at hd2; cases hd2
          dsimp only
          split
          · intro h; cases h; exact ⟨by omega, by omega, Nat.le_refl _, by show c + 1 ≤ len; omega⟩
          · intro h; cases h; exact ⟨by omega, by omega, by show c + 1 ≤ c + 2; omega, by show c + 2 ≤ len; omega⟩
theorem rdB_s {tx : Nat → Nat} {len c sd al k c1 : Nat} (h : rdB tx len c = (some (sd, al, k), c1)) : sd < 4 ∧ al < 12 ∧ 1 ≤ k ∧ k ≤ 20 ∧ c + 2 ≤ c1 ∧ c1 ≤ len := by
  revert h
  simp only [rdB]
  cases hs : sdO (chO tx len c) with
  | none => intro h; cases h
  | some s0 =>
    have hs4 := sdO_lt hs
    dsimp only
    cases hn : rdN tx len (c + 1) 0 11 with
    | mk o c2 =>
      cases o with
      | none => intro h; cases h
      | some a0 =>
        have ha := rdN_v (tx := tx) (len := len) (c := c + 1) (lo := 0) (hi := 11) (v := a0) (by omega) (by rw [hn])
        rw [hn] at ha
        dsimp only at ha ⊢
        split
        · cases hm : rdN tx len (c2 + 1) 1 20 with
          | mk o3 c3 =>
            cases o3 with
            | none => intro h; cases h
            | some k0 =>
              have hk := rdN_v (tx := tx) (len := len) (c := c2 + 1) (lo := 1) (hi := 20) (v := k0) (by omega) (by rw [hm])
              rw [hm] at hk
              dsimp only at hk ⊢
              intro h; cases h
              exact ⟨hs4, by omega, by omega, by omega, by omega, by omega⟩
        · intro h; cases h
          exact ⟨hs4, by omega, by omega, by omega, by omega, by omega⟩
theorem txB {tx : Nat → Nat} {len c k : Nat} (htx : ∀ j, j < len → tx j < 65536) (hk : chO tx len c = some k) : k < 65536 := by
  by_cases hcl : c < len
  · rw [chO_s hcl] at hk; cases hk; exact htx _ hcl
  · rw [chO_n hcl] at hk; cases hk
def bwF (f : Nat → Nat) (n : Nat) (o : Option Nat) : Nat → Nat := match o with
  | some x => upf f n x
  | none => f
def bwN (n : Nat) (b : Bool) : Nat := if b then n + 1 else n
