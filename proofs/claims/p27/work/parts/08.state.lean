/-! what a State holds, as one value -/
abbrev SV : Type := (Nat → Nat) × (Nat → Nat) × (Nat → Nat) × Nat × (Nat → Int32) × (Nat → Nat) × (Nat → Nat) × (Nat → Nat) × Nat × Int32 × Int32 × Int32 × Int32 × Int32 × Int32
def mkS (g cc cr : Nat → Nat) (nc : Nat) (se : Nat → Int32) (fs fa fk : Nat → Nat) (ps : Nat) (la st sw fl sk mu : Int32) : SV := (g, cc, cr, nc, se, fs, fa, fk, ps, la, st, sw, fl, sk, mu)
def sv_g (s : SV) : Nat → Nat := s.1
def sv_cc (s : SV) : Nat → Nat := s.2.1
def sv_cr (s : SV) : Nat → Nat := s.2.2.1
def sv_nc (s : SV) : Nat := s.2.2.2.1
def sv_se (s : SV) : Nat → Int32 := s.2.2.2.2.1
def sv_fs (s : SV) : Nat → Nat := s.2.2.2.2.2.1
def sv_fa (s : SV) : Nat → Nat := s.2.2.2.2.2.2.1
def sv_fk (s : SV) : Nat → Nat := s.2.2.2.2.2.2.2.1
def sv_ps (s : SV) : Nat := s.2.2.2.2.2.2.2.2.1
def sv_la (s : SV) : Int32 := s.2.2.2.2.2.2.2.2.2.1
def sv_st (s : SV) : Int32 := s.2.2.2.2.2.2.2.2.2.2.1
def sv_sw (s : SV) : Int32 := s.2.2.2.2.2.2.2.2.2.2.2.1
def sv_fl (s : SV) : Int32 := s.2.2.2.2.2.2.2.2.2.2.2.2.1
def sv_sk (s : SV) : Int32 := s.2.2.2.2.2.2.2.2.2.2.2.2.2.1
def sv_mu (s : SV) : Int32 := s.2.2.2.2.2.2.2.2.2.2.2.2.2.2
/-- a state like another one (of the rows that hold more than counts, what counts) -/
def cpS (s o : SV) : SV := mkS (va_cpy (sv_g o) (sv_g s) 0 0 144) (va_cpy (sv_cc o) (sv_cc s) 0 0 4) (va_cpy (sv_cr o) (sv_cr s) 0 0 4) (sv_nc o) (va_cpy (sv_se o) (sv_se s) 0 0 4) (apf (sv_fs s) (sv_fs o) 0 (sv_ps o)) (apf (sv_fa s) (sv_fa o) 0 (sv_ps o)) (apf (sv_fk s) (sv_fk o) 0 (sv_ps o)) (sv_ps o) (sv_la o) (sv_st o) (sv_sw o) (sv_fl o) (sv_sk o) (sv_mu o)
/-- sums and greatest numbers of Nats -/
def smN (g : Nat → Nat) : Nat → Nat
  | 0 => 0
  | n + 1 => smN g n + g n
def mxN (g : Nat → Nat) : Nat → Nat
  | 0 => 0
  | n + 1 => max (mxN g n) (g n)
theorem mxN_lt {g : Nat → Nat} {b n : Nat} (hb : 0 < b) (h : ∀ j, j < n → g j < b) : mxN g n < b := by
  induction n with
  | zero => exact hb
  | succ n ih =>
    simp only [mxN]
    have h1 := ih (fun j hj => h j (by omega))
    have h2 := h n (by omega)
    omega
/-- the same number on the first n places -/
def cvf (g : Nat → Nat) (e : Nat) : Nat → (Nat → Nat)
  | 0 => g
  | n + 1 => upf (cvf g e n) n e
theorem cvf_at (g : Nat → Nat) (e n : Nat) : ∀ j, j < n → cvf g e n j = e := by
  induction n with
  | zero => intro j h; omega
  | succ n ih =>
    intro j h
    simp only [cvf]
    by_cases hj : j = n
    · subst hj; exact upf_s _ _ _
    · rw [upf_n hj]; exact ih j (by omega)
/-- a place of a row goes, those behind it come nearer -/
def drf (f : Nat → Nat) (d : Nat) : Nat → (Nat → Nat)
  | 0 => f
  | n + 1 => upf (drf f d n) (d + n) (drf f d n (d + n + 1))
theorem drf_hi (f : Nat → Nat) (d n : Nat) : ∀ j, d + n ≤ j → drf f d n j = f j := by
  induction n with
  | zero => intro j _; rfl
  | succ n ih => intro j h; simp only [drf]; rw [upf_n (by omega)]; exact ih j (by omega)
theorem drf_lo (f : Nat → Nat) (d n : Nat) : ∀ j, j < d → drf f d n j = f j := by
  induction n with
  | zero => intro j _; rfl
  | succ n ih => intro j h; simp only [drf]; rw [upf_n (by omega)]; exact ih j (by omega)
theorem drf_at (f : Nat → Nat) (d n : Nat) : ∀ j, d ≤ j → j < d + n → drf f d n j = f (j + 1) := by
  induction n with
  | zero => intro j _ _; omega
  | succ n ih =>
    intro j h1 h2
    simp only [drf]
    by_cases hj : j = d + n
    · subst hj; rw [upf_s]; exact drf_hi f d n _ (by omega)
    · rw [upf_n hj]; exact ih j h1 (by omega)
/-- the first of the first n places with a property -/
def fdB (p : Nat → Bool) : Nat → Option Nat
  | 0 => none
  | n + 1 => match fdB p n with
    | some j => some j
    | none => if p n then some n else none
theorem fdB_none {p : Nat → Bool} {n : Nat} : fdB p n = none ↔ ∀ j, j < n → p j = false := by
  induction n with
  | zero => simp [fdB]
  | succ n ih =>
    simp only [fdB]
    cases hf : fdB p n with
    | some j => 
      simp only [reduceCtorEq, false_iff]
      intro h
      rw [ih.mpr (fun j hj => h j (by omega))] at hf
      cases hf
    | none =>
      have h0 := ih.mp hf
      cases hp : p n
      · simp only [Bool.false_eq_true, if_false, true_iff]
        intro j hj
        by_cases hjn : j = n
        · subst hjn; exact hp
        · exact h0 j (by omega)
      · simp only [if_true, reduceCtorEq, false_iff]
        intro h
        have := h n (by omega)
        rw [hp] at this; cases this
theorem fdB_some {p : Nat → Bool} {n k : Nat} : fdB p n = some k ↔ k < n ∧ p k = true ∧ ∀ j, j < k → p j = false := by
  induction n with
  | zero => simp [fdB]
  | succ n ih =>
    simp only [fdB]
    cases hf : fdB p n with
    | some j =>
      rw [hf] at ih
      simp only [Option.some.injEq] at ih ⊢
      constructor
      · intro h
        have h1 := ih.mp h
        exact ⟨by omega, h1.2⟩
      · intro h
        have h0 : fdB p n = some j := hf
        by_cases hk : k < n
        · exact ih.mpr ⟨hk, h.2⟩
        · have hkn : k = n := by omega
          have hnone : fdB p n = none := fdB_none.mpr (fun i hi => h.2.2 i (by omega))
          rw [hnone] at h0; cases h0
    | none =>
      have h0 := fdB_none.mp hf
      cases hp : p n
      · simp only [Bool.false_eq_true, if_false, reduceCtorEq, false_iff]
        intro h
        by_cases hk : k < n
        · rw [h0 k hk] at h; cases h.2.1
        · have hkn : k = n := by omega
          rw [hkn, hp] at h; cases h.2.1
      · simp only [if_true, Option.some.injEq]
        constructor
        · intro h; subst h; exact ⟨by omega, hp, h0⟩
        · intro h
          by_cases hk : k < n
          · rw [h0 k hk] at h; cases h.2.1
          · omega
/-- an answer out of a search: the place, or -1 -/
def orM (o : Option Nat) : Int32 := match o with
  | some k => nI k
  | none => -1
def rf4 (a b c d : Nat) : Nat → Option Nat := fun j => match j with
  | 0 => some a
  | 1 => some b
  | 2 => some c
  | _ => some d
