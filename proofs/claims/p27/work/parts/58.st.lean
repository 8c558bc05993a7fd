/-! each call: the class and the twin answer alike, and hold the same then -/
theorem rng {k : Int32} {lo hi : Nat} (hl : lo < 2147483648) (hh : hi < 2147483647) (h : ¬ (k < nI lo ∨ nI hi < k)) : ∃ j, lo ≤ j ∧ j ≤ hi ∧ k = nI j := by
  rcases ix_c k (n := hi + 1) (by omega) with (h1 | h1) | ⟨j, hj, rfl⟩
  · exact absurd (Or.inl (Int32.lt_of_lt_of_le h1 (by rw [← nI_0]; exact nI_le (Nat.zero_le _) hl))) h
  · exact absurd (Or.inr (Int32.lt_of_lt_of_le (nI_lt (by omega) (by omega)) h1)) h
  · by_cases hlj : lo ≤ j
    · exact ⟨j, hlj, by omega, rfl⟩
    · exact absurd (Or.inl (nI_lt (by omega) (by omega))) h
theorem rng0 {k : Int32} {hi : Nat} (hh : hi < 2147483647) (h : ¬ (k < 0 ∨ nI hi < k)) : ∃ j, j ≤ hi ∧ k = nI j := by
  obtain ⟨j, -, h1, h2⟩ := rng (lo := 0) (by omega) hh (by rw [nI_0]; exact h)
  exact ⟨j, h1, h2⟩
theorem xy_in {x y : Int32} {n m : Nat} (hn : n < 2147483648) (hm : m < 2147483648) (h : (rgB x n && rgB y m) = true) : ∃ i j, i < n ∧ j < m ∧ x = nI i ∧ y = nI j := by
  rw [Bool.and_eq_true] at h
  obtain ⟨i, hi, rfl⟩ := (rgB_iff hn).mp h.1
  obtain ⟨j, hj, rfl⟩ := (rgB_iff hm).mp h.2
  exact ⟨i, j, hi, hj, rfl, rfl⟩
theorem bf_of {b : Bool} (h : ¬ b = true) : b = false := by cases b; rfl; exact absurd rfl h
theorem OKS_g {B B' : Nat} {s t : SV} (h : OKS B s) (e : sv_nc t = sv_nc s ∧ sv_cc t = sv_cc s ∧ sv_cr t = sv_cr s ∧ sv_ps t = sv_ps s ∧ sv_fs t = sv_fs s ∧ sv_fa t = sv_fa s ∧ sv_fk t = sv_fk s ∧ sv_la t = sv_la s) (hs : smN (sv_g t) 144 ≤ B') : OKS B' t := by
  obtain ⟨h1, h2, h3, h4, h5, h6⟩ := h
  obtain ⟨e1, e2, e3, e4, e5, e6, e7, e8⟩ := e
  exact ⟨by rw [e1]; exact h1, by rw [e1, e2, e3]; exact h2, by rw [e4]; exact h3, by rw [e4, e5, e6, e7]; exact h4, by rw [e8]; exact h5, hs⟩
theorem OKS_c {B : Nat} {s t : SV} (h : OKS B s) (e : sv_ps t = sv_ps s ∧ sv_fs t = sv_fs s ∧ sv_fa t = sv_fa s ∧ sv_fk t = sv_fk s ∧ sv_la t = sv_la s ∧ sv_g t = sv_g s) (h1 : sv_nc t ≤ 4) (h2 : ∀ j, j < sv_nc t → sv_cc t j < 12 ∧ sv_cr t j < 12) : OKS B t := by
  obtain ⟨-, -, h3, h4, h5, h6⟩ := h
  obtain ⟨e4, e5, e6, e7, e8, e9⟩ := e
  exact ⟨h1, h2, by rw [e4]; exact h3, by rw [e4, e5, e6, e7]; exact h4, by rw [e8]; exact h5, by rw [e9]; exact h6⟩
theorem OKS_p {B : Nat} {s t : SV} (h : OKS B s) (e : sv_nc t = sv_nc s ∧ sv_cc t = sv_cc s ∧ sv_cr t = sv_cr s ∧ sv_la t = sv_la s ∧ sv_g t = sv_g s) (h3 : sv_ps t ≤ 16) (h4 : ∀ j, j < sv_ps t → sv_fs t j < 4 ∧ sv_fa t j < 12 ∧ 1 ≤ sv_fk t j ∧ sv_fk t j ≤ 20) : OKS B t := by
  obtain ⟨h1, h2, -, -, h5, h6⟩ := h
  obtain ⟨e1, e2, e3, e8, e9⟩ := e
  exact ⟨by rw [e1]; exact h1, by rw [e1, e2, e3]; exact h2, h3, h4, by rw [e8]; exact h5, by rw [e9]; exact h6⟩
theorem drf_lt {f : Nat → Nat} {d n m c : Nat} (hf : ∀ j, j < n → f j < c) (hd : d < n) (hm : m = n - 1 - d) : ∀ j, j < n - 1 → drf f d m j < c := by
  intro j hj
  subst hm
  by_cases h : j < d
  · rw [drf_lo _ _ _ _ h]; exact hf j (by omega)
  · rw [drf_at _ _ _ _ (by omega) (by omega)]; exact hf (j + 1) (by omega)
theorem flt_ex {f g k : Nat → Nat} {p : Nat → Bool} {n j : Nat} (hj : j < cntB p n) : ∃ i, i < n ∧ flt f p n j = f i ∧ flt g p n j = g i ∧ flt k p n j = k i := by
  obtain ⟨i, h1, h2, h3⟩ := ex_nth hj
  have hn : nthP p n j = i := by rw [← h3]; exact nth_e h1 h2
  exact ⟨i, h1, by rw [flt_nth (N := n) n (Nat.le_refl _) j hj, hn], by rw [flt_nth (N := n) n (Nat.le_refl _) j hj, hn], by rw [flt_nth (N := n) n (Nat.le_refl _) j hj, hn]⟩
theorem IV_t {B : Nat} {P P' : PS} (h : IV B P) (e : p_s P' = p_s P ∧ p_sl P' = p_sl P ∧ p_o P' = p_o P ∧ p_hd P' = p_hd P ∧ p_sn P' = p_sn P ∧ p_hs P' = p_hs P) (h6 : p_tl P' ≤ 60) (h7 : ∀ j, j < p_tl P' → p_tx P' j < 65536) : IV B P' := by
  obtain ⟨h1, h2, h3, h4, h5, -, -⟩ := h
  obtain ⟨e1, e2, e3, e4, e5, e6⟩ := e
  refine ⟨by rw [e1]; exact h1, by rw [e3]; exact h2, by rw [e4]; exact h3, fun k hk => ?_, by rw [e5, e6]; exact h5, h6, h7⟩
  show OKS B (p_sl P' ((p_o P' + k) % 4))
  rw [e2, e3]; exact h4 k (by rw [← e4]; exact hk)
