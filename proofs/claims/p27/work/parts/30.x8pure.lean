/-! sums of grains under strokes; what a state is bound to -/
theorem smN_upf {g : Nat → Nat} {k x n : Nat} (hk : k < n) : smN (upf g k x) n + g k = smN g n + x := by
  induction n with
  | zero => omega
  | succ n ih =>
    simp only [smN]
    by_cases h : k = n
    · subst h
      have h0 : ∀ m, m ≤ k → smN (upf g k x) m = smN g m := by
        intro m
        induction m with
        | zero => intro _; rfl
        | succ m ihm => intro hm; simp only [smN]; rw [ihm (by omega), upf_n (by omega)]
      rw [h0 k (Nat.le_refl _), upf_s]; omega
    · rw [upf_n (fun e => h e.symm)]
      have := ih (by omega)
      omega
theorem smN_ge {g : Nat → Nat} {k n : Nat} (hk : k < n) : g k ≤ smN g n := by
  induction n with
  | zero => omega
  | succ n ih =>
    simp only [smN]
    by_cases h : k = n
    · subst h; omega
    · have := ih (by omega); omega
theorem smN_add {g a : Nat → Nat} {n : Nat} : ∀ m, m ≤ n → smN (adF g a n) m = smN g m + smN a m := by
  intro m
  induction m with
  | zero => intro _; rfl
  | succ m ih =>
    intro h
    simp only [smN]
    rw [ih (by omega), adF_at g a n m (by omega)]; omega
theorem smN_0 {n : Nat} : smN (fun _ => 0) n = 0 := by
  induction n with
  | zero => rfl
  | succ n ih => simp only [smN]; rw [ih]
theorem soF_hi (sw se : Nat → Int32) (tg g : Nat → Nat) (fl : Int32) (n : Nat) : ∀ j, n ≤ j → (soF sw se tg g fl n).1 j = g j := by
  induction n with
  | zero => intro j _; rfl
  | succ n ih =>
    intro j h
    simp only [soF]
    split
    · show upf _ n _ j = g j
      rw [upf_n (by omega)]; exact ih j (by omega)
    · exact ih j (by omega)
theorem soF_sum (sw se : Nat → Int32) (tg g : Nat → Nat) (fl : Int32) (ht : ∀ p, p < 144 → tg p < 144) (n : Nat) (hn : n ≤ 144) : smN (soF sw se tg g fl n).1 144 + smN (soF sw se tg g fl n).2.1 144 ≤ smN g 144 := by
  induction n with
  | zero => show smN g 144 + smN (fun _ => 0) 144 ≤ smN g 144; rw [smN_0]; omega
  | succ n ih =>
    have ih := ih (by omega)
    simp only [soF]
    split
    · show smN (upf _ n _) 144 + smN (shA _ _ _ _ _ n) 144 ≤ smN g 144
      generalize hG : (soF sw se tg g fl n).1 = G at *
      generalize hA : (soF sw se tg g fl n).2.1 = A at *
      have h1 := smN_upf (g := G) (k := n) (x := G n - (G n + 1) / 2) (n := 144) (by omega)
      simp only [shA]
      have h2 := smN_upf (g := A) (k := tg n) (x := A (tg n) + ((G n + 1) / 2 - (if flB sw se n = true then 1 else 0))) (n := 144) (ht n (by omega))
      have h3 : (G n + 1) / 2 ≤ G n ∨ G n = 0 := by omega
      have h4 : (G n + 1) / 2 - (if flB sw se n = true then 1 else 0) ≤ (G n + 1) / 2 := Nat.sub_le _ _
      rcases h3 with h3 | h3
      · omega
      · rw [h3] at h1 h2 h4 ⊢; omega
    · exact ih
theorem onG_sum (sw se : Nat → Int32) (tg g : Nat → Nat) (fl : Int32) (ht : ∀ p, p < 144 → tg p < 144) : smN (onG sw se tg g fl) 144 ≤ smN g 144 := by
  simp only [onG]
  rw [smN_add 144 (Nat.le_refl _)]
  exact soF_sum sw se tg g fl ht 144 (Nat.le_refl _)
theorem stI_sum (w : Nat) (se : Nat → Int32) (g : Nat → Nat) (fl : Int32) (n : Nat) : smN (stI (SW w) se (tgW w) g fl n).1 144 ≤ smN g 144 := by
  induction n with
  | zero => exact Nat.le_refl _
  | succ n ih => exact Nat.le_trans (onG_sum _ _ _ _ _ (fun p hp => tgW_lt hp)) ih
def OKS (B : Nat) (s : SV) : Prop := sv_nc s ≤ 4 ∧ (∀ j, j < sv_nc s → sv_cc s j < 12 ∧ sv_cr s j < 12) ∧ sv_ps s ≤ 16 ∧ (∀ j, j < sv_ps s → sv_fs s j < 4 ∧ sv_fa s j < 12 ∧ 1 ≤ sv_fk s j ∧ sv_fk s j ≤ 20) ∧ (sv_la s = -1 ∨ ∃ w, w < 48 ∧ sv_la s = nI w) ∧ smN (sv_g s) 144 ≤ B
/-- a bowing is played -/
def pl1 (s : SV) (i : Nat) : SV := match wyO s (bpN (sv_fs s i) (sv_fa s i)) with
  | none => mkS (sv_g s) (sv_cc s) (sv_cr s) (sv_nc s) (sv_se s) (sv_fs s) (sv_fa s) (sv_fk s) (sv_ps s) (sv_la s) (sv_st s) (sv_sw s) (sv_fl s) (sv_sk s) (sv_mu s + nI 1)
  | some w => mkS (stI (SW w) (sv_se s) (tgW w) (sv_g s) (sv_fl s) (sv_fk s i)).1 (sv_cc s) (sv_cr s) (sv_nc s) (sv_se s) (sv_fs s) (sv_fa s) (sv_fk s) (sv_ps s) (nI w) (sv_st s) (sv_sw s) (stI (SW w) (sv_se s) (tgW w) (sv_g s) (sv_fl s) (sv_fk s i)).2 (sv_sk s + nI (sv_fk s i)) (sv_mu s)
theorem pl1_n {s : SV} {i : Nat} (h : wyO s (bpN (sv_fs s i) (sv_fa s i)) = none) : pl1 s i = mkS (sv_g s) (sv_cc s) (sv_cr s) (sv_nc s) (sv_se s) (sv_fs s) (sv_fa s) (sv_fk s) (sv_ps s) (sv_la s) (sv_st s) (sv_sw s) (sv_fl s) (sv_sk s) (sv_mu s + nI 1) := by
  unfold pl1; rw [h]
theorem pl1_s {s : SV} {i w : Nat} (h : wyO s (bpN (sv_fs s i) (sv_fa s i)) = some w) : pl1 s i = mkS (stI (SW w) (sv_se s) (tgW w) (sv_g s) (sv_fl s) (sv_fk s i)).1 (sv_cc s) (sv_cr s) (sv_nc s) (sv_se s) (sv_fs s) (sv_fa s) (sv_fk s) (sv_ps s) (nI w) (sv_st s) (sv_sw s) (stI (SW w) (sv_se s) (tgW w) (sv_g s) (sv_fl s) (sv_fk s i)).2 (sv_sk s + nI (sv_fk s i)) (sv_mu s) := by
  unfold pl1; rw [h]
def plS (s : SV) : Nat → SV
  | 0 => s
  | i + 1 => pl1 (plS s i) i
def plL (s : SV) : Nat → Nat
  | 0 => 0
  | i + 1 => plL s i + (if (wyO (plS s i) (bpN (sv_fs (plS s i) i) (sv_fa (plS s i) i))).isSome = true then 1 else 0)
theorem pl1_k (s : SV) (i : Nat) : sv_cc (pl1 s i) = sv_cc s ∧ sv_cr (pl1 s i) = sv_cr s ∧ sv_nc (pl1 s i) = sv_nc s ∧ sv_se (pl1 s i) = sv_se s ∧ sv_fs (pl1 s i) = sv_fs s ∧ sv_fa (pl1 s i) = sv_fa s ∧ sv_fk (pl1 s i) = sv_fk s ∧ sv_ps (pl1 s i) = sv_ps s ∧ sv_st (pl1 s i) = sv_st s ∧ sv_sw (pl1 s i) = sv_sw s := by
  cases hw : wyO s (bpN (sv_fs s i) (sv_fa s i)) with
  | none => rw [pl1_n hw]; exact ⟨rfl, rfl, rfl, rfl, rfl, rfl, rfl, rfl, rfl, rfl⟩
  | some w => rw [pl1_s hw]; exact ⟨rfl, rfl, rfl, rfl, rfl, rfl, rfl, rfl, rfl, rfl⟩
theorem plS_k (s : SV) (i : Nat) : sv_cc (plS s i) = sv_cc s ∧ sv_cr (plS s i) = sv_cr s ∧ sv_nc (plS s i) = sv_nc s ∧ sv_se (plS s i) = sv_se s ∧ sv_fs (plS s i) = sv_fs s ∧ sv_fa (plS s i) = sv_fa s ∧ sv_fk (plS s i) = sv_fk s ∧ sv_ps (plS s i) = sv_ps s ∧ sv_st (plS s i) = sv_st s ∧ sv_sw (plS s i) = sv_sw s := by
  induction i with
  | zero => exact ⟨rfl, rfl, rfl, rfl, rfl, rfl, rfl, rfl, rfl, rfl⟩
  | succ i ih =>
    obtain ⟨a1, a2, a3, a4, a5, a6, a7, a8, a9, a10⟩ := ih
    obtain ⟨b1, b2, b3, b4, b5, b6, b7, b8, b9, b10⟩ := pl1_k (plS s i) i
    exact ⟨b1.trans a1, b2.trans a2, b3.trans a3, b4.trans a4, b5.trans a5, b6.trans a6, b7.trans a7, b8.trans a8, b9.trans a9, b10.trans a10⟩
theorem OKS_pl1 {B : Nat} {s : SV} (h : OKS B s) (i : Nat) : OKS B (pl1 s i) := by
  obtain ⟨h1, h2, h3, h4, h5, h6⟩ := h
  cases hw : wyO s (bpN (sv_fs s i) (sv_fa s i)) with
  | none => rw [pl1_n hw]; exact ⟨h1, h2, h3, h4, h5, h6⟩
  | some w => rw [pl1_s hw]; exact ⟨h1, h2, h3, h4, Or.inr ⟨w, wyO_lt hw, rfl⟩, Nat.le_trans (stI_sum _ _ _ _ _) h6⟩
theorem OKS_plS {B : Nat} {s : SV} (h : OKS B s) (i : Nat) : OKS B (plS s i) := by
  induction i with
  | zero => exact h
  | succ i ih => exact OKS_pl1 ih i
theorem plL_le (s : SV) (i : Nat) : plL s i ≤ i := by
  induction i with
  | zero => exact Nat.le_refl _
  | succ i ih => simp only [plL]; split <;> omega
/-- an answer out of a search: the place, or -5 -/
def orN (o : Option Nat) : Int32 := match o with
  | some k => nI k
  | none => -5
def laM (x : Int32) : Int32 := if x < 0 then -5 else x
theorem laM_o {o : Option Nat} (h : ∀ k, o = some k → k < 2147483648) : laM (orM o) = orN o := by
  cases o with
  | none => rfl
  | some k => show laM (nI k) = nI k; simp only [laM]; rw [if_neg (nI_pos (h k rfl))]
