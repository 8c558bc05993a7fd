/-! the class and the twin answer alike: what is possible -/
theorem tkB_at (s : SV) (w : Nat) (tk : Nat → Bool) (m : Nat) : ∀ j, tkB s w tk m j = (tk j || (decide (j < m) && bwB s w (bpN (j / 12) (j % 12)))) := by
  induction m with
  | zero => intro j; simp [tkB]
  | succ m ih =>
    intro j
    simp only [tkB]
    have hmm : tkB s w tk m m = tk m := by rw [ih m]; simp
    by_cases hj : j = m
    · subst hj
      split
      · rename_i h
        rw [upf_s, h.2]; simp
      · rename_i h
        rw [hmm] at h ⊢
        cases ht : tk j
        · rw [ht] at h
          have hb : bwB s w (bpN (j / 12) (j % 12)) = false := by
            cases hb : bwB s w (bpN (j / 12) (j % 12))
            · rfl
            · exact absurd ⟨rfl, hb⟩ h
          rw [hb]; simp
        · simp
    · have e : decide (j < m + 1) = decide (j < m) := by
        by_cases h2 : j < m
        · rw [decide_eq_true h2, decide_eq_true (by omega)]
        · rw [decide_eq_false h2, decide_eq_false (by omega)]
      rw [e]
      split
      · rw [upf_n hj]; exact ih j
      · exact ih j
theorem tkT_iff (s : SV) (w : Nat) (tk : Nat → Bool) (m : Nat) : tkT s w tk m = true ↔ ∃ j, j < m ∧ tk j = false ∧ bwB s w (bpN (j / 12) (j % 12)) = true := by
  induction m with
  | zero => simp [tkT]
  | succ m ih =>
    have hmm : tkB s w tk m m = tk m := by rw [tkB_at]; simp
    simp only [tkT]
    rw [hmm]
    constructor
    · intro h
      split at h
      · rename_i h2; exact ⟨m, by omega, h2.1, h2.2⟩
      · obtain ⟨j, hj, h3⟩ := ih.mp h; exact ⟨j, by omega, h3⟩
    · rintro ⟨j, hj, h1, h2⟩
      split
      · rfl
      · rename_i h3
        by_cases hjm : j = m
        · subst hjm; exact absurd ⟨h1, h2⟩ h3
        · exact ih.mpr ⟨j, by omega, h1, h2⟩
theorem fpK_iff (s : SV) (n : Nat) : ∀ j, j < 48 → (fpK s n j = true ↔ ∃ v, v < n ∧ clB s v = true ∧ bwB s v (bpN (j / 12) (j % 12)) = true) := by
  induction n with
  | zero => intro j _; simp [fpK]
  | succ n ih =>
    intro j hj
    simp only [fpK]
    constructor
    · intro h
      split at h
      · rename_i hc
        rw [tkB_at] at h
        rw [Bool.or_eq_true] at h
        rcases h with h | h
        · obtain ⟨v, hv, h3⟩ := (ih j hj).mp h; exact ⟨v, by omega, h3⟩
        · rw [decide_eq_true hj, Bool.true_and] at h; exact ⟨n, by omega, hc, h⟩
      · obtain ⟨v, hv, h3⟩ := (ih j hj).mp h; exact ⟨v, by omega, h3⟩
    · rintro ⟨v, hv, h1, h2⟩
      by_cases hvn : v = n
      · subst hvn
        rw [if_pos h1, tkB_at, h2, decide_eq_true hj]; simp
      · have h3 := (ih j hj).mpr ⟨v, by omega, h1, h2⟩
        split
        · rw [tkB_at, h3]; rfl
        · exact h3
theorem fpP_ps (s : SV) {n : Nat} (hn : n < 48) : fpP s n = psO s n 48 := by
  have key : fpP s n = true ↔ psO s n 48 = true := by
    rw [psO_t]
    simp only [fpP, Bool.and_eq_true]
    rw [tkT_iff]
    constructor
    · rintro ⟨hc, j, hj, h1, h2⟩
      refine ⟨j, hj, fdB_some.mpr ⟨hn, by rw [h2, hc]; rfl, fun v hv => ?_⟩⟩
      cases hb : bwB s v (bpN (j / 12) (j % 12))
      · rfl
      · cases hcv : clB s v
        · rfl
        · have := (fpK_iff s n j hj).mpr ⟨v, hv, hcv, hb⟩
          rw [h1] at this; cases this
    · rintro ⟨j, hj, h⟩
      obtain ⟨-, h2, h3⟩ := fdB_some.mp h
      rw [Bool.and_eq_true] at h2
      refine ⟨h2.2, j, hj, ?_, h2.1⟩
      cases hk : fpK s n j
      · rfl
      · obtain ⟨v, hv, h4, h5⟩ := (fpK_iff s n j hj).mp hk
        have := h3 v hv
        rw [h4, h5] at this; cases this
  cases h1 : fpP s n <;> cases h2 : psO s n 48
  · rfl
  · rw [h1, h2] at key; exact absurd (key.mpr rfl) (by decide)
  · rw [h1, h2] at key; exact absurd (key.mp rfl) (by decide)
  · rfl
theorem cntB_eq {p q : Nat → Bool} {n : Nat} (h : ∀ j, j < n → p j = q j) : cntB p n = cntB q n := by
  induction n with
  | zero => rfl
  | succ n ih => simp only [cntB]; rw [ih (fun j hj => h j (by omega)), h n (by omega)]
theorem cnt_ps (s : SV) {n : Nat} (hn : n ≤ 48) : cntB (fpP s) n = cntB (fun w => psO s w 48) n := cntB_eq (fun j hj => fpP_ps s (by omega))
theorem cntB_mono {p : Nat → Bool} {n d : Nat} : cntB p n ≤ cntB p (n + d) := by
  induction d with
  | zero => exact Nat.le_refl _
  | succ d ih => exact Nat.le_trans ih (by show cntB p (n + d) ≤ cntB p (n + d) + _; omega)
theorem fpF_at (s : SV) (f : Nat → Nat) : ∀ n k, k < cntB (fpP s) n → fpF s f n k < n ∧ fpP s (fpF s f n k) = true ∧ cntB (fpP s) (fpF s f n k) = k := by
  intro n
  induction n with
  | zero => intro k hk; exact absurd hk (Nat.not_lt_zero _)
  | succ n ih =>
    intro k hk
    simp only [fpF]
    cases hp : fpP s n
    · rw [if_neg (by decide)]
      rw [cntB_f hp] at hk
      have := ih k hk
      exact ⟨by omega, this.2⟩
    · rw [if_pos rfl]
      rw [cntB_t hp] at hk
      by_cases hkc : k = cntB (fpP s) n
      · subst hkc; rw [upf_s]; exact ⟨by omega, hp, rfl⟩
      · rw [upf_n hkc]
        have := ih k (by omega)
        exact ⟨by omega, this.2⟩
theorem pos_ok (s : SV) (f : Nat → Nat) {k : Nat} (hk : k < cntB (fpP s) 48) : fdB (fun w => psO s w 48 && decide (cntB (fun w => psO s w 48) w = k)) 48 = some (fpF s f 48 k) := by
  obtain ⟨h1, h2, h3⟩ := fpF_at s f 48 k hk
  refine fdB_some.mpr ⟨h1, ?_, fun j hj => ?_⟩
  · rw [← fpP_ps s h1, h2, ← cnt_ps s (Nat.le_of_lt h1), h3]; simp
  · cases hp : psO s j 48
    · rfl
    · have hc : cntB (fun w => psO s w 48) j ≠ k := by
        intro he
        have h4 : cntB (fpP s) (j + 1) = k + 1 := by rw [cntB_t (by rw [fpP_ps s (by omega)]; exact hp), cnt_ps s (by omega), he]
        have h5 := cntB_mono (p := fpP s) (n := j + 1) (d := fpF s f 48 k - (j + 1))
        rw [show j + 1 + (fpF s f 48 k - (j + 1)) = fpF s f 48 k by omega, h3, h4] at h5
        omega
      rw [decide_eq_false hc]; rfl
theorem pos_no (s : SV) {k : Nat} (hk : cntB (fpP s) 48 ≤ k) : fdB (fun w => psO s w 48 && decide (cntB (fun w => psO s w 48) w = k)) 48 = none := by
  refine fdB_none.mpr (fun j hj => ?_)
  cases hp : psO s j 48
  · rfl
  · have hc : cntB (fun w => psO s w 48) j ≠ k := by
      intro he
      have h4 : cntB (fpP s) (j + 1) = k + 1 := by rw [cntB_t (by rw [fpP_ps s hj]; exact hp), cnt_ps s (by omega), he]
      have h5 := cntB_mono (p := fpP s) (n := j + 1) (d := 48 - (j + 1))
      rw [show j + 1 + (48 - (j + 1)) = 48 by omega, h4] at h5
      omega
    rw [decide_eq_false hc]; rfl
/-! lines: what lies in the rows at first doesn't matter -/
def VE (t t' : VT) : Prop := vO t = vO t' ∧ vC t = vC t' ∧ ∀ j, j < vC t → vR t j = vR t' j
theorem VE_visit {o : Option Nat} {t t' : VT} (h : VE t t') : VE (visit o t) (visit o t') := by
  cases o with
  | none => exact h
  | some p =>
    obtain ⟨h1, h2, h3⟩ := h
    simp only [visit]
    rw [← h1, ← h2]
    split
    · refine ⟨rfl, rfl, fun j hj => ?_⟩
      have hj : j < vC t + 1 := hj
      show upf (vR t) (vC t) p j = upf (vR t') (vC t) p j
      by_cases hjc : j = vC t
      · rw [hjc, upf_s, upf_s]
      · rw [upf_n hjc, upf_n hjc]; exact h3 j (by omega)
    · exact ⟨h1, h2, h3⟩
theorem VE_vis4 {t t' : VT} {q : Nat} (h : VE t t') : VE (vis4 t q) (vis4 t' q) := VE_visit (VE_visit (VE_visit (VE_visit h)))
theorem VE_bfs (f : Nat) : ∀ (t t' : VT) (k : Nat), VE t t' → VE (bfs f t k) (bfs f t' k) := by
  induction f with
  | zero => intro t t' k h; exact h
  | succ f ih =>
    intro t t' k h
    simp only [bfs]
    rw [← h.2.1]
    split
    · rename_i hk
      rw [← h.2.2 k hk.1]
      exact ih _ _ _ (VE_vis4 h)
    · exact h
theorem VE_clF {t t' : VT} {p : Nat} (h : vO t = vO t') : vO (clF t p) = vO (clF t' p) := by
  have h0 : VE (mkV (vO t) (vR t) 0) (mkV (vO t') (vR t') 0) := ⟨h, rfl, fun j hj => absurd hj (Nat.not_lt_zero j)⟩
  exact (VE_bfs 145 _ _ 0 (VE_visit h0)).1
theorem lnF_i (s : SV) (w : Nat) (r r' : Nat → Nat) (c c' : Nat) (n : Nat) : vO (lnF s w r c n).1 = vO (lnF s w r' c' n).1 ∧ (lnF s w r c n).2 = (lnF s w r' c' n).2 := by
  induction n with
  | zero => exact ⟨rfl, rfl⟩
  | succ n ih =>
    simp only [lnF]
    rw [← ih.1]
    split
    · exact ⟨VE_clF ih.1, by show _ + 1 = _ + 1; rw [ih.2]⟩
    · exact ih
/-! clamps -/
theorem fdB_eq {p q : Nat → Bool} {n : Nat} (h : ∀ j, j < n → p j = q j) : fdB p n = fdB q n := by
  induction n with
  | zero => rfl
  | succ n ih => simp only [fdB]; rw [ih (fun j hj => h j (by omega)), h n (by omega)]
theorem cl_eq {s : SV} {x y : Nat} (hx : x < 12) (hcc : ∀ j, j < sv_nc s → sv_cc s j < 12 ∧ sv_cr s j < 12) : fdB (fun j => sv_cc s j == x && sv_cr s j == y) (sv_nc s) = fdB (fun j => decide (12 * sv_cr s j + sv_cc s j = 12 * y + x)) (sv_nc s) := by
  refine fdB_eq (fun j hj => ?_)
  have h1 := hcc j hj
  by_cases h : sv_cc s j = x ∧ sv_cr s j = y
  · rw [decide_eq_true (by omega), beq_iff_eq.mpr h.1, beq_iff_eq.mpr h.2]; rfl
  · rw [decide_eq_false (by omega)]
    cases h2 : (sv_cc s j == x && sv_cr s j == y)
    · rfl
    · rw [Bool.and_eq_true, beq_iff_eq, beq_iff_eq] at h2; exact absurd h2 h
/-! sand -/
theorem smN_eq {f g : Nat → Nat} {n : Nat} (h : ∀ j, j < n → f j = g j) : smN f n = smN g n := by
  induction n with
  | zero => rfl
  | succ n ih => simp only [smN]; rw [ih (fun j hj => h j (by omega)), h n (by omega)]
theorem smN_app (f : Nat → Nat) (n m : Nat) : smN f (n + m) = smN f n + smN (fun j => f (n + j)) m := by
  induction m with
  | zero => rfl
  | succ m ih => rw [← Nat.add_assoc]; simp only [smN]; rw [ih]; omega
theorem smN_rows (f : Nat → Nat) (n : Nat) : smN f (12 * n) = smN (fun r => smN (fun c => f (12 * r + c)) 12) n := by
  induction n with
  | zero => rfl
  | succ n ih =>
    rw [Nat.mul_add, smN_app, ih]; rfl
theorem smN_z {f : Nat → Nat} {n : Nat} (h : ∀ j, j < n → f j = 0) : smN f n = 0 := by rw [smN_eq h, smN_0]
theorem smN_pick {a : Nat → Nat} {n k : Nat} (hk : k < n) : smN (fun j => if j = k then a j else 0) n = a k := by
  induction n with
  | zero => omega
  | succ n ih =>
    simp only [smN]
    by_cases h : k = n
    · subst h
      rw [if_pos rfl, smN_z (fun j hj => if_neg (by omega)), Nat.zero_add]
    · rw [if_neg (fun e => h e.symm), ih (by omega), Nat.add_zero]
theorem sand_row (g : Nat → Nat) {x : Nat} (hx : x < 12) : smN (fun p => if p / 12 = x then g p else 0) 144 = smN (fun k => g (x * 12 + k)) 12 := by
  rw [show (144 : Nat) = 12 * 12 from rfl, smN_rows]
  have h : ∀ r, r < 12 → smN (fun c => if (12 * r + c) / 12 = x then g (12 * r + c) else 0) 12 = if r = x then smN (fun k => g (x * 12 + k)) 12 else 0 := by
    intro r _
    by_cases hr : r = x
    · subst hr
      rw [if_pos rfl]
      refine smN_eq (fun c hc => ?_)
      rw [if_pos (by omega), Nat.mul_comm]
    · rw [if_neg hr]
      exact smN_z (fun c hc => if_neg (by omega))
  rw [smN_eq h, smN_pick (a := fun _ => smN (fun k => g (x * 12 + k)) 12) hx]
theorem sand_col (g : Nat → Nat) {x : Nat} (hx : x < 12) : smN (fun p => if p % 12 = x then g p else 0) 144 = smN (fun k => g (k * 12 + x)) 12 := by
  rw [show (144 : Nat) = 12 * 12 from rfl, smN_rows]
  refine smN_eq (fun r hr => ?_)
  have h : ∀ c, c < 12 → (if (12 * r + c) % 12 = x then g (12 * r + c) else 0) = if c = x then g (12 * r + c) else 0 := by
    intro c hc
    by_cases h2 : c = x
    · rw [if_pos (by omega), if_pos h2]
    · rw [if_neg (by omega), if_neg h2]
  rw [smN_eq h, smN_pick (a := fun c => g (12 * r + c)) hx, Nat.mul_comm]
/-! bowings at a side -/
theorem cnt_not {f : Nat → Nat} {x n : Nat} : cntB (isB f x) n + cntB (isN f x) n = n := by
  induction n with
  | zero => rfl
  | succ n ih =>
    have h3 : isN f x n = !(isB f x n) := rfl
    cases h : isB f x n
    · have h2 : isN f x n = true := by rw [h3, h]; rfl
      rw [cntB_f h, cntB_t h2]; omega
    · have h2 : isN f x n = false := by rw [h3, h]; rfl
      rw [cntB_t h, cntB_f h2]; omega
/-- what stays, counted from a place on -/
def cntR (p : Nat → Bool) (a : Nat) : Nat → Nat
  | 0 => 0
  | m + 1 => cntR p (a + 1) m + (if p a then 1 else 0)
theorem cntR_app (p : Nat → Bool) (a m : Nat) : cntB p (a + m) = cntB p a + cntR p a m := by
  induction m generalizing a with
  | zero => rfl
  | succ m ih =>
    rw [show a + (m + 1) = (a + 1) + m by omega, ih (a + 1)]
    simp only [cntB, cntR]; omega
/-- the k-th place that stays -/
def nthP (p : Nat → Bool) (n k : Nat) : Nat := (fdB (fun j => p j && decide (cntB p j = k)) n).getD 0
theorem nth_e {p : Nat → Bool} {n j : Nat} (hj : j < n) (hp : p j = true) : nthP p n (cntB p j) = j := by
  have h : fdB (fun i => p i && decide (cntB p i = cntB p j)) n = some j := by
    refine fdB_some.mpr ⟨hj, by rw [hp]; simp, fun i hi => ?_⟩
    cases hpi : p i
    · rfl
    · have h1 := cntB_mono (p := p) (n := i + 1) (d := j - (i + 1))
      rw [show i + 1 + (j - (i + 1)) = j by omega, cntB_t hpi] at h1
      rw [decide_eq_false (by omega)]; rfl
  simp only [nthP]; rw [h]; rfl
theorem flt_nth {f : Nat → Nat} {p : Nat → Bool} {N : Nat} : ∀ n, n ≤ N → ∀ k, k < cntB p n → flt f p n k = f (nthP p N k) := by
  intro n
  induction n with
  | zero => intro _ k hk; exact absurd hk (Nat.not_lt_zero _)
  | succ n ih =>
    intro hn k hk
    cases hp : p n
    · rw [cntB_f hp] at hk
      rw [flt_f hp]; exact ih (by omega) k hk
    · rw [cntB_t hp] at hk
      have e : flt f p (n + 1) = upf (flt f p n) (cntB p n) (f n) := by simp only [flt]; rw [if_pos hp]
      rw [e]
      by_cases hkc : k = cntB p n
      · subst hkc; rw [upf_s, nth_e (by omega) hp]
      · rw [upf_n hkc]; exact ih (by omega) k (by omega)
theorem ex_nth {p : Nat → Bool} {n k : Nat} (h : k < cntB p n) : ∃ j, j < n ∧ p j = true ∧ cntB p j = k := by
  induction n with
  | zero => exact absurd h (Nat.not_lt_zero _)
  | succ n ih =>
    cases hp : p n
    · rw [cntB_f hp] at h
      obtain ⟨j, h1, h2⟩ := ih h; exact ⟨j, by omega, h2⟩
    · rw [cntB_t hp] at h
      by_cases hk : k = cntB p n
      · exact ⟨n, by omega, hp, hk.symm⟩
      · obtain ⟨j, h1, h2⟩ := ih (by omega); exact ⟨j, by omega, h2⟩
/-! pieces played; copies -/
theorem mp_SE (s : SV) {m : Nat} : SE (mpS s m) (s_pc (plS s m) (dff (sv_fs (plS s m)) m (sv_ps (plS s m) - m)) (dff (sv_fa (plS s m)) m (sv_ps (plS s m) - m)) (dff (sv_fk (plS s m)) m (sv_ps (plS s m) - m)) (sv_ps (plS s m) - m)) := by
  obtain ⟨k1, k2, k3, k4, k5, k6, k7, k8, k9, k10⟩ := plS_k s m
  rw [k5, k6, k7, k8]
  refine ⟨fun _ _ => rfl, fun _ _ => rfl, rfl, rfl, rfl, rfl, rfl, rfl, rfl, fun _ _ => ⟨rfl, rfl⟩, rfl, fun k hk => ?_⟩
  have hk : k < sv_ps s - m := hk
  show sv_fs s (k + m) = dff _ _ _ k ∧ sv_fa s (k + m) = dff _ _ _ k ∧ sv_fk s (k + m) = dff _ _ _ k
  simp only [dff]
  rw [if_pos hk, if_pos hk, if_pos hk]; exact ⟨rfl, rfl, rfl⟩
theorem cp_SE (s o : SV) (hn : sv_nc o ≤ 4) : SE o (cpS s o) := by
  refine ⟨fun p hp => ?_, fun k hk => ?_, rfl, rfl, rfl, rfl, rfl, rfl, rfl, fun c hc => ?_, rfl, fun k hk => ?_⟩
  · exact (cpy_all hp).symm
  · exact (cpy_all hk).symm
  · have hc : c < sv_nc o := hc
    exact ⟨(cpy_all (by omega)).symm, (cpy_all (by omega)).symm⟩
  · have hk : k < sv_ps o := hk
    exact ⟨(apf_at hk).symm, (apf_at hk).symm, (apf_at hk).symm⟩
theorem OKS_SE {B : Nat} {s t : SV} (h : OKS B s) (e : SE s t) : OKS B t := by
  obtain ⟨h1, h2, h3, h4, h5, h6⟩ := h
  obtain ⟨e1, e2, e3, e4, e5, e6, e7, e8, e9, e10, e11, e12⟩ := e
  refine ⟨by rw [← e9]; exact h1, fun j hj => ?_, by rw [← e11]; exact h3, fun j hj => ?_, by rw [← e8]; exact h5, by rw [← smN_eq e1]; exact h6⟩
  · rw [← (e10 j hj).1, ← (e10 j hj).2]; exact h2 j (by omega)
  · rw [← (e12 j hj).1, ← (e12 j hj).2.1, ← (e12 j hj).2.2]; exact h4 j (by omega)
theorem OKS_up {B B' : Nat} {s : SV} (h : OKS B s) (hb : B ≤ B') : OKS B' s := ⟨h.1, h.2.1, h.2.2.1, h.2.2.2.1, h.2.2.2.2.1, Nat.le_trans h.2.2.2.2.2 hb⟩
theorem smN_c (g : Nat → Nat) (e n : Nat) : smN (cvf g e n) n = n * e := by
  rw [smN_eq (g := fun _ => e) (fun j hj => cvf_at g e n j hj)]
  induction n with
  | zero => simp [smN]
  | succ n ih => simp only [smN]; rw [ih, Nat.succ_mul]
