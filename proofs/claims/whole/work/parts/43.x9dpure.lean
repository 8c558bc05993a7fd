/-! a stroke -/
def moF (sw se : Nat → Int32) (tg g : Nat → Nat) (fl : Int32) (n : Nat) : Nat → Int32 := fun j => nI ((soF sw se tg g fl n).1 j) - nI (g j) + nI ((soF sw se tg g fl n).2.1 j)
theorem moF_0 (sw se : Nat → Int32) (tg g : Nat → Nat) (fl : Int32) (j : Nat) : moF sw se tg g fl 0 j = 0 := by
  show nI (g j) - nI (g j) + nI 0 = 0
  rw [Int32.sub_self, nI_0]; rfl
/-- how many go -/
def goM (sw se : Nat → Int32) (g : Nat → Nat) (n : Nat) : Nat := if se 2 < sw n then (g n + 1) / 2 else 0
def fallM (sw se : Nat → Int32) (g : Nat → Nat) (n : Nat) : Bool := decide (0 < goM sw se g n) && flB sw se n
theorem goB_go {sw se : Nat → Int32} {g : Nat → Nat} {n : Nat} : goB sw se g n = decide (0 < goM sw se g n) := by
  have e : goM sw se g n = if se 2 < sw n then (g n + 1) / 2 else 0 := rfl
  by_cases h : se 2 < sw n
  · rw [if_pos h] at e
    rw [e]
    simp only [goB]
    rw [decide_eq_true h, Bool.true_and]
    by_cases h2 : 0 < g n
    · rw [decide_eq_true h2, decide_eq_true (by omega)]
    · rw [decide_eq_false h2, decide_eq_false (by omega)]
  · rw [if_neg h] at e
    rw [e]
    simp only [goB]
    rw [decide_eq_false h]; rfl
theorem goM_le {sw se : Nat → Int32} {g : Nat → Nat} {n : Nat} (h : 0 < goM sw se g n) : goM sw se g n ≤ g n ∧ goM sw se g n = (g n + 1) / 2 := by
  simp only [goM] at h ⊢
  split at h
  · rename_i h2; rw [if_pos h2]; omega
  · omega
theorem goB_at {sw se : Nat → Int32} {tg g : Nat → Nat} {fl : Int32} {n : Nat} : goB sw se (soF sw se tg g fl n).1 n = decide (0 < goM sw se g n) := by
  rw [← goB_go]; simp only [goB]; rw [soF_hi sw se tg g fl n n (Nat.le_refl _)]
theorem so_t {sw se : Nat → Int32} {tg g : Nat → Nat} {fl : Int32} {n : Nat} (h : 0 < goM sw se g n) : soF sw se tg g fl (n + 1) = (upf (soF sw se tg g fl n).1 n (g n - goM sw se g n), upf (soF sw se tg g fl n).2.1 (tg n) ((soF sw se tg g fl n).2.1 (tg n) + (goM sw se g n - (if flB sw se n = true then 1 else 0))), if flB sw se n = true then (soF sw se tg g fl n).2.2 + nI 1 else (soF sw se tg g fl n).2.2) := by
  have h0 := soF_hi sw se tg g fl n n (Nat.le_refl _)
  simp only [soF]
  rw [if_pos (by rw [goB_at]; exact decide_eq_true h)]
  simp only [shA]
  rw [h0, (goM_le h).2]
theorem so_f {sw se : Nat → Int32} {tg g : Nat → Nat} {fl : Int32} {n : Nat} (h : goM sw se g n = 0) : soF sw se tg g fl (n + 1) = soF sw se tg g fl n := by
  simp only [soF]
  rw [if_neg (by rw [goB_at, h]; decide)]
theorem so_fl {sw se : Nat → Int32} {tg g : Nat → Nat} {fl : Int32} {n : Nat} : (soF sw se tg g fl (n + 1)).2.2 = if fallM sw se g n = true then (soF sw se tg g fl n).2.2 + nI 1 else (soF sw se tg g fl n).2.2 := by
  by_cases h : 0 < goM sw se g n
  · have e : fallM sw se g n = flB sw se n := by simp only [fallM]; rw [decide_eq_true h, Bool.true_and]
    rw [e, so_t h] <;> rfl
  · have e : fallM sw se g n = false := by simp only [fallM]; rw [decide_eq_false h]; rfl
    rw [e, so_f (by omega)] <;> rfl
/-- what the twin does with one place -/
def mst (w : Nat) (se : Nat → Int32) (g : Nat → Nat) (n : Nat) (f : Bool) (k : Nat) (G : Nat → Int32) : Nat → Int32 :=
  if SW w (cmN w n) < SW w n then upd (upd (if f = true then upd G n (G n - nI 1) else G) n ((if f = true then upd G n (G n - nI 1) else G) n - nI k)) (cmN w n) ((upd (if f = true then upd G n (G n - nI 1) else G) n ((if f = true then upd G n (G n - nI 1) else G) n - nI k)) (cmN w n) + nI k)
  else (if f = true then upd G n (G n - nI 1) else G)
theorem ring1 (g A f k : Int32) : g - g + A - f - k = g - (k + f) - g + A := by grind
theorem ring2 (x g A k : Int32) : x - g + A + k = x - g + (A + k) := by grind
theorem ring3 (g A f k : Int32) : g - g + A - f = g - (k + f) - g + (A + k) := by grind
theorem ring4 (x : Int32) : x - nI 0 = x := by rw [nI_0]; exact Int32.sub_zero x
theorem mo_step {w : Nat} {se : Nat → Int32} {g : Nat → Nat} {fl : Int32} {n : Nat} {G : Nat → Int32} {f : Bool} {k : Nat} (hf : fallM (SW w) se g n = f) (hk : goM (SW w) se g n - (if f = true then 1 else 0) = k) (hn : n < 144) (hG : ∀ j, j < 144 → G j = moF (SW w) se (tgW w) g fl n j) : ∀ j, j < 144 → mst w se g n f k G j = moF (SW w) se (tgW w) g fl (n + 1) j := by
  intro j hj
  have hGn := hG n hn
  have hGj := hG j hj
  simp only [moF] at hGn hGj ⊢
  rw [soF_hi _ _ _ _ _ n n (Nat.le_refl _)] at hGn
  -- the change by the fall
  have e1 : (if f = true then upd G n (G n - nI 1) else G) = upd G n (G n - nI (if f = true then 1 else 0)) := by
    cases f
    · rw [if_neg (by decide), if_neg (by decide), ring4]
      funext q
      by_cases hq : q = n
      · subst hq; rw [pk_us]
      · rw [pk_un hq]
    · rw [if_pos rfl, if_pos rfl]
  by_cases hgo : 0 < goM (SW w) se g n
  · have hfe : f = flB (SW w) se n := by rw [← hf]; simp only [fallM]; rw [decide_eq_true hgo, Bool.true_and]
    rw [so_t hgo, ← hfe, hk]
    have hle := (goM_le hgo).1
    have hgk : goM (SW w) se g n = k + (if f = true then 1 else 0) := by
      rw [← hk]
      have : (if f = true then 1 else 0) ≤ 1 := by split <;> omega
      omega
    have hsub : nI (g n - goM (SW w) se g n) = nI (g n) - (nI k + nI (if f = true then 1 else 0)) := by
      rw [← pk_sub hle, hgk, ← nI_add]
    simp only [mst]
    rw [e1]
    generalize hfn : (if f = true then 1 else 0) = fn at *
    try dsimp only
    rw [tgW_cm hn]
    by_cases hc : SW w (cmN w n) < SW w n
    · rw [if_pos hc, if_pos hc]
      have hcn : cmN w n ≠ n := fun h => by rw [h] at hc; exact absurd hc (Int32.not_lt.mpr (Int32.le_refl _))
      by_cases hjc : j = cmN w n
      · subst hjc
        rw [pk_us, pk_un hcn, pk_un hcn, upf_n hcn, upf_s, hGj, ← nI_add]
        exact ring2 _ _ _ _
      · rw [pk_un hjc]
        by_cases hjn : j = n
        · subst hjn
          rw [pk_us, pk_us, upf_s, upf_n hjc, hGn, hsub]
          exact ring1 _ _ _ _
        · rw [pk_un hjn, pk_un hjn, upf_n hjn, upf_n hjc, hGj]
    · rw [if_neg hc, if_neg hc]
      by_cases hjn : j = n
      · subst hjn
        rw [pk_us, upf_s, upf_s, hGn, hsub, ← nI_add]
        exact ring3 _ _ _ _
      · rw [pk_un hjn, upf_n hjn, upf_n hjn, hGj]
  · have hg0 : goM (SW w) se g n = 0 := by omega
    have hfe : f = false := by rw [← hf]; simp only [fallM]; rw [decide_eq_false hgo]; rfl
    subst hfe
    have hk0 : k = 0 := by rw [← hk, hg0]; rfl
    subst hk0
    rw [so_f hg0, ← hGj]
    simp only [mst]
    rw [if_neg (by decide : ¬ false = true)]
    have e2 : ∀ (H : Nat → Int32) (q : Nat), upd H q (H q - nI 0) = H := by
      intro H q; rw [ring4]; funext r
      by_cases hr : r = q
      · subst hr; rw [pk_us]
      · rw [pk_un hr]
    have e3 : ∀ (H : Nat → Int32) (q : Nat), upd H q (H q + nI 0) = H := by
      intro H q; rw [nI_0, Int32.add_zero]; funext r
      by_cases hr : r = q
      · subst hr; rw [pk_us]
      · rw [pk_un hr]
    rw [e2, e3]; split <;> rfl
theorem ring5 (g x A : Int32) : g + (x - g + A) = x + A := by grind
theorem RM_on {F G H : Nat → Int32} {s : SV} {f : Int32} {w : Nat} (hF : RM F (s_fl s f)) (hG : ∀ j, j < 144 → G j = moF (SW w) (sv_se s) (tgW w) (sv_g s) (sv_fl s) 144 j) (hH : ∀ j, H j = if j < 144 then F j + G j else F j) : RM H (s_g (s_fl s f) (onG (SW w) (sv_se s) (tgW w) (sv_g s) (sv_fl s))) := by
  obtain ⟨h1, h2, h3, h4, h5, h6, h7, h8, h9, h10, h11, h12⟩ := hF
  have hi : ∀ j, 144 ≤ j → H j = F j := fun j hj => by rw [hH, if_neg (by omega)]
  refine ⟨fun p hp => ?_, fun k hk => ?_, ?_, ?_, ?_, ?_, ?_, ?_, ?_, fun c hc => ?_, ?_, fun k hk => ?_⟩
  · rw [hH, if_pos hp, h1 p hp, hG p hp]
    show nI (sv_g s p) + moF _ _ _ _ _ 144 p = nI (onG _ _ _ _ _ p)
    simp only [moF, onG]
    rw [adF_at _ _ _ _ hp, ← nI_add]
    exact ring5 _ _ _
  · rw [hi _ (by omega)]; exact h2 k hk
  · rw [hi _ (by omega)]; exact h3
  · rw [hi _ (by omega)]; exact h4
  · rw [hi _ (by omega)]; exact h5
  · rw [hi _ (by omega)]; exact h6
  · rw [hi _ (by omega)]; exact h7
  · rw [hi _ (by omega)]; exact h8
  · rw [hi _ (by omega)]; exact h9
  · rw [hi _ (by omega)]; exact h10 c hc
  · rw [hi _ (by omega)]; exact h11
  · rw [hi _ (by omega), hi _ (by omega), hi _ (by omega)]; exact h12 k hk
/-- what the twin holds when some bowings are played: its piece is shorter -/
def mpS (s : SV) (i : Nat) : SV := s_pc (plS s i) (fun j => sv_fs s (j + i)) (fun j => sv_fa s (j + i)) (fun j => sv_fk s (j + i)) (sv_ps s - i)
/-- states that hold the same -/
def SE (s t : SV) : Prop := (∀ p, p < 144 → sv_g s p = sv_g t p) ∧ (∀ k, k < 4 → sv_se s k = sv_se t k) ∧ sv_st s = sv_st t ∧ sv_sw s = sv_sw t ∧ sv_fl s = sv_fl t ∧ sv_sk s = sv_sk t ∧ sv_mu s = sv_mu t ∧ sv_la s = sv_la t ∧ sv_nc s = sv_nc t ∧ (∀ c, c < sv_nc t → sv_cr s c = sv_cr t c ∧ sv_cc s c = sv_cc t c) ∧ sv_ps s = sv_ps t ∧ ∀ k, k < sv_ps t → sv_fs s k = sv_fs t k ∧ sv_fa s k = sv_fa t k ∧ sv_fk s k = sv_fk t k
theorem RM_SE {M : Nat → Int32} {s t : SV} (h : RM M s) (e : SE s t) : RM M t := by
  obtain ⟨h1, h2, h3, h4, h5, h6, h7, h8, h9, h10, h11, h12⟩ := h
  obtain ⟨e1, e2, e3, e4, e5, e6, e7, e8, e9, e10, e11, e12⟩ := e
  refine ⟨fun p hp => ?_, fun k hk => ?_, ?_, ?_, ?_, ?_, ?_, ?_, ?_, fun c hc => ?_, ?_, fun k hk => ?_⟩
  · rw [← e1 p hp]; exact h1 p hp
  · rw [← e2 k hk]; exact h2 k hk
  · rw [← e3]; exact h3
  · rw [← e4]; exact h4
  · rw [← e5]; exact h5
  · rw [← e6]; exact h6
  · rw [← e7]; exact h7
  · rw [← e8]; exact h8
  · rw [← e9]; exact h9
  · rw [← (e10 c hc).1, ← (e10 c hc).2]; exact h10 c (by omega)
  · rw [← e11]; exact h11
  · rw [← (e12 k hk).1, ← (e12 k hk).2.1, ← (e12 k hk).2.2]; exact h12 k (by omega)
theorem SE_rf (s : SV) : SE s s := ⟨fun _ _ => rfl, fun _ _ => rfl, rfl, rfl, rfl, rfl, rfl, rfl, rfl, fun _ _ => ⟨rfl, rfl⟩, rfl, fun _ _ => ⟨rfl, rfl, rfl⟩⟩
theorem RM_mp {M : Nat → Int32} {s : SV} {i : Nat} (h : RM M (mpS s i)) (hi : i < sv_ps s) : M 160 = nI (sv_fs s i) ∧ M 161 = nI (sv_fa s i) ∧ M 162 = nI (sv_fk s i) := by
  have hp : 0 < sv_ps (mpS s i) := by show 0 < sv_ps s - i; omega
  have h1 := RM_b h hp
  obtain ⟨a, b, c⟩ := h1
  refine ⟨a.trans ?_, b.trans ?_, c.trans ?_⟩
  · show nI (sv_fs s (0 + i)) = _; rw [Nat.zero_add]
  · show nI (sv_fa s (0 + i)) = _; rw [Nat.zero_add]
  · show nI (sv_fk s (0 + i)) = _; rw [Nat.zero_add]
def skS (t : SV) (w j : Nat) : SV := s_sk (s_fl (s_g t (stI (SW w) (sv_se t) (tgW w) (sv_g t) (sv_fl t) j).1) (stI (SW w) (sv_se t) (tgW w) (sv_g t) (sv_fl t) j).2) (sv_sk t + nI j)
theorem i32_s (x : Int32) (j : Nat) : x + nI j + nI 1 = x + nI (j + 1) := by rw [Int32.add_assoc, nI_add]
theorem skS_0 {M : Nat → Int32} {t : SV} {w : Nat} (h : RM M t) : RM M (skS t w 0) := by
  refine RM_SE h ⟨fun _ _ => rfl, fun _ _ => rfl, rfl, rfl, rfl, ?_, rfl, rfl, rfl, fun _ _ => ⟨rfl, rfl⟩, rfl, fun _ _ => ⟨rfl, rfl, rfl⟩⟩
  show sv_sk t = sv_sk t + nI 0
  rw [nI_0, Int32.add_zero]
theorem skS_u (t : SV) (w j : Nat) (G : Nat → Nat) (L K : Int32) : s_sk (s_fl (s_g (skS t w j) G) L) K = s_sk (s_fl (s_g t G) L) K := by simp only [skS, s_sk, s_fl, s_g, s_mu, s_la, s_pc, rmS, mkS, sv_g, sv_cc, sv_cr, sv_nc, sv_se, sv_fs, sv_fa, sv_fk, sv_ps, sv_la, sv_st, sv_sw, sv_fl, sv_sk, sv_mu]
theorem skS_s {M : Nat → Int32} {t : SV} {w j : Nat} (h : RM M (s_sk (s_fl (s_g (skS t w j) (onG (SW w) (sv_se (skS t w j)) (tgW w) (sv_g (skS t w j)) (sv_fl (skS t w j)))) (onL (SW w) (sv_se (skS t w j)) (tgW w) (sv_g (skS t w j)) (sv_fl (skS t w j)))) (sv_sk (skS t w j) + nI 1))) : RM M (skS t w (j + 1)) := by
  rw [skS_u] at h
  have e1 : sv_se (skS t w j) = sv_se t := by simp only [skS, s_sk, s_fl, s_g, s_mu, s_la, s_pc, rmS, mkS, sv_g, sv_cc, sv_cr, sv_nc, sv_se, sv_fs, sv_fa, sv_fk, sv_ps, sv_la, sv_st, sv_sw, sv_fl, sv_sk, sv_mu]
  have e2 : sv_g (skS t w j) = (stI (SW w) (sv_se t) (tgW w) (sv_g t) (sv_fl t) j).1 := by simp only [skS, s_sk, s_fl, s_g, s_mu, s_la, s_pc, rmS, mkS, sv_g, sv_cc, sv_cr, sv_nc, sv_se, sv_fs, sv_fa, sv_fk, sv_ps, sv_la, sv_st, sv_sw, sv_fl, sv_sk, sv_mu]
  have e3 : sv_fl (skS t w j) = (stI (SW w) (sv_se t) (tgW w) (sv_g t) (sv_fl t) j).2 := by simp only [skS, s_sk, s_fl, s_g, s_mu, s_la, s_pc, rmS, mkS, sv_g, sv_cc, sv_cr, sv_nc, sv_se, sv_fs, sv_fa, sv_fk, sv_ps, sv_la, sv_st, sv_sw, sv_fl, sv_sk, sv_mu]
  have e0 : sv_sk (skS t w j) = sv_sk t + nI j := by simp only [skS, s_sk, s_fl, s_g, s_mu, s_la, s_pc, rmS, mkS, sv_g, sv_cc, sv_cr, sv_nc, sv_se, sv_fs, sv_fa, sv_fk, sv_ps, sv_la, sv_st, sv_sw, sv_fl, sv_sk, sv_mu]
  have e4 : sv_sk (skS t w j) + nI 1 = sv_sk t + nI (j + 1) := by rw [e0]; exact i32_s _ _
  have e5 : skS t w (j + 1) = s_sk (s_fl (s_g t (onG (SW w) (sv_se t) (tgW w) (stI (SW w) (sv_se t) (tgW w) (sv_g t) (sv_fl t) j).1 (stI (SW w) (sv_se t) (tgW w) (sv_g t) (sv_fl t) j).2)) (onL (SW w) (sv_se t) (tgW w) (stI (SW w) (sv_se t) (tgW w) (sv_g t) (sv_fl t) j).1 (stI (SW w) (sv_se t) (tgW w) (sv_g t) (sv_fl t) j).2)) (sv_sk t + nI (j + 1)) := by
    simp only [skS, stI]
  rw [e1, e2, e3, e4] at h
  rw [e5]; exact h
theorem mp_pc {s : SV} {i : Nat} : ∀ k, k < sv_ps s - (i + 1) → rmf (fun j => sv_fs s (j + i)) 0 k = sv_fs s (k + (i + 1)) ∧ rmf (fun j => sv_fa s (j + i)) 0 k = sv_fa s (k + (i + 1)) ∧ rmf (fun j => sv_fk s (j + i)) 0 k = sv_fk s (k + (i + 1)) := by
  intro k _
  simp only [rmf]
  rw [if_neg (Nat.not_lt_zero _), if_neg (Nat.not_lt_zero _), if_neg (Nat.not_lt_zero _)]
  rw [show k + 1 + i = k + (i + 1) by omega]; exact ⟨rfl, rfl, rfl⟩
theorem mpS_e (s : SV) (i : Nat) : mpS s i = s_pc (plS s i) (fun j => sv_fs s (j + i)) (fun j => sv_fa s (j + i)) (fun j => sv_fk s (j + i)) (sv_ps s - i) := rfl
theorem skS_m (T : SV) (fs fa fk : Nat → Nat) (ps w k : Nat) : skS (rmS (s_pc T fs fa fk ps) 0) w k = s_sk (s_fl (s_g (rmS (s_pc T fs fa fk ps) 0) (stI (SW w) (sv_se T) (tgW w) (sv_g T) (sv_fl T) k).1) (stI (SW w) (sv_se T) (tgW w) (sv_g T) (sv_fl T) k).2) (sv_sk T + nI k) := by simp only [skS, s_sk, s_fl, s_g, s_mu, s_la, s_pc, rmS, mkS, sv_g, sv_cc, sv_cr, sv_nc, sv_se, sv_fs, sv_fa, sv_fk, sv_ps, sv_la, sv_st, sv_sw, sv_fl, sv_sk, sv_mu]
theorem mp_none {M : Nat → Int32} {s : SV} {i : Nat} (hw : wyO (plS s i) (bpN (sv_fs s i) (sv_fa s i)) = none) (h : RM M (s_la (s_mu (rmS (mpS s i) 0) (sv_mu (plS s i) + nI 1)) (sv_la (plS s i)))) : RM M (mpS s (i + 1)) := by
  obtain ⟨k1, k2, k3, k4, k5, k6, k7, k8, k9, k10⟩ := plS_k s i
  have e : plS s (i + 1) = mkS (sv_g (plS s i)) (sv_cc (plS s i)) (sv_cr (plS s i)) (sv_nc (plS s i)) (sv_se (plS s i)) (sv_fs (plS s i)) (sv_fa (plS s i)) (sv_fk (plS s i)) (sv_ps (plS s i)) (sv_la (plS s i)) (sv_st (plS s i)) (sv_sw (plS s i)) (sv_fl (plS s i)) (sv_sk (plS s i)) (sv_mu (plS s i) + nI 1) := by
    exact pl1_n (s := plS s i) (i := i) (by rw [k5, k6]; exact hw)
  rw [mpS_e s i] at h
  rw [mpS_e s (i + 1), e]
  clear k1 k2 k3 k4 k5 k6 k7 k8 k9 k10 e hw
  generalize plS s i = T at h ⊢
  simp only [s_sk, s_fl, s_g, s_mu, s_la, s_pc, rmS, mkS, sv_g, sv_cc, sv_cr, sv_nc, sv_se, sv_fs, sv_fa, sv_fk, sv_ps, sv_la, sv_st, sv_sw, sv_fl, sv_sk, sv_mu] at h ⊢
  refine RM_SE h ⟨fun _ _ => rfl, fun _ _ => rfl, rfl, rfl, rfl, rfl, rfl, rfl, rfl, fun _ _ => ⟨rfl, rfl⟩, ?_, fun k hk => mp_pc k hk⟩
  show s.2.2.2.2.2.2.2.2.1 - i - 1 = s.2.2.2.2.2.2.2.2.1 - (i + 1)
  omega
theorem mp_some {M : Nat → Int32} {s : SV} {i w : Nat} (hw : wyO (plS s i) (bpN (sv_fs s i) (sv_fa s i)) = some w) (h : RM M (s_la (s_mu (skS (rmS (mpS s i) 0) w (sv_fk s i)) (sv_mu (plS s i) + nI 0)) (nI w))) : RM M (mpS s (i + 1)) := by
  obtain ⟨k1, k2, k3, k4, k5, k6, k7, k8, k9, k10⟩ := plS_k s i
  have e : plS s (i + 1) = mkS (stI (SW w) (sv_se (plS s i)) (tgW w) (sv_g (plS s i)) (sv_fl (plS s i)) (sv_fk s i)).1 (sv_cc (plS s i)) (sv_cr (plS s i)) (sv_nc (plS s i)) (sv_se (plS s i)) (sv_fs (plS s i)) (sv_fa (plS s i)) (sv_fk (plS s i)) (sv_ps (plS s i)) (nI w) (sv_st (plS s i)) (sv_sw (plS s i)) (stI (SW w) (sv_se (plS s i)) (tgW w) (sv_g (plS s i)) (sv_fl (plS s i)) (sv_fk s i)).2 (sv_sk (plS s i) + nI (sv_fk s i)) (sv_mu (plS s i)) := by
    rw [show plS s (i + 1) = pl1 (plS s i) i from rfl, pl1_s (s := plS s i) (i := i) (w := w) (by rw [k5, k6]; exact hw), k7]
  rw [mpS_e s i, skS_m] at h
  rw [mpS_e s (i + 1), e]
  clear k1 k2 k3 k4 k5 k6 k7 k8 k9 k10 e hw
  generalize plS s i = T at h ⊢
  generalize stI (SW w) (sv_se T) (tgW w) (sv_g T) (sv_fl T) (sv_fk s i) = R at h ⊢
  rw [nI_0, Int32.add_zero] at h
  generalize sv_sk T + nI (sv_fk s i) = K at h ⊢
  simp only [s_sk, s_fl, s_g, s_mu, s_la, s_pc, rmS, mkS, sv_g, sv_cc, sv_cr, sv_nc, sv_se, sv_fs, sv_fa, sv_fk, sv_ps, sv_la, sv_st, sv_sw, sv_fl, sv_sk, sv_mu] at h ⊢
  refine RM_SE h ⟨fun _ _ => rfl, fun _ _ => rfl, rfl, rfl, rfl, rfl, rfl, rfl, rfl, fun _ _ => ⟨rfl, rfl⟩, ?_, fun k hk => mp_pc k hk⟩
  show s.2.2.2.2.2.2.2.2.1 - i - 1 = s.2.2.2.2.2.2.2.2.1 - (i + 1)
  omega
theorem mpS_0 {M : Nat → Int32} {s : SV} (h : RM M s) : RM M (mpS s 0) := h
