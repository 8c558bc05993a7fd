/-! the twin: changes of its row of numbers -/
def s_g (s : SV) (g : Nat → Nat) : SV := mkS g (sv_cc s) (sv_cr s) (sv_nc s) (sv_se s) (sv_fs s) (sv_fa s) (sv_fk s) (sv_ps s) (sv_la s) (sv_st s) (sv_sw s) (sv_fl s) (sv_sk s) (sv_mu s)
def s_cl (s : SV) (cc cr : Nat → Nat) (nc : Nat) : SV := mkS (sv_g s) cc cr nc (sv_se s) (sv_fs s) (sv_fa s) (sv_fk s) (sv_ps s) (sv_la s) (sv_st s) (sv_sw s) (sv_fl s) (sv_sk s) (sv_mu s)
def s_se (s : SV) (se : Nat → Int32) : SV := mkS (sv_g s) (sv_cc s) (sv_cr s) (sv_nc s) se (sv_fs s) (sv_fa s) (sv_fk s) (sv_ps s) (sv_la s) (sv_st s) (sv_sw s) (sv_fl s) (sv_sk s) (sv_mu s)
def s_pc (s : SV) (fs fa fk : Nat → Nat) (ps : Nat) : SV := mkS (sv_g s) (sv_cc s) (sv_cr s) (sv_nc s) (sv_se s) fs fa fk ps (sv_la s) (sv_st s) (sv_sw s) (sv_fl s) (sv_sk s) (sv_mu s)
def s_la (s : SV) (x : Int32) : SV := mkS (sv_g s) (sv_cc s) (sv_cr s) (sv_nc s) (sv_se s) (sv_fs s) (sv_fa s) (sv_fk s) (sv_ps s) x (sv_st s) (sv_sw s) (sv_fl s) (sv_sk s) (sv_mu s)
def s_st (s : SV) (x : Int32) : SV := mkS (sv_g s) (sv_cc s) (sv_cr s) (sv_nc s) (sv_se s) (sv_fs s) (sv_fa s) (sv_fk s) (sv_ps s) (sv_la s) x (sv_sw s) (sv_fl s) (sv_sk s) (sv_mu s)
def s_sw (s : SV) (x : Int32) : SV := mkS (sv_g s) (sv_cc s) (sv_cr s) (sv_nc s) (sv_se s) (sv_fs s) (sv_fa s) (sv_fk s) (sv_ps s) (sv_la s) (sv_st s) x (sv_fl s) (sv_sk s) (sv_mu s)
def s_fl (s : SV) (x : Int32) : SV := mkS (sv_g s) (sv_cc s) (sv_cr s) (sv_nc s) (sv_se s) (sv_fs s) (sv_fa s) (sv_fk s) (sv_ps s) (sv_la s) (sv_st s) (sv_sw s) x (sv_sk s) (sv_mu s)
def s_sk (s : SV) (x : Int32) : SV := mkS (sv_g s) (sv_cc s) (sv_cr s) (sv_nc s) (sv_se s) (sv_fs s) (sv_fa s) (sv_fk s) (sv_ps s) (sv_la s) (sv_st s) (sv_sw s) (sv_fl s) x (sv_mu s)
def s_mu (s : SV) (x : Int32) : SV := mkS (sv_g s) (sv_cc s) (sv_cr s) (sv_nc s) (sv_se s) (sv_fs s) (sv_fa s) (sv_fk s) (sv_ps s) (sv_la s) (sv_st s) (sv_sw s) (sv_fl s) (sv_sk s) x
section RMy
variable {M : Nat → Int32} {s : SV}
/-- a change at one place: what is elsewhere stays -/
theorem RM_upd {q : Nat} {v : Int32} {t : SV} (h : RM M s)
    (hg : ∀ p, p < 144 → (if p = q then v else nI (sv_g s p)) = nI (sv_g t p)) (hse : ∀ k, k < 4 → (if 144 + k = q then v else sv_se s k) = sv_se t k)
    (hst : (if 148 = q then v else sv_st s) = sv_st t) (hsw : (if 149 = q then v else sv_sw s) = sv_sw t) (hfl : (if 150 = q then v else sv_fl s) = sv_fl t) (hsk : (if 151 = q then v else sv_sk s) = sv_sk t) (hmu : (if 152 = q then v else sv_mu s) = sv_mu t)
    (hla : (if 153 = q then v else laM (sv_la s)) = laM (sv_la t)) (hnc : (if 154 = q then v else nI (sv_nc s)) = nI (sv_nc t)) (hcl : ∀ c, c < sv_nc t → upd M q v (155 + c) = nI (12 * sv_cr t c + sv_cc t c))
    (hps : (if 159 = q then v else nI (sv_ps s)) = nI (sv_ps t)) (hb : ∀ k, k < sv_ps t → upd M q v (160 + 3 * k) = nI (sv_fs t k) ∧ upd M q v (160 + 3 * k + 1) = nI (sv_fa t k) ∧ upd M q v (160 + 3 * k + 2) = nI (sv_fk t k)) : RM (upd M q v) t := by
  obtain ⟨h1, h2, h3, h4, h5, h6, h7, h8, h9, h10, h11, h12⟩ := h
  refine ⟨fun p hp => ?_, fun k hk => ?_, ?_, ?_, ?_, ?_, ?_, ?_, ?_, hcl, ?_, hb⟩
  · rw [← hg p hp, ← h1 p hp]; rfl
  · rw [← hse k hk, ← h2 k hk]; rfl
  · rw [← hst, ← h3]; rfl
  · rw [← hsw, ← h4]; rfl
  · rw [← hfl, ← h5]; rfl
  · rw [← hsk, ← h6]; rfl
  · rw [← hmu, ← h7]; rfl
  · rw [← hla, ← h8]; rfl
  · rw [← hnc, ← h9]; rfl
  · rw [← hps, ← h11]; rfl
theorem RM_keepC {q : Nat} {v : Int32} (h : RM M s) (hq : q < 155 ∨ 155 + sv_nc s ≤ q) : ∀ c, c < sv_nc s → upd M q v (155 + c) = nI (12 * sv_cr s c + sv_cc s c) := by
  intro c hc; rw [pk_un (by omega)]; exact RM_cl h hc
theorem RM_keepB {q : Nat} {v : Int32} (h : RM M s) (hq : q < 160 ∨ 160 + 3 * sv_ps s ≤ q) : ∀ k, k < sv_ps s → upd M q v (160 + 3 * k) = nI (sv_fs s k) ∧ upd M q v (160 + 3 * k + 1) = nI (sv_fa s k) ∧ upd M q v (160 + 3 * k + 2) = nI (sv_fk s k) := by
  intro k hk; rw [pk_un (by omega), pk_un (by omega), pk_un (by omega)]; exact RM_b h hk
theorem RM_wg (h : RM M s) {p v : Nat} (hp : p < 144) : RM (upd M p (nI v)) (s_g s (upf (sv_g s) p v)) := by
  refine RM_upd h (fun q _ => ?_) (fun k _ => if_neg (by omega)) (if_neg (by omega)) (if_neg (by omega)) (if_neg (by omega)) (if_neg (by omega)) (if_neg (by omega)) (if_neg (by omega)) (if_neg (by omega)) (RM_keepC (s := s) h (by omega)) (if_neg (by omega)) (RM_keepB (s := s) h (by omega))
  show _ = nI (upf (sv_g s) p v q)
  by_cases hq : q = p
  · rw [if_pos hq, hq, upf_s]
  · rw [if_neg hq, upf_n hq]
theorem RM_wse (h : RM M s) {w : Nat} {x : Int32} (hw : w < 4) : RM (upd M (144 + w) x) (s_se s (upd (sv_se s) w x)) := by
  refine RM_upd h (fun q _ => if_neg (by omega)) (fun k _ => ?_) (if_neg (by omega)) (if_neg (by omega)) (if_neg (by omega)) (if_neg (by omega)) (if_neg (by omega)) (if_neg (by omega)) (if_neg (by omega)) (RM_keepC (s := s) h (by omega)) (if_neg (by omega)) (RM_keepB (s := s) h (by omega))
  show _ = upd (sv_se s) w x k
  by_cases hk : k = w
  · rw [if_pos (by omega), hk, pk_us]
  · rw [if_neg (by omega), pk_un hk]
theorem RM_wst (h : RM M s) {x : Int32} : RM (upd M 148 x) (s_st s x) := RM_upd h (fun q _ => if_neg (by omega)) (fun k _ => if_neg (by omega)) (if_pos rfl) (if_neg (by omega)) (if_neg (by omega)) (if_neg (by omega)) (if_neg (by omega)) (if_neg (by omega)) (if_neg (by omega)) (RM_keepC (s := s) h (by omega)) (if_neg (by omega)) (RM_keepB (s := s) h (by omega))
theorem RM_wsw (h : RM M s) {x : Int32} : RM (upd M 149 x) (s_sw s x) := RM_upd h (fun q _ => if_neg (by omega)) (fun k _ => if_neg (by omega)) (if_neg (by omega)) (if_pos rfl) (if_neg (by omega)) (if_neg (by omega)) (if_neg (by omega)) (if_neg (by omega)) (if_neg (by omega)) (RM_keepC (s := s) h (by omega)) (if_neg (by omega)) (RM_keepB (s := s) h (by omega))
theorem RM_wfl (h : RM M s) {x : Int32} : RM (upd M 150 x) (s_fl s x) := RM_upd h (fun q _ => if_neg (by omega)) (fun k _ => if_neg (by omega)) (if_neg (by omega)) (if_neg (by omega)) (if_pos rfl) (if_neg (by omega)) (if_neg (by omega)) (if_neg (by omega)) (if_neg (by omega)) (RM_keepC (s := s) h (by omega)) (if_neg (by omega)) (RM_keepB (s := s) h (by omega))
theorem RM_wsk (h : RM M s) {x : Int32} : RM (upd M 151 x) (s_sk s x) := RM_upd h (fun q _ => if_neg (by omega)) (fun k _ => if_neg (by omega)) (if_neg (by omega)) (if_neg (by omega)) (if_neg (by omega)) (if_pos rfl) (if_neg (by omega)) (if_neg (by omega)) (if_neg (by omega)) (RM_keepC (s := s) h (by omega)) (if_neg (by omega)) (RM_keepB (s := s) h (by omega))
theorem RM_wmu (h : RM M s) {x : Int32} : RM (upd M 152 x) (s_mu s x) := RM_upd h (fun q _ => if_neg (by omega)) (fun k _ => if_neg (by omega)) (if_neg (by omega)) (if_neg (by omega)) (if_neg (by omega)) (if_neg (by omega)) (if_pos rfl) (if_neg (by omega)) (if_neg (by omega)) (RM_keepC (s := s) h (by omega)) (if_neg (by omega)) (RM_keepB (s := s) h (by omega))
theorem RM_wla (h : RM M s) {x y : Int32} (hx : y = laM x) : RM (upd M 153 y) (s_la s x) := RM_upd h (fun q _ => if_neg (by omega)) (fun k _ => if_neg (by omega)) (if_neg (by omega)) (if_neg (by omega)) (if_neg (by omega)) (if_neg (by omega)) (if_neg (by omega)) ((if_pos rfl).trans hx) (if_neg (by omega)) (RM_keepC (s := s) h (by omega)) (if_neg (by omega)) (RM_keepB (s := s) h (by omega))
/-- a clamp's place behind the last one -/
theorem RM_stC (h : RM M s) {c : Nat} {v : Int32} (hc : sv_nc s ≤ c) (hc4 : c < 4) : RM (upd M (155 + c) v) s := RM_upd h (fun q _ => if_neg (by omega)) (fun k _ => if_neg (by omega)) (if_neg (by omega)) (if_neg (by omega)) (if_neg (by omega)) (if_neg (by omega)) (if_neg (by omega)) (if_neg (by omega)) (if_neg (by omega)) (RM_keepC (s := s) h (by omega)) (if_neg (by omega)) (RM_keepB (s := s) h (by omega))
theorem RM_wnc (h : RM M s) {x y : Nat} (hn : sv_nc s < 4) (hv : M (155 + sv_nc s) = nI (12 * y + x)) : RM (upd M 154 (nI (sv_nc s + 1))) (s_cl s (upf (sv_cc s) (sv_nc s) x) (upf (sv_cr s) (sv_nc s) y) (sv_nc s + 1)) := by
  refine RM_upd h (fun q _ => if_neg (by omega)) (fun k _ => if_neg (by omega)) (if_neg (by omega)) (if_neg (by omega)) (if_neg (by omega)) (if_neg (by omega)) (if_neg (by omega)) (if_neg (by omega)) (if_pos rfl) (fun c hc => ?_) (if_neg (by omega)) (RM_keepB (s := s) h (by omega))
  have hc : c < sv_nc s + 1 := hc
  show _ = nI (12 * upf (sv_cr s) (sv_nc s) y c + upf (sv_cc s) (sv_nc s) x c)
  rw [pk_un (by omega)]
  by_cases h1 : c = sv_nc s
  · rw [h1, upf_s, upf_s]; exact hv
  · rw [upf_n h1, upf_n h1]; exact RM_cl h (by omega)
/-- a bowing's places behind the last one -/
theorem RM_stB (h : RM M s) {q : Nat} {v : Int32} (hq : 160 + 3 * sv_ps s ≤ q) (hn : sv_nc s ≤ 4) : RM (upd M q v) s := RM_upd h (fun q _ => if_neg (by omega)) (fun k _ => if_neg (by omega)) (if_neg (by omega)) (if_neg (by omega)) (if_neg (by omega)) (if_neg (by omega)) (if_neg (by omega)) (if_neg (by omega)) (if_neg (by omega)) (RM_keepC (s := s) h (by omega)) (if_neg (by omega)) (RM_keepB (s := s) h (by omega))
theorem RM_wps (h : RM M s) {x y t : Nat} (hn : sv_nc s ≤ 4) (h1 : M (160 + 3 * sv_ps s) = nI x) (h2 : M (160 + 3 * sv_ps s + 1) = nI y) (h3 : M (160 + 3 * sv_ps s + 2) = nI t) : RM (upd M 159 (nI (sv_ps s + 1))) (s_pc s (upf (sv_fs s) (sv_ps s) x) (upf (sv_fa s) (sv_ps s) y) (upf (sv_fk s) (sv_ps s) t) (sv_ps s + 1)) := by
  refine RM_upd h (fun q _ => if_neg (by omega)) (fun k _ => if_neg (by omega)) (if_neg (by omega)) (if_neg (by omega)) (if_neg (by omega)) (if_neg (by omega)) (if_neg (by omega)) (if_neg (by omega)) (if_neg (by omega)) (RM_keepC (s := s) h (by omega)) (if_pos rfl) (fun k hk => ?_)
  have hk : k < sv_ps s + 1 := hk
  show _ = nI (upf (sv_fs s) (sv_ps s) x k) ∧ _ = nI (upf (sv_fa s) (sv_ps s) y k) ∧ _ = nI (upf (sv_fk s) (sv_ps s) t k)
  rw [pk_un (by omega), pk_un (by omega), pk_un (by omega)]
  by_cases hkp : k = sv_ps s
  · rw [hkp, upf_s, upf_s, upf_s]; exact ⟨h1, h2, h3⟩
  · rw [upf_n hkp, upf_n hkp, upf_n hkp]; exact RM_b h (by omega)
theorem RM_gE (h : RM M s) {q p : Nat} (e : q = p) (hp : p < 144) : M q = nI (sv_g s p) := by rw [e]; exact RM_g h hp
theorem RM_seE (h : RM M s) {q p : Nat} (e : q = 144 + p) (hp : p < 4) : M q = sv_se s p := by rw [e]; exact RM_se h hp
/-- the same row, seen place by place -/
theorem RM_eq {N : Nat → Int32} (h : RM M s) (hn : sv_nc s ≤ 4) (hp : sv_ps s ≤ 16) (he : ∀ j, j < 208 → N j = M j) : RM N s := by
  obtain ⟨h1, h2, h3, h4, h5, h6, h7, h8, h9, h10, h11, h12⟩ := h
  refine ⟨fun p hp => ?_, fun k hk => ?_, ?_, ?_, ?_, ?_, ?_, ?_, ?_, fun c hc => ?_, ?_, fun k hk => ?_⟩
  · rw [he _ (by omega)]; exact h1 p hp
  · rw [he _ (by omega)]; exact h2 k hk
  · rw [he _ (by omega)]; exact h3
  · rw [he _ (by omega)]; exact h4
  · rw [he _ (by omega)]; exact h5
  · rw [he _ (by omega)]; exact h6
  · rw [he _ (by omega)]; exact h7
  · rw [he _ (by omega)]; exact h8
  · rw [he _ (by omega)]; exact h9
  · rw [he _ (by omega)]; exact h10 c hc
  · rw [he _ (by omega)]; exact h11
  · rw [he _ (by omega), he _ (by omega), he _ (by omega)]; exact h12 k hk
end RMy
/-! the rows of former states -/
def sh1 (B : Nat → Int32) (i : Nat) : Nat → Int32 := fun j => if j < i then B (208 + j) else B j
theorem sh1_0 (B : Nat → Int32) : sh1 B 0 = B := by funext j; simp [sh1]
theorem sh1_s (B : Nat → Int32) (i : Nat) : upd (sh1 B i) i (sh1 B i (208 + i)) = sh1 B (i + 1) := by
  funext j
  by_cases h : j = i
  · subst h; simp only [upd, sh1]; rw [if_pos trivial, if_neg (by omega), if_pos (by omega)]
  · simp only [upd, sh1]; rw [if_neg h]
    by_cases h2 : j < i
    · rw [if_pos h2, if_pos (by omega)]
    · rw [if_neg h2, if_neg (by omega)]
def mwF (B M : Nat → Int32) (k i : Nat) : Nat → Int32 := fun j => if 208 * k ≤ j ∧ j < 208 * k + i then M (j - 208 * k) else B j
theorem mwF_0 (B M : Nat → Int32) (k : Nat) : mwF B M k 0 = B := by funext j; simp only [mwF]; rw [if_neg (by omega)]
theorem mwF_s (B M : Nat → Int32) (k i : Nat) : upd (mwF B M k i) (208 * k + i) (M i) = mwF B M k (i + 1) := by
  funext j
  by_cases h : j = 208 * k + i
  · subst h; simp only [upd, mwF]; rw [if_pos trivial, if_pos (by omega)]; congr 1; omega
  · simp only [upd, mwF]; rw [if_neg h]
    by_cases h2 : 208 * k ≤ j ∧ j < 208 * k + i
    · rw [if_pos h2, if_pos (by omega)]
    · rw [if_neg h2, if_neg (by omega)]
def kwF (B M : Nat → Int32) (kn : Nat) : Nat → Int32 := if kn = 4 then mwF (sh1 B 624) M 3 208 else mwF B M kn 208
theorem inI_n1 (x : Int32) {n : Nat} (hn : n ≤ 4) : inI x (nI 0) (nI n - nI 1) = rgB x n := by
  cases n with
  | zero =>
    rcases ix_c x (n := 0) (by omega) with (h | h) | ⟨j, hj, rfl⟩
    · rw [rgB_neg h, inI_f (Or.inl (by rw [nI_0]; exact h))]
    · rw [rgB_ge h, inI_f (Or.inr ?_)]
      rw [nI_0] at h ⊢
      have h2 : (0 : Int32) - nI 1 < 0 := by decide +kernel
      exact Int32.lt_of_lt_of_le h2 h
    · omega
  | succ m => rw [pk_sub (by omega)]; exact inI_r x (by omega)
def shf (M : Nat → Int32) (a w i : Nat) : Nat → Int32 := fun j => if a ≤ j ∧ j < a + i then M (j + w) else M j
theorem shf_0 (M : Nat → Int32) (a w : Nat) : shf M a w 0 = M := by funext j; simp only [shf]; rw [if_neg (by omega)]
theorem shf_s (M : Nat → Int32) (a w i : Nat) (hw : 0 < w) : upd (shf M a w i) (a + i) (shf M a w i (a + i + w)) = shf M a w (i + 1) := by
  funext j
  by_cases h : j = a + i
  · subst h; simp only [upd, shf]; rw [if_pos trivial, if_neg (by omega), if_pos (by omega)]
  · simp only [upd, shf]; rw [if_neg h]
    by_cases h2 : a ≤ j ∧ j < a + i
    · rw [if_pos h2, if_pos (by omega)]
    · rw [if_neg h2, if_neg (by omega)]
theorem shf_lo {M : Nat → Int32} {a w i j : Nat} (h : j < a ∨ a + i ≤ j) : shf M a w i j = M j := by simp only [shf]; rw [if_neg (by omega)]
theorem shf_in {M : Nat → Int32} {a w i j : Nat} (h : a ≤ j ∧ j < a + i) : shf M a w i j = M (j + w) := by simp only [shf]; rw [if_pos h]
theorem RM_drop {M : Nat → Int32} {s : SV} (h : RM M s) {d : Nat} (hd : d < sv_nc s) (hn : sv_nc s ≤ 4) : RM (shf (upd M 154 (nI (sv_nc s - 1))) (155 + d) 1 (sv_nc s - 1 - d)) (s_cl s (drf (sv_cc s) d (sv_nc s - 1 - d)) (drf (sv_cr s) d (sv_nc s - 1 - d)) (sv_nc s - 1)) := by
  obtain ⟨h1, h2, h3, h4, h5, h6, h7, h8, h9, h10, h11, h12⟩ := h
  refine ⟨fun p hp => ?_, fun k hk => ?_, ?_, ?_, ?_, ?_, ?_, ?_, ?_, fun c hc => ?_, ?_, fun k hk => ?_⟩
  · rw [shf_lo (by omega), pk_un (by omega)]; exact h1 p hp
  · rw [shf_lo (by omega), pk_un (by omega)]; exact h2 k hk
  · rw [shf_lo (by omega), pk_un (by omega)]; exact h3
  · rw [shf_lo (by omega), pk_un (by omega)]; exact h4
  · rw [shf_lo (by omega), pk_un (by omega)]; exact h5
  · rw [shf_lo (by omega), pk_un (by omega)]; exact h6
  · rw [shf_lo (by omega), pk_un (by omega)]; exact h7
  · rw [shf_lo (by omega), pk_un (by omega)]; exact h8
  · rw [shf_lo (by omega), pk_us]; rfl
  · have hc : c < sv_nc s - 1 := hc
    show _ = nI (12 * drf (sv_cr s) d (sv_nc s - 1 - d) c + drf (sv_cc s) d (sv_nc s - 1 - d) c)
    by_cases hcd : c < d
    · rw [shf_lo (by omega), pk_un (by omega), drf_lo _ _ _ _ hcd, drf_lo _ _ _ _ hcd]; exact h10 c (by omega)
    · rw [shf_in (by omega), pk_un (by omega), drf_at _ _ _ _ (by omega) (by omega), drf_at _ _ _ _ (by omega) (by omega)]; exact h10 (c + 1) (by omega)
  · rw [shf_lo (by omega), pk_un (by omega)]; exact h11
  · have hk : k < sv_ps s := hk
    rw [shf_lo (by omega), shf_lo (by omega), shf_lo (by omega), pk_un (by omega), pk_un (by omega), pk_un (by omega)]; exact h12 k hk
def cpF (A C : Nat → Int32) (i : Nat) : Nat → Int32 := fun j => if j < i then C j else A j
theorem cpF_0 (A C : Nat → Int32) : cpF A C 0 = A := by funext j; simp [cpF]
theorem cpF_s (A C : Nat → Int32) (i : Nat) : upd (cpF A C i) i (C i) = cpF A C (i + 1) := by
  funext j
  by_cases h : j = i
  · subst h; simp only [upd, cpF]; rw [if_pos trivial, if_pos (by omega)]
  · simp only [upd, cpF]; rw [if_neg h]
    by_cases h2 : j < i
    · rw [if_pos h2, if_pos (by omega)]
    · rw [if_neg h2, if_neg (by omega)]
