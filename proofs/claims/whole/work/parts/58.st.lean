/-! each call: the class and the twin answer alike, and hold the same then -/
def ST (l : Launch) (D : va_G) (z : Nat × Nat × Nat) (yx ym : MethodName) (tx tm : List Cond) (rx rm : Room) (Bd : Nat) (P : PS) (as : List Value) : Prop :=
  ∃ (ans : Int32) (P' : PS), IV (Bd + 14256) P' ∧ (∀ (a : Nat → Nat) (J : JS), CM l yx tx rx D z (.ref (a 0) :: as) (wX D a P J) (fun r w => r = some (.int ans) ∧ ∃ J', w = wX D a P' J') 0 0) ∧
    (∀ (b : Nat → Nat) (Q : QS), RQ Q P → CM l ym tm rm D z (.ref (b 0) :: as) (wM D b P Q) (fun r w => r = some (.int ans) ∧ ∃ Q', RQ Q' P' ∧ w = wM D b P' Q') 0 0)
theorem ST_mk {l : Launch} {D : va_G} {z : Nat × Nat × Nat} {yx ym : MethodName} {tx tm : List Cond} {rx rm : Room} {Bd : Nat} {P : PS} {as : List Value} {ans : Int32} {P' : PS} (hX : ∀ (a : Nat → Nat) (J : JS), CM l yx tx rx D z (.ref (a 0) :: as) (wX D a P J) (fun r w => r = some (.int ans) ∧ ∃ J', w = wX D a P' J') 0 0)
    (hM : ∀ (b : Nat → Nat) (Q : QS), RQ Q P → CM l ym tm rm D z (.ref (b 0) :: as) (wM D b P Q) (fun r w => r = some (.int ans) ∧ ∃ Q', RQ Q' P' ∧ w = wM D b P' Q') 0 0) (hI : IV (Bd + 14256) P') : ST l D z yx ym tx tm rx rm Bd P as := ⟨ans, P', hI, hX, hM⟩
theorem rng {k : Int32} {lo hi : Nat} (hl : lo < 2147483648) (hh : hi < 2147483647) (h : ¬ (k < nI lo ∨ nI hi < k)) : ∃ j, lo ≤ j ∧ j ≤ hi ∧ k = nI j := by
  rcases ix_c k (n := hi + 1) (by omega) with (h1 | h1) | ⟨j, hj, rfl⟩
  · exact absurd (Or.inl (Int32.lt_of_lt_of_le h1 (by rw [← nI_0]; exact nI_le (Nat.zero_le _) hl))) h
  · exact absurd (Or.inr (Int32.lt_of_lt_of_le (nI_lt (by omega) (by omega)) h1)) h
  · by_cases hlj : lo ≤ j
    · exact ⟨j, hlj, by omega, rfl⟩
    · exact absurd (Or.inl (nI_lt (by omega) (by omega))) h
theorem rng0 {k : Int32} {hi : Nat} (hh : hi < 2147483647) (h : ¬ (k < 0 ∨ nI hi < k)) : ∃ j, j ≤ hi ∧ k = nI j := by
  obtain ⟨j, -, h1, h2⟩ := rng (lo := 0) (by omega) hh (by rw [nI_0]; exact h)
  exact ⟨j, h1, h2⟩
theorem xy_in {x y : Int32} {n m : Nat} (hn : n < 2147483648) (hm : m < 2147483648) (h : (rgB x n && rgB y m) = true) : ∃ i j, i < n ∧ j < m ∧ x = nI i ∧ y = nI j := by
  rw [Bool.and_eq_true] at h
  obtain ⟨i, hi, rfl⟩ := (rgB_iff hn).mp h.1
  obtain ⟨j, hj, rfl⟩ := (rgB_iff hm).mp h.2
  exact ⟨i, j, hi, hj, rfl, rfl⟩
theorem bf_of {b : Bool} (h : ¬ b = true) : b = false := by cases b; rfl; exact absurd rfl h
theorem OKS_g {B B' : Nat} {s t : SV} (h : OKS B s) (e : sv_nc t = sv_nc s ∧ sv_cc t = sv_cc s ∧ sv_cr t = sv_cr s ∧ sv_ps t = sv_ps s ∧ sv_fs t = sv_fs s ∧ sv_fa t = sv_fa s ∧ sv_fk t = sv_fk s ∧ sv_la t = sv_la s) (hs : smN (sv_g t) 144 ≤ B') : OKS B' t := by
  obtain ⟨h1, h2, h3, h4, h5, h6⟩ := h
  obtain ⟨e1, e2, e3, e4, e5, e6, e7, e8⟩ := e
  exact ⟨by rw [e1]; exact h1, by rw [e1, e2, e3]; exact h2, by rw [e4]; exact h3, by rw [e4, e5, e6, e7]; exact h4, by rw [e8]; exact h5, hs⟩
theorem OKS_c {B : Nat} {s t : SV} (h : OKS B s) (e : sv_ps t = sv_ps s ∧ sv_fs t = sv_fs s ∧ sv_fa t = sv_fa s ∧ sv_fk t = sv_fk s ∧ sv_la t = sv_la s ∧ sv_g t = sv_g s) (h1 : sv_nc t ≤ 4) (h2 : ∀ j, j < sv_nc t → sv_cc t j < 12 ∧ sv_cr t j < 12) : OKS B t := by
  obtain ⟨-, -, h3, h4, h5, h6⟩ := h
  obtain ⟨e4, e5, e6, e7, e8, e9⟩ := e
  exact ⟨h1, h2, by rw [e4]; exact h3, by rw [e4, e5, e6, e7]; exact h4, by rw [e8]; exact h5, by rw [e9]; exact h6⟩
theorem OKS_p {B : Nat} {s t : SV} (h : OKS B s) (e : sv_nc t = sv_nc s ∧ sv_cc t = sv_cc s ∧ sv_cr t = sv_cr s ∧ sv_la t = sv_la s ∧ sv_g t = sv_g s) (h3 : sv_ps t ≤ 16) (h4 : ∀ j, j < sv_ps t → sv_fs t j < 4 ∧ sv_fa t j < 12 ∧ 1 ≤ sv_fk t j ∧ sv_fk t j ≤ 20) : OKS B t := by
  obtain ⟨h1, h2, -, -, h5, h6⟩ := h
  obtain ⟨e1, e2, e3, e8, e9⟩ := e
  exact ⟨by rw [e1]; exact h1, by rw [e1, e2, e3]; exact h2, h3, h4, by rw [e8]; exact h5, by rw [e9]; exact h6⟩
theorem drf_lt {f : Nat → Nat} {d n m c : Nat} (hf : ∀ j, j < n → f j < c) (hd : d < n) (hm : m = n - 1 - d) : ∀ j, j < n - 1 → drf f d m j < c := by
  intro j hj
  subst hm
  by_cases h : j < d
  · rw [drf_lo _ _ _ _ h]; exact hf j (by omega)
  · rw [drf_at _ _ _ _ (by omega) (by omega)]; exact hf (j + 1) (by omega)
theorem flt_ex {f g k : Nat → Nat} {p : Nat → Bool} {n j : Nat} (hj : j < cntB p n) : ∃ i, i < n ∧ flt f p n j = f i ∧ flt g p n j = g i ∧ flt k p n j = k i := by
  obtain ⟨i, h1, h2, h3⟩ := ex_nth hj
  have hn : nthP p n j = i := by rw [← h3]; exact nth_e h1 h2
  exact ⟨i, h1, by rw [flt_nth (N := n) n (Nat.le_refl _) j hj, hn], by rw [flt_nth (N := n) n (Nat.le_refl _) j hj, hn], by rw [flt_nth (N := n) n (Nat.le_refl _) j hj, hn]⟩
theorem rdP_ok {tx : Nat → Nat} {len : Nat} : ∀ (f c : Nat) (fs fa fk : Nat → Nat) (n : Nat), (∀ j, j < n → fs j < 4 ∧ fa j < 12 ∧ 1 ≤ fk j ∧ fk j ≤ 20) → ∀ j, j < (rdP tx len f c fs fa fk n).2.2.2.2.2 → (rdP tx len f c fs fa fk n).2.2.1 j < 4 ∧ (rdP tx len f c fs fa fk n).2.2.2.1 j < 12 ∧ 1 ≤ (rdP tx len f c fs fa fk n).2.2.2.2.1 j ∧ (rdP tx len f c fs fa fk n).2.2.2.2.1 j ≤ 20 := by
  intro f
  induction f with
  | zero => intro c fs fa fk n h; exact h
  | succ f ih =>
    intro c fs fa fk n h
    simp only [rdP]
    split
    · exact h
    · rename_i sd al k c1 hb
      have hbs := rdB_s hb
      have h2 : ∀ j, j < n + 1 → upf fs n sd j < 4 ∧ upf fa n al j < 12 ∧ 1 ≤ upf fk n k j ∧ upf fk n k j ≤ 20 := by
        intro j hj
        by_cases hjn : j = n
        · subst hjn; rw [upf_s, upf_s, upf_s]; omega
        · rw [upf_n hjn, upf_n hjn, upf_n hjn]; exact h j (by omega)
      split
      · exact h2
      · split
        · exact ih _ _ _ _ _ h2
        · exact h2
theorem IV_t {B : Nat} {P P' : PS} (h : IV B P) (e : p_s P' = p_s P ∧ p_sl P' = p_sl P ∧ p_o P' = p_o P ∧ p_hd P' = p_hd P ∧ p_sn P' = p_sn P ∧ p_hs P' = p_hs P) (h6 : p_tl P' ≤ 60) (h7 : ∀ j, j < p_tl P' → p_tx P' j < 65536) : IV B P' := by
  obtain ⟨h1, h2, h3, h4, h5, -, -⟩ := h
  obtain ⟨e1, e2, e3, e4, e5, e6⟩ := e
  refine ⟨by rw [e1]; exact h1, by rw [e3]; exact h2, by rw [e4]; exact h3, fun k hk => ?_, by rw [e5, e6]; exact h5, h6, h7⟩
  show OKS B (p_sl P' ((p_o P' + k) % 4))
  rw [e2, e3]; exact h4 k (by rw [← e4]; exact hk)
set_option maxRecDepth 100000 in
set_option maxHeartbeats 4000000 in
theorem ST_strew (l : Launch) (D : va_G) (z : Nat × Nat × Nat) {P : PS} {Bd : Nat} (hi : IV Bd P) (hB : Bd < 1073741824) (x y k : Int32) : ST l D z yX8_strew yX9_strew wsX8_strew wsX9_strew ({ frames := 5, cells := 0, slots := 0, locals := 109 } : Room) ({ frames := 2, cells := 0, slots := 0, locals := 43 } : Room) Bd P [.int x, .int y, .int k] := by
  by_cases h1 : (rgB x 12 && rgB y 12) = true
  · obtain ⟨i, j, hx, hy, rfl, rfl⟩ := xy_in (by decide) (by decide) h1
    by_cases h2 : k < nI 1 ∨ nI 99 < k
    · exact ST_mk (fun a J => X_strew_b2 l D z a P i j k J hi hB hx hy h2) (fun b Q hq => M_strew_b2 l D z b P i j k Q hi hB hq hx hy h2) (IV_up hi (Nat.le_add_right _ _))
    · obtain ⟨q, hk1, hk2, rfl⟩ := rng (by decide) (by decide) h2
      refine ST_mk (fun a J => X_strew_ok l D z a P i j q J hi hB hx hy hk1 hk2) (fun b Q hq => M_strew_ok l D z b P i j q Q hi hB hq hx hy hk1 hk2) (IV_rec (IV_up hi (Nat.le_add_right _ _)) (OKS_g hi.1 ⟨rfl, rfl, rfl, rfl, rfl, rfl, rfl, rfl⟩ ?_))
      show smN (upf (sv_g (p_s P)) (j * 12 + i) (sv_g (p_s P) (j * 12 + i) + q)) 144 ≤ _
      have h3 := smN_upf (g := sv_g (p_s P)) (k := j * 12 + i) (x := sv_g (p_s P) (j * 12 + i) + q) (n := 144) (by omega)
      have h4 := hi.1.2.2.2.2.2
      omega
  · exact ST_mk (fun a J => X_strew_b1 l D z a P x y k J hi hB (bf_of h1)) (fun b Q hq => M_strew_b1 l D z b P x y k Q hi hB hq (bf_of h1)) (IV_up hi (Nat.le_add_right _ _))
set_option maxRecDepth 100000 in
set_option maxHeartbeats 4000000 in
theorem ST_sweep (l : Launch) (D : va_G) (z : Nat × Nat × Nat) {P : PS} {Bd : Nat} (hi : IV Bd P) (hB : Bd < 1073741824) (k : Int32) : ST l D z yX8_sweep yX9_sweep wsX8_sweep wsX9_sweep ({ frames := 5, cells := 0, slots := 0, locals := 109 } : Room) ({ frames := 1, cells := 0, slots := 0, locals := 22 } : Room) Bd P [.int k] := by
  by_cases h2 : k < 0 ∨ nI 99 < k
  · exact ST_mk (fun a J => X_sweep_b1 l D z a P k J hi hB h2) (fun b Q hq => M_sweep_b1 l D z b P k Q hi hB hq h2) (IV_up hi (Nat.le_add_right _ _))
  · obtain ⟨q, hk2, rfl⟩ := rng0 (by decide) h2
    refine ST_mk (fun a J => X_sweep_ok l D z a P q J hi hB hk2) (fun b Q hq => M_sweep_ok l D z b P q Q hi hB hq hk2) (IV_rec (IV_up hi (Nat.le_add_right _ _)) (OKS_g hi.1 ⟨rfl, rfl, rfl, rfl, rfl, rfl, rfl, rfl⟩ ?_))
    show smN (cvf (sv_g (p_s P)) q 144) 144 ≤ _
    rw [smN_c]
    omega
set_option maxRecDepth 100000 in
set_option maxHeartbeats 4000000 in
theorem ST_clamp (l : Launch) (D : va_G) (z : Nat × Nat × Nat) {P : PS} {Bd : Nat} (hi : IV Bd P) (hB : Bd < 1073741824) (x y : Int32) : ST l D z yX8_clamp yX9_clamp wsX8_clamp wsX9_clamp ({ frames := 5, cells := 0, slots := 0, locals := 109 } : Room) ({ frames := 2, cells := 0, slots := 0, locals := 43 } : Room) Bd P [.int x, .int y] := by
  by_cases h1 : (rgB x 12 && rgB y 12) = true
  · obtain ⟨i, j, hx, hy, rfl, rfl⟩ := xy_in (by decide) (by decide) h1
    have hok := hi.1
    by_cases h4 : sv_nc (p_s P) = 4
    · exact ST_mk (fun a J => X_clamp_b2 l D z a P i j J hi hB hx hy (by omega)) (fun b Q hq => M_clamp_b2 l D z b P i j Q hi hB hq hx hy h4) (IV_up hi (Nat.le_add_right _ _))
    · have h3 : sv_nc (p_s P) < 4 := by have := hok.1; omega
      have he := cl_eq (s := p_s P) (y := j) hx hok.2.1
      cases hd : fdB (fun c => sv_cc (p_s P) c == i && sv_cr (p_s P) c == j) (sv_nc (p_s P)) with
      | some k => exact ST_mk (fun a J => X_clamp_b3 l D z a P i j k J hi hB hx hy h3 hd) (fun b Q hq => M_clamp_b3 l D z b P i j k Q hi hB hq hx hy h3 (by rw [← he]; exact hd)) (IV_up hi (Nat.le_add_right _ _))
      | none =>
        refine ST_mk (fun a J => X_clamp_ok l D z a P i j J hi hB hx hy h3 hd) (fun b Q hq => M_clamp_ok l D z b P i j Q hi hB hq hx hy h3 (by rw [← he]; exact hd)) (IV_rec (IV_up hi (Nat.le_add_right _ _)) (OKS_c (OKS_up hok (Nat.le_add_right _ _)) ⟨rfl, rfl, rfl, rfl, rfl, rfl⟩ ?_ ?_))
        · show sv_nc (p_s P) + 1 ≤ 4; omega
        · intro c hc
          have hc : c < sv_nc (p_s P) + 1 := hc
          show upf (sv_cc (p_s P)) (sv_nc (p_s P)) i c < 12 ∧ upf (sv_cr (p_s P)) (sv_nc (p_s P)) j c < 12
          by_cases hcn : c = sv_nc (p_s P)
          · rw [hcn, upf_s, upf_s]; exact ⟨hx, hy⟩
          · rw [upf_n hcn, upf_n hcn]; exact hok.2.1 c (by omega)
  · exact ST_mk (fun a J => X_clamp_b1 l D z a P x y J hi hB (bf_of h1)) (fun b Q hq => M_clamp_b1 l D z b P x y Q hi hB hq (bf_of h1)) (IV_up hi (Nat.le_add_right _ _))
set_option maxRecDepth 100000 in
set_option maxHeartbeats 4000000 in
theorem ST_unclamp (l : Launch) (D : va_G) (z : Nat × Nat × Nat) {P : PS} {Bd : Nat} (hi : IV Bd P) (hB : Bd < 1073741824) (x : Int32) : ST l D z yX8_unclamp yX9_unclamp wsX8_unclamp wsX9_unclamp ({ frames := 5, cells := 0, slots := 0, locals := 109 } : Room) ({ frames := 1, cells := 0, slots := 0, locals := 22 } : Room) Bd P [.int x] := by
  have hok := hi.1
  by_cases h1 : rgB x (sv_nc (p_s P)) = true
  · obtain ⟨d, hd, rfl⟩ := (rgB_iff (by have := hok.1; omega)).mp h1
    refine ST_mk (fun a J => X_unclamp_ok l D z a P d J hi hB hd) (fun b Q hq => M_unclamp_ok l D z b P d Q hi hB hq hd) (IV_rec (IV_up hi (Nat.le_add_right _ _)) (OKS_c (OKS_up hok (Nat.le_add_right _ _)) ⟨rfl, rfl, rfl, rfl, rfl, rfl⟩ ?_ ?_))
    · show sv_nc (p_s P) - 1 ≤ 4; have := hok.1; omega
    · intro c hc
      exact ⟨drf_lt (fun j hj => (hok.2.1 j hj).1) hd rfl c hc, drf_lt (fun j hj => (hok.2.1 j hj).2) hd rfl c hc⟩
  · exact ST_mk (fun a J => X_unclamp_b1 l D z a P x J hi hB (bf_of h1)) (fun b Q hq => M_unclamp_b1 l D z b P x Q hi hB hq (bf_of h1)) (IV_up hi (Nat.le_add_right _ _))
set_option maxRecDepth 100000 in
set_option maxHeartbeats 4000000 in
theorem ST_set (l : Launch) (D : va_G) (z : Nat × Nat × Nat) {P : PS} {Bd : Nat} (hi : IV Bd P) (hB : Bd < 1073741824) (w x : Int32) : ST l D z yX8_set yX9_set wsX8_set wsX9_set ({ frames := 5, cells := 0, slots := 0, locals := 109 } : Room) ({ frames := 1, cells := 0, slots := 0, locals := 22 } : Room) Bd P [.int w, .int x] := by
  have hok := hi.1
  by_cases h1 : rgB w 4 = true
  · obtain ⟨i, hw, rfl⟩ := (rgB_iff (by decide)).mp h1
    by_cases h2 : x < zL i ∨ zM i < x
    · exact ST_mk (fun a J => X_set_b2 l D z a P i x J hi hB hw h2) (fun b Q hq => M_set_b2 l D z b P i x Q hi hB hq hw h2) (IV_up hi (Nat.le_add_right _ _))
    · have h3 : ¬ x < zL i := fun h => h2 (Or.inl h)
      have h4 : x ≤ zM i := Int32.not_lt.mp (fun h => h2 (Or.inr h))
      by_cases h5 : x = sv_se (p_s P) i
      · exact ST_mk (fun a J => X_set_b3 l D z a P i x J hi hB hw h3 h4 h5) (fun b Q hq => M_set_b3 l D z b P i x Q hi hB hq hw h3 h4 h5) (IV_up hi (Nat.le_add_right _ _))
      · exact ST_mk (fun a J => X_set_ok l D z a P i x J hi hB hw h3 h4 h5) (fun b Q hq => M_set_ok l D z b P i x Q hi hB hq hw h3 h4 h5) (IV_rec (IV_up hi (Nat.le_add_right _ _)) (OKS_g hok ⟨rfl, rfl, rfl, rfl, rfl, rfl, rfl, rfl⟩ (Nat.le_trans hok.2.2.2.2.2 (Nat.le_add_right _ _))))
  · have h2 := bf_of h1
    exact ST_mk (fun a J => X_set_b1 l D z a P w x J hi hB (rgB_f h2 (by decide))) (fun b Q hq => M_set_b1 l D z b P w x Q hi hB hq h2) (IV_up hi (Nat.le_add_right _ _))
set_option maxRecDepth 100000 in
set_option maxHeartbeats 4000000 in
theorem ST_bow (l : Launch) (D : va_G) (z : Nat × Nat × Nat) {P : PS} {Bd : Nat} (hi : IV Bd P) (hB : Bd < 1073741824) (x y k : Int32) : ST l D z yX8_bow yX9_bow wsX8_bow wsX9_bow ({ frames := 5, cells := 0, slots := 0, locals := 109 } : Room) ({ frames := 2, cells := 0, slots := 0, locals := 43 } : Room) Bd P [.int x, .int y, .int k] := by
  have hok := hi.1
  by_cases h1 : (rgB x 4 && rgB y 12) = true
  · obtain ⟨i, j, hx, hy, rfl, rfl⟩ := xy_in (by decide) (by decide) h1
    by_cases h2 : k < nI 1 ∨ nI 20 < k
    · exact ST_mk (fun a J => X_bow_b2 l D z a P i j k J hi hB hx hy h2) (fun b Q hq => M_bow_b2 l D z b P i j k Q hi hB hq hx hy h2) (IV_up hi (Nat.le_add_right _ _))
    · obtain ⟨q, hk1, hk2, rfl⟩ := rng (by decide) (by decide) h2
      by_cases h4 : sv_ps (p_s P) = 16
      · exact ST_mk (fun a J => X_bow_b3 l D z a P i j q J hi hB hx hy hk1 hk2 (by omega)) (fun b Q hq => M_bow_b3 l D z b P i j q Q hi hB hq hx hy hk1 hk2 h4) (IV_up hi (Nat.le_add_right _ _))
      · have h3 : sv_ps (p_s P) < 16 := by have := hok.2.2.1; omega
        refine ST_mk (fun a J => X_bow_ok l D z a P i j q J hi hB hx hy hk1 hk2 h3) (fun b Q hq => M_bow_ok l D z b P i j q Q hi hB hq hx hy hk1 hk2 h3) (IV_rec (IV_up hi (Nat.le_add_right _ _)) (OKS_p (OKS_up hok (Nat.le_add_right _ _)) ⟨rfl, rfl, rfl, rfl, rfl⟩ ?_ ?_))
        · show sv_ps (p_s P) + 1 ≤ 16; omega
        · intro c hc
          have hc : c < sv_ps (p_s P) + 1 := hc
          show upf (sv_fs (p_s P)) (sv_ps (p_s P)) i c < 4 ∧ upf (sv_fa (p_s P)) (sv_ps (p_s P)) j c < 12 ∧ 1 ≤ upf (sv_fk (p_s P)) (sv_ps (p_s P)) q c ∧ upf (sv_fk (p_s P)) (sv_ps (p_s P)) q c ≤ 20
          by_cases hcn : c = sv_ps (p_s P)
          · rw [hcn, upf_s, upf_s, upf_s]; exact ⟨hx, hy, hk1, hk2⟩
          · rw [upf_n hcn, upf_n hcn, upf_n hcn]; exact hok.2.2.2.1 c (by omega)
  · exact ST_mk (fun a J => X_bow_b1 l D z a P x y k J hi hB (bf_of h1)) (fun b Q hq => M_bow_b1 l D z b P x y k Q hi hB hq (bf_of h1)) (IV_up hi (Nat.le_add_right _ _))
set_option maxRecDepth 100000 in
set_option maxHeartbeats 4000000 in
theorem ST_strike (l : Launch) (D : va_G) (z : Nat × Nat × Nat) {P : PS} {Bd : Nat} (hi : IV Bd P) (hB : Bd < 1073741824) (x : Int32) : ST l D z yX8_strike yX9_strike wsX8_strike wsX9_strike ({ frames := 5, cells := 0, slots := 0, locals := 109 } : Room) ({ frames := 1, cells := 0, slots := 0, locals := 22 } : Room) Bd P [.int x] := by
  have hok := hi.1
  by_cases h1 : rgB x 4 = true
  · obtain ⟨i, hx, rfl⟩ := (rgB_iff (by decide)).mp h1
    by_cases h2 : cntB (isB (sv_fs (p_s P)) i) (sv_ps (p_s P)) = 0
    · exact ST_mk (fun a J => X_strike_b2 l D z a P i J hi hB hx h2) (fun b Q hq => M_strike_b2 l D z b P i Q hi hB hq hx h2) (IV_up hi (Nat.le_add_right _ _))
    · have h3 : 0 < cntB (isB (sv_fs (p_s P)) i) (sv_ps (p_s P)) := Nat.pos_of_ne_zero h2
      have he : sv_ps (p_s P) - cntB (isN (sv_fs (p_s P)) i) (sv_ps (p_s P)) = cntB (isB (sv_fs (p_s P)) i) (sv_ps (p_s P)) := by
        have := cnt_not (f := sv_fs (p_s P)) (x := i) (n := sv_ps (p_s P)); omega
      refine ST_mk (fun a J => X_strike_ok l D z a P i J hi hB hx h3) (fun b Q hq => (M_strike_ok l D z b P i Q hi hB hq hx h3).post (fun r w h => ⟨by rw [he]; exact h.1, h.2⟩)) (IV_rec (IV_up hi (Nat.le_add_right _ _)) (OKS_p (OKS_up hok (Nat.le_add_right _ _)) ⟨rfl, rfl, rfl, rfl, rfl⟩ ?_ ?_))
      · show cntB (isN (sv_fs (p_s P)) i) (sv_ps (p_s P)) ≤ 16
        have := cntB_le (isN (sv_fs (p_s P)) i) (sv_ps (p_s P)); have := hok.2.2.1; omega
      · intro c hc
        obtain ⟨j, hj, e1, e2, e3⟩ := flt_ex (f := sv_fs (p_s P)) (g := sv_fa (p_s P)) (k := sv_fk (p_s P)) hc
        show flt (sv_fs (p_s P)) _ _ c < 4 ∧ flt (sv_fa (p_s P)) _ _ c < 12 ∧ 1 ≤ flt (sv_fk (p_s P)) _ _ c ∧ flt (sv_fk (p_s P)) _ _ c ≤ 20
        rw [e1, e2, e3]; exact hok.2.2.2.1 j hj
  · have h2 := bf_of h1
    exact ST_mk (fun a J => X_strike_b1 l D z a P x J hi hB (rgB_f h2 (by decide))) (fun b Q hq => M_strike_b1 l D z b P x Q hi hB hq h2) (IV_up hi (Nat.le_add_right _ _))
set_option maxRecDepth 100000 in
set_option maxHeartbeats 4000000 in
theorem ST_play (l : Launch) (D : va_G) (z : Nat × Nat × Nat) {P : PS} {Bd : Nat} (hi : IV Bd P) (hB : Bd < 1073741824) (k : Int32) : ST l D z yX8_play yX9_play wsX8_play wsX9_play ({ frames := 6, cells := 0, slots := 0, locals := 140 } : Room) ({ frames := 4, cells := 0, slots := 0, locals := 96 } : Room) Bd P [.int k] := by
  have hok := hi.1
  by_cases h2 : k < nI 1 ∨ nI 16 < k
  · exact ST_mk (fun a J => X_play_b1 l D z a P k J hi hB h2) (fun b Q hq => M_play_b1 l D z b P k Q hi hB hq h2) (IV_up hi (Nat.le_add_right _ _))
  · obtain ⟨q, hk1, hk2, rfl⟩ := rng (by decide) (by decide) h2
    by_cases h4 : sv_ps (p_s P) = 0
    · exact ST_mk (fun a J => X_play_b2 l D z a P q J hi hB hk1 hk2 h4) (fun b Q hq => M_play_b2 l D z b P q Q hi hB hq hk1 hk2 h4) (IV_up hi (Nat.le_add_right _ _))
    · have h3 : 0 < sv_ps (p_s P) := Nat.pos_of_ne_zero h4
      refine ST_mk (fun a J => X_play_ok l D z a P q J hi hB hk1 hk2 h3) (fun b Q hq => M_play_ok l D z b P q Q hi hB hq hk1 hk2 h3) (IV_rec (IV_up hi (Nat.le_add_right _ _)) (OKS_SE (s := mpS (p_s P) (min q (sv_ps (p_s P)))) (OKS_p (OKS_up (OKS_plS hok (min q (sv_ps (p_s P)))) (Nat.le_add_right _ _)) ⟨rfl, rfl, rfl, rfl, rfl⟩ ?_ ?_) (mp_SE _)))
      · show sv_ps (p_s P) - min q (sv_ps (p_s P)) ≤ 16; have := hok.2.2.1; omega
      · intro c hc
        have hc : c < sv_ps (p_s P) - min q (sv_ps (p_s P)) := hc
        exact hok.2.2.2.1 (c + min q (sv_ps (p_s P))) (by omega)
set_option maxRecDepth 100000 in
set_option maxHeartbeats 4000000 in
theorem ST_bowAll (l : Launch) (D : va_G) (z : Nat × Nat × Nat) {P : PS} {Bd : Nat} (hi : IV Bd P) (hB : Bd < 1073741824)  : ST l D z yX8_bowAll yX9_bowAll wsX8_bowAll wsX9_bowAll ({ frames := 5, cells := 0, slots := 0, locals := 109 } : Room) ({ frames := 4, cells := 0, slots := 0, locals := 99 } : Room) Bd P [] := by
  have hok := hi.1
  by_cases h1 : (rdP (p_tx P) (p_tl P) 60 0 (p_tf P) (p_ta P) (p_tk P) 0).1 = true
  · by_cases h2 : sv_ps (p_s P) + (rdP (p_tx P) (p_tl P) 60 0 (p_tf P) (p_ta P) (p_tk P) 0).2.2.2.2.2 ≤ 16
    · refine ST_mk (fun a J => X_bowAll_ok l D z a P J hi hB h1 h2) (fun b Q hq => M_bowAll_ok l D z b P Q hi hB hq h1 h2) (IV_t (IV_rec (IV_up hi (Nat.le_add_right _ _)) (OKS_p (t := (mkS (sv_g (p_s P)) (sv_cc (p_s P)) (sv_cr (p_s P)) (sv_nc (p_s P)) (sv_se (p_s P)) (apf (sv_fs (p_s P)) (rdP (p_tx P) (p_tl P) 60 0 (p_tf P) (p_ta P) (p_tk P) 0).2.2.1 (sv_ps (p_s P)) (rdP (p_tx P) (p_tl P) 60 0 (p_tf P) (p_ta P) (p_tk P) 0).2.2.2.2.2) (apf (sv_fa (p_s P)) (rdP (p_tx P) (p_tl P) 60 0 (p_tf P) (p_ta P) (p_tk P) 0).2.2.2.1 (sv_ps (p_s P)) (rdP (p_tx P) (p_tl P) 60 0 (p_tf P) (p_ta P) (p_tk P) 0).2.2.2.2.2) (apf (sv_fk (p_s P)) (rdP (p_tx P) (p_tl P) 60 0 (p_tf P) (p_ta P) (p_tk P) 0).2.2.2.2.1 (sv_ps (p_s P)) (rdP (p_tx P) (p_tl P) 60 0 (p_tf P) (p_ta P) (p_tk P) 0).2.2.2.2.2) (sv_ps (p_s P) + (rdP (p_tx P) (p_tl P) 60 0 (p_tf P) (p_ta P) (p_tk P) 0).2.2.2.2.2) (sv_la (p_s P)) (sv_st (p_s P)) (sv_sw (p_s P)) (sv_fl (p_s P)) (sv_sk (p_s P)) (sv_mu (p_s P)))) (OKS_up hok (Nat.le_add_right _ _)) ⟨rfl, rfl, rfl, rfl, rfl⟩ h2 ?_)) ⟨rfl, rfl, rfl, rfl, rfl, rfl⟩ hi.2.2.2.2.2.1 hi.2.2.2.2.2.2)
      intro c hc
      have hc : c < sv_ps (p_s P) + (rdP (p_tx P) (p_tl P) 60 0 (p_tf P) (p_ta P) (p_tk P) 0).2.2.2.2.2 := hc
      show apf _ _ _ _ c < 4 ∧ apf _ _ _ _ c < 12 ∧ 1 ≤ apf _ _ _ _ c ∧ apf _ _ _ _ c ≤ 20
      simp only [apf]
      by_cases hcp : c < sv_ps (p_s P)
      · rw [if_neg (by omega), if_neg (by omega), if_neg (by omega)]; exact hok.2.2.2.1 c hcp
      · rw [if_pos (by omega), if_pos (by omega), if_pos (by omega)]
        exact rdP_ok 60 0 _ _ _ 0 (fun j hj => absurd hj (Nat.not_lt_zero j)) (c - sv_ps (p_s P)) (by omega)
    · exact ST_mk (fun a J => X_bowAll_b2 l D z a P J hi hB h1 (by omega)) (fun b Q hq => M_bowAll_b2 l D z b P Q hi hB hq h1 (by omega)) (IV_t (IV_up hi (Nat.le_add_right _ _)) ⟨rfl, rfl, rfl, rfl, rfl, rfl⟩ hi.2.2.2.2.2.1 hi.2.2.2.2.2.2)
  · exact ST_mk (fun a J => X_bowAll_b1 l D z a P J hi hB (bf_of h1)) (fun b Q hq => M_bowAll_b1 l D z b P Q hi hB hq (bf_of h1)) (IV_t (IV_up hi (Nat.le_add_right _ _)) ⟨rfl, rfl, rfl, rfl, rfl, rfl⟩ hi.2.2.2.2.2.1 hi.2.2.2.2.2.2)
set_option maxRecDepth 100000 in
set_option maxHeartbeats 4000000 in
theorem ST_type (l : Launch) (D : va_G) (z : Nat × Nat × Nat) {P : PS} {Bd : Nat} (hi : IV Bd P) (hB : Bd < 1073741824) (x : Nat) (hx : x < 65536) : ST l D z yX8_type yX9_type wsX8_type wsX9_type ({ frames := 1, cells := 0, slots := 0, locals := 21 } : Room) ({ frames := 0, cells := 0, slots := 0, locals := 0 } : Room) Bd P [.int (nI x)] := by
  by_cases h1 : p_tl P = 60
  · exact ST_mk (fun a J => X_type_b1 l D z a P x J hi hB (by omega)) (fun b Q hq => M_type_b1 l D z b P x Q hi hB hq h1) (IV_up hi (Nat.le_add_right _ _))
  · have h2 : p_tl P < 60 := by have := hi.2.2.2.2.2.1; omega
    refine ST_mk (fun a J => X_type_ok l D z a P x J hi hB h2 hx) (fun b Q hq => M_type_ok l D z b P x Q hi hB hq h2 hx) (IV_t (IV_up hi (Nat.le_add_right _ _)) ⟨rfl, rfl, rfl, rfl, rfl, rfl⟩ ?_ ?_)
    · show p_tl P + 1 ≤ 60; omega
    · intro j hj
      have hj : j < p_tl P + 1 := hj
      show upf (p_tx P) (p_tl P) x j < 65536
      by_cases hjl : j = p_tl P
      · rw [hjl, upf_s]; exact hx
      · rw [upf_n hjl]; exact hi.2.2.2.2.2.2 j (by omega)
set_option maxRecDepth 100000 in
set_option maxHeartbeats 4000000 in
theorem ST_clearText (l : Launch) (D : va_G) (z : Nat × Nat × Nat) {P : PS} {Bd : Nat} (hi : IV Bd P) (hB : Bd < 1073741824)  : ST l D z yX8_clearText yX9_clearText wsX8_clearText wsX9_clearText ({ frames := 0, cells := 0, slots := 0, locals := 0 } : Room) ({ frames := 0, cells := 0, slots := 0, locals := 0 } : Room) Bd P [] := by
  exact ST_mk (fun a J => X_clearText l D z a P J hi hB) (fun b Q hq => M_clearText l D z b P Q hi hB hq) (IV_t (IV_up hi (Nat.le_add_right _ _)) ⟨rfl, rfl, rfl, rfl, rfl, rfl⟩ (Nat.zero_le _) (fun j hj => absurd hj (Nat.not_lt_zero j)))
set_option maxRecDepth 100000 in
set_option maxHeartbeats 4000000 in
theorem ST_undo (l : Launch) (D : va_G) (z : Nat × Nat × Nat) {P : PS} {Bd : Nat} (hi : IV Bd P) (hB : Bd < 1073741824)  : ST l D z yX8_undo yX9_undo wsX8_undo wsX9_undo ({ frames := 5, cells := 0, slots := 0, locals := 109 } : Room) ({ frames := 0, cells := 0, slots := 0, locals := 0 } : Room) Bd P [] := by
  by_cases h1 : p_hd P = 0
  · obtain ⟨s, sl, o, hd, sn, hs, tx, tl, tc, tf, ta, tk, tn⟩ := P
    have h1 : hd = 0 := h1
    subst h1
    exact ST_mk (fun a J => X_undo_b1 l D z a s sl o sn hs tx tl tc tf ta tk tn J hi hB) (fun b Q hq => M_undo_b1 l D z b s sl o sn hs tx tl tc tf ta tk tn Q hi hB hq) (IV_up hi (Nat.le_add_right _ _))
  · have h0 : 0 < p_hd P := Nat.pos_of_ne_zero h1
    have hk := hi.2.2.2.1 (p_hd P - 1) (by omega)
    refine ST_mk (fun a J => X_undo_ok l D z a P J hi hB h0) (fun b Q hq => M_undo_ok l D z b P Q hi hB hq h0) (?_)
    have hu := IV_up hi (Nat.le_add_right Bd 14256)
    exact ⟨OKS_SE (OKS_up hk (Nat.le_add_right _ _)) (cp_SE _ _ hk.1), hu.2.1, (by show p_hd P - 1 ≤ 4; have := hi.2.2.1; omega), (fun k hk2 => by have hk2 : k < p_hd P - 1 := hk2; exact hu.2.2.2.1 k (by omega)), hu.2.2.2.2.1, hu.2.2.2.2.2⟩
set_option maxRecDepth 100000 in
set_option maxHeartbeats 4000000 in
theorem ST_keep (l : Launch) (D : va_G) (z : Nat × Nat × Nat) {P : PS} {Bd : Nat} (hi : IV Bd P) (hB : Bd < 1073741824)  : ST l D z yX8_keep yX9_keep wsX8_keep wsX9_keep ({ frames := 4, cells := 0, slots := 0, locals := 87 } : Room) ({ frames := 1, cells := 0, slots := 0, locals := 22 } : Room) Bd P [] := by
  have hu := IV_up hi (Nat.le_add_right Bd 14256)
  exact ST_mk (fun a J => X_keep l D z a P J hi hB) (fun b Q hq => M_keep l D z b P Q hi hB hq) (⟨hu.1, hu.2.1, hu.2.2.1, hu.2.2.2.1, fun _ => OKS_SE hu.1 (cp_SE _ _ hu.1.1), hu.2.2.2.2.2⟩)
set_option maxRecDepth 100000 in
set_option maxHeartbeats 4000000 in
theorem ST_restore (l : Launch) (D : va_G) (z : Nat × Nat × Nat) {P : PS} {Bd : Nat} (hi : IV Bd P) (hB : Bd < 1073741824)  : ST l D z yX8_restore yX9_restore wsX8_restore wsX9_restore ({ frames := 5, cells := 0, slots := 0, locals := 109 } : Room) ({ frames := 1, cells := 0, slots := 0, locals := 22 } : Room) Bd P [] := by
  obtain ⟨s, sl, o, hd, sn, hs, tx, tl, tc, tf, ta, tk, tn⟩ := P
  cases hs with
  | false => exact ST_mk (fun a J => X_restore_b1 l D z a s sl o hd sn tx tl tc tf ta tk tn J hi hB) (fun b Q hq => M_restore_b1 l D z b s sl o hd sn tx tl tc tf ta tk tn Q hi hB hq) (IV_up hi (Nat.le_add_right _ _))
  | true =>
    have hn := hi.2.2.2.2.1 rfl
    have he : smN (sv_g (cpS s sn)) 144 = smN (sv_g sn) 144 := smN_eq (fun j hj => cpy_all hj)
    exact ST_mk (fun a J => X_restore_ok l D z a s sl o hd sn tx tl tc tf ta tk tn J hi hB) (fun b Q hq => (M_restore_ok l D z b s sl o hd sn tx tl tc tf ta tk tn Q hi hB hq).post (fun r w h => ⟨by rw [he]; exact h.1, h.2⟩)) (IV_rec (IV_up hi (Nat.le_add_right _ _)) (OKS_SE (OKS_up hn (Nat.le_add_right _ _)) (cp_SE _ _ hn.1)))