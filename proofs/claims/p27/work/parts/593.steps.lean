/-! each call of the law: an answer that is no error below -5, and a plate that is in order then -/
def S1 (l : Launch) (D : va_G) (z : Nat × Nat × Nat) (yx : MethodName) (tx : List Cond) (rx : Room) (Bd : Nat) (P : PS) (as : List Value) : Prop :=
  ∃ (ans : Int32) (P' : PS), ¬ ans < -5 ∧ IW (Bd + 14256) P' ∧ ∀ (a : Nat → Nat) (J : JS), CM l yx tx rx D z (.ref (a 0) :: as) (wX D a P J) (fun r w => r = some (.int ans) ∧ ∃ J', w = wX D a P' J') 0 0
theorem S1_mk {l : Launch} {D : va_G} {z : Nat × Nat × Nat} {yx : MethodName} {tx : List Cond} {rx : Room} {Bd : Nat} {P : PS} {as : List Value} {ans : Int32} {P' : PS} (hX : ∀ (a : Nat → Nat) (J : JS), CM l yx tx rx D z (.ref (a 0) :: as) (wX D a P J) (fun r w => r = some (.int ans) ∧ ∃ J', w = wX D a P' J') 0 0) (ha : ¬ ans < -5) (hI : IW (Bd + 14256) P') : S1 l D z yx tx rx Bd P as := ⟨ans, P', ha, hI, hX⟩
theorem n5p {x : Int32} (h : ¬ x < 0) : ¬ x < -5 := fun h2 => h (Int32.lt_trans h2 (by decide +kernel))
theorem n5 {k : Nat} (h : k < 2147483648) : ¬ nI k < -5 := n5p (nI_pos h)
theorem S_strew (l : Launch) (D : va_G) (z : Nat × Nat × Nat) {P : PS} {Bd : Nat} (h : IW Bd P) (hB : Bd < 1073741824) {x y k : Nat} (hx : x < 12) (hy : y < 12) (hk1 : 1 ≤ k) (hk2 : k ≤ 99) : S1 l D z yX8_strew wsX8_strew ({ frames := 5, cells := 0, slots := 0, locals := 109 } : Room) Bd P [.int (nI x), .int (nI y), .int (nI k)] := by
  have hi := h.1
  have hok := hi.1
  have hg := smN_ge (g := sv_g (p_s P)) (k := y * 12 + x) (n := 144) (by omega)
  have h3 := smN_upf (g := sv_g (p_s P)) (k := y * 12 + x) (x := sv_g (p_s P) (y * 12 + x) + k) (n := 144) (by omega)
  have h4 := hok.2.2.2.2.2
  refine S1_mk (fun a J => X_strew_ok l D z a P x y k J hi hB hx hy hk1 hk2) (n5 (by omega)) (IW_rec (IW_up h (Nat.le_add_right _ _)) (OKS_g hok ⟨rfl, rfl, rfl, rfl, rfl, rfl, rfl, rfl⟩ ?_) ⟨h.2.1.1, h.2.1.2.1, ?_⟩)
  · show smN (upf (sv_g (p_s P)) (y * 12 + x) (sv_g (p_s P) (y * 12 + x) + k)) 144 ≤ _
    omega
  · show nI (smN (upf (sv_g (p_s P)) (y * 12 + x) (sv_g (p_s P) (y * 12 + x) + k)) 144) = sv_st (p_s P) + nI k - sv_sw (p_s P) - sv_fl (p_s P)
    have e : smN (upf (sv_g (p_s P)) (y * 12 + x) (sv_g (p_s P) (y * 12 + x) + k)) 144 = smN (sv_g (p_s P)) 144 + k := by omega
    rw [e, ← nI_add (smN (sv_g (p_s P)) 144) k, h.2.1.2.2, i32_s]
theorem S_sweep (l : Launch) (D : va_G) (z : Nat × Nat × Nat) {P : PS} {Bd : Nat} (h : IW Bd P) (hB : Bd < 1073741824) {k : Nat} (hk2 : k ≤ 99) : S1 l D z yX8_sweep wsX8_sweep ({ frames := 5, cells := 0, slots := 0, locals := 109 } : Room) Bd P [.int (nI k)] := by
  have hi := h.1
  have hok := hi.1
  have h4 := hok.2.2.2.2.2
  refine S1_mk (fun a J => X_sweep_ok l D z a P k J hi hB hk2) (n5 (by omega)) (IW_rec (IW_up h (Nat.le_add_right _ _)) (OKS_g hok ⟨rfl, rfl, rfl, rfl, rfl, rfl, rfl, rfl⟩ ?_) ⟨h.2.1.1, h.2.1.2.1, ?_⟩)
  · show smN (cvf (sv_g (p_s P)) k 144) 144 ≤ _
    rw [smN_c]
    omega
  · show nI (smN (cvf (sv_g (p_s P)) k 144) 144) = sv_st (p_s P) + nI (144 * k) - (sv_sw (p_s P) + nI (smN (sv_g (p_s P)) 144)) - sv_fl (p_s P)
    rw [smN_c]
    exact i32_w h.2.1.2.2
theorem S_clamp (l : Launch) (D : va_G) (z : Nat × Nat × Nat) {P : PS} {Bd : Nat} (h : IW Bd P) (hB : Bd < 1073741824) {x y : Nat} (hx : x < 12) (hy : y < 12) : S1 l D z yX8_clamp wsX8_clamp ({ frames := 5, cells := 0, slots := 0, locals := 109 } : Room) Bd P [.int (nI x), .int (nI y)] := by
  have hi := h.1
  have hok := hi.1
  by_cases h4 : sv_nc (p_s P) = 4
  · exact S1_mk (fun a J => X_clamp_b2 l D z a P x y J hi hB hx hy (by omega)) (by decide +kernel) (IW_up h (Nat.le_add_right _ _))
  · have h3 : sv_nc (p_s P) < 4 := by have := hok.1; omega
    cases hd : fdB (fun c => sv_cc (p_s P) c == x && sv_cr (p_s P) c == y) (sv_nc (p_s P)) with
    | some k => exact S1_mk (fun a J => X_clamp_b3 l D z a P x y k J hi hB hx hy h3 hd) (by decide +kernel) (IW_up h (Nat.le_add_right _ _))
    | none =>
      have hn := fdB_none.mp hd
      refine S1_mk (fun a J => X_clamp_ok l D z a P x y J hi hB hx hy h3 hd) (n5 (by omega)) (IW_rec (IW_up h (Nat.le_add_right _ _)) (OKS_c (OKS_up hok (Nat.le_add_right _ _)) ⟨rfl, rfl, rfl, rfl, rfl, rfl⟩ ?_ ?_) ⟨h.2.1.1, ?_, h.2.1.2.2⟩)
      · show sv_nc (p_s P) + 1 ≤ 4; omega
      · intro c hc
        have hc : c < sv_nc (p_s P) + 1 := hc
        show upf (sv_cc (p_s P)) (sv_nc (p_s P)) x c < 12 ∧ upf (sv_cr (p_s P)) (sv_nc (p_s P)) y c < 12
        by_cases hcn : c = sv_nc (p_s P)
        · rw [hcn, upf_s, upf_s]; exact ⟨hx, hy⟩
        · rw [upf_n hcn, upf_n hcn]; exact hok.2.1 c (by omega)
      · intro i j hij hj
        have hj : j < sv_nc (p_s P) + 1 := hj
        show ¬ (upf (sv_cc (p_s P)) (sv_nc (p_s P)) x i = upf (sv_cc (p_s P)) (sv_nc (p_s P)) x j ∧ upf (sv_cr (p_s P)) (sv_nc (p_s P)) y i = upf (sv_cr (p_s P)) (sv_nc (p_s P)) y j)
        have hin : i ≠ sv_nc (p_s P) := by omega
        rw [upf_n hin, upf_n hin]
        by_cases hjn : j = sv_nc (p_s P)
        · rw [hjn, upf_s, upf_s]
          rintro ⟨e1, e2⟩
          have := hn i (by omega)
          simp only [e1, e2, beq_self_eq_true, Bool.and_self] at this
          cases this
        · rw [upf_n hjn, upf_n hjn]; exact h.2.1.2.1 i j hij (by omega)
theorem S_unclamp (l : Launch) (D : va_G) (z : Nat × Nat × Nat) {P : PS} {Bd : Nat} (h : IW Bd P) (hB : Bd < 1073741824) {d : Nat} (hd : d < sv_nc (p_s P)) : S1 l D z yX8_unclamp wsX8_unclamp ({ frames := 5, cells := 0, slots := 0, locals := 109 } : Room) Bd P [.int (nI d)] := by
  have hi := h.1
  have hok := hi.1
  have hc4 := hok.1
  refine S1_mk (fun a J => X_unclamp_ok l D z a P d J hi hB hd) (n5 (by omega)) (IW_rec (IW_up h (Nat.le_add_right _ _)) (OKS_c (OKS_up hok (Nat.le_add_right _ _)) ⟨rfl, rfl, rfl, rfl, rfl, rfl⟩ ?_ ?_) ⟨h.2.1.1, ?_, h.2.1.2.2⟩)
  · show sv_nc (p_s P) - 1 ≤ 4; omega
  · intro c hc
    exact ⟨drf_lt (fun j hj => (hok.2.1 j hj).1) hd rfl c hc, drf_lt (fun j hj => (hok.2.1 j hj).2) hd rfl c hc⟩
  · intro i j hij hj
    have hj : j < sv_nc (p_s P) - 1 := hj
    have e : ∀ (f : Nat → Nat) (q : Nat), q < sv_nc (p_s P) - 1 → drf f d (sv_nc (p_s P) - 1 - d) q = f (if q < d then q else q + 1) := by
      intro f q hq
      by_cases hqd : q < d
      · rw [if_pos hqd, drf_lo _ _ _ _ hqd]
      · rw [if_neg hqd, drf_at _ _ _ _ (by omega) (by omega)]
    show ¬ (drf (sv_cc (p_s P)) d (sv_nc (p_s P) - 1 - d) i = drf (sv_cc (p_s P)) d (sv_nc (p_s P) - 1 - d) j ∧ drf (sv_cr (p_s P)) d (sv_nc (p_s P) - 1 - d) i = drf (sv_cr (p_s P)) d (sv_nc (p_s P) - 1 - d) j)
    rw [e _ i (by omega), e _ j hj, e _ i (by omega), e _ j hj]
    refine h.2.1.2.1 _ _ ?_ ?_
    · split <;> split <;> omega
    · split <;> omega
theorem S_set (l : Launch) (D : va_G) (z : Nat × Nat × Nat) {P : PS} {Bd : Nat} (h : IW Bd P) (hB : Bd < 1073741824) {w : Nat} {x : Int32} (hw : w < 4) (hx0 : ¬ x < 0) (h3 : ¬ x < zL w) (h4 : x ≤ zM w) : S1 l D z yX8_set wsX8_set ({ frames := 5, cells := 0, slots := 0, locals := 109 } : Room) Bd P [.int (nI w), .int x] := by
  have hi := h.1
  have hok := hi.1
  by_cases h5 : x = sv_se (p_s P) w
  · exact S1_mk (fun a J => X_set_b3 l D z a P w x J hi hB hw h3 h4 h5) (by decide +kernel) (IW_up h (Nat.le_add_right _ _))
  · refine S1_mk (fun a J => X_set_ok l D z a P w x J hi hB hw h3 h4 h5) (n5p (h.2.1.1 w hw)) (IW_rec (IW_up h (Nat.le_add_right _ _)) (OKS_g hok ⟨rfl, rfl, rfl, rfl, rfl, rfl, rfl, rfl⟩ (Nat.le_trans hok.2.2.2.2.2 (Nat.le_add_right _ _))) ⟨?_, h.2.1.2.1, h.2.1.2.2⟩)
    intro k hk
    show ¬ upd (sv_se (p_s P)) w x k < 0
    simp only [upd]
    split
    · exact hx0
    · exact h.2.1.1 k hk
theorem S_bow (l : Launch) (D : va_G) (z : Nat × Nat × Nat) {P : PS} {Bd : Nat} (h : IW Bd P) (hB : Bd < 1073741824) {x y k : Nat} (hx : x < 4) (hy : y < 12) (hk1 : 1 ≤ k) (hk2 : k ≤ 20) : S1 l D z yX8_bow wsX8_bow ({ frames := 5, cells := 0, slots := 0, locals := 109 } : Room) Bd P [.int (nI x), .int (nI y), .int (nI k)] := by
  have hi := h.1
  have hok := hi.1
  by_cases h4 : sv_ps (p_s P) = 16
  · exact S1_mk (fun a J => X_bow_b3 l D z a P x y k J hi hB hx hy hk1 hk2 (by omega)) (by decide +kernel) (IW_up h (Nat.le_add_right _ _))
  · have h3 : sv_ps (p_s P) < 16 := by have := hok.2.2.1; omega
    refine S1_mk (fun a J => X_bow_ok l D z a P x y k J hi hB hx hy hk1 hk2 h3) (n5 (by omega)) (IW_rec (IW_up h (Nat.le_add_right _ _)) (OKS_p (OKS_up hok (Nat.le_add_right _ _)) ⟨rfl, rfl, rfl, rfl, rfl⟩ ?_ ?_) (OKT_g h.2.1 ⟨rfl, rfl, rfl, rfl, rfl, rfl, rfl, rfl⟩))
    · show sv_ps (p_s P) + 1 ≤ 16; omega
    · intro c hc
      have hc : c < sv_ps (p_s P) + 1 := hc
      show upf (sv_fs (p_s P)) (sv_ps (p_s P)) x c < 4 ∧ upf (sv_fa (p_s P)) (sv_ps (p_s P)) y c < 12 ∧ 1 ≤ upf (sv_fk (p_s P)) (sv_ps (p_s P)) k c ∧ upf (sv_fk (p_s P)) (sv_ps (p_s P)) k c ≤ 20
      by_cases hcn : c = sv_ps (p_s P)
      · rw [hcn, upf_s, upf_s, upf_s]; exact ⟨hx, hy, hk1, hk2⟩
      · rw [upf_n hcn, upf_n hcn, upf_n hcn]; exact hok.2.2.2.1 c (by omega)
theorem S_strike (l : Launch) (D : va_G) (z : Nat × Nat × Nat) {P : PS} {Bd : Nat} (h : IW Bd P) (hB : Bd < 1073741824) {x : Nat} (hx : x < 4) : S1 l D z yX8_strike wsX8_strike ({ frames := 5, cells := 0, slots := 0, locals := 109 } : Room) Bd P [.int (nI x)] := by
  have hi := h.1
  have hok := hi.1
  have h16 := hok.2.2.1
  by_cases h2 : cntB (isB (sv_fs (p_s P)) x) (sv_ps (p_s P)) = 0
  · exact S1_mk (fun a J => X_strike_b2 l D z a P x J hi hB hx h2) (by decide +kernel) (IW_up h (Nat.le_add_right _ _))
  · refine S1_mk (fun a J => X_strike_ok l D z a P x J hi hB hx (Nat.pos_of_ne_zero h2)) (n5 (by omega)) (IW_rec (IW_up h (Nat.le_add_right _ _)) (OKS_p (OKS_up hok (Nat.le_add_right _ _)) ⟨rfl, rfl, rfl, rfl, rfl⟩ ?_ ?_) (OKT_g h.2.1 ⟨rfl, rfl, rfl, rfl, rfl, rfl, rfl, rfl⟩))
    · show cntB (isN (sv_fs (p_s P)) x) (sv_ps (p_s P)) ≤ 16
      have := cntB_le (isN (sv_fs (p_s P)) x) (sv_ps (p_s P)); omega
    · intro c hc
      obtain ⟨j, hj, e1, e2, e3⟩ := flt_ex (f := sv_fs (p_s P)) (g := sv_fa (p_s P)) (k := sv_fk (p_s P)) hc
      show flt (sv_fs (p_s P)) _ _ c < 4 ∧ flt (sv_fa (p_s P)) _ _ c < 12 ∧ 1 ≤ flt (sv_fk (p_s P)) _ _ c ∧ flt (sv_fk (p_s P)) _ _ c ≤ 20
      rw [e1, e2, e3]; exact hok.2.2.2.1 j hj
/-- what is played behind, as one word -/
def plE (s : SV) (m : Nat) : SV := mkS (sv_g (plS s m)) (sv_cc (plS s m)) (sv_cr (plS s m)) (sv_nc (plS s m)) (sv_se (plS s m)) (dff (sv_fs (plS s m)) m (sv_ps (plS s m) - m)) (dff (sv_fa (plS s m)) m (sv_ps (plS s m) - m)) (dff (sv_fk (plS s m)) m (sv_ps (plS s m) - m)) (sv_ps (plS s m) - m) (sv_la (plS s m)) (sv_st (plS s m)) (sv_sw (plS s m)) (sv_fl (plS s m)) (sv_sk (plS s m)) (sv_mu (plS s m))
theorem OKT_plE {s : SV} (h : OKT s) (m : Nat) : OKT (plE s m) := OKT_g (OKT_plS h m) ⟨rfl, rfl, rfl, rfl, rfl, rfl, rfl, rfl⟩
theorem OKS_plE {B : Nat} {s : SV} (hok : OKS B s) (m : Nat) : OKS B (plE s m) := by
  refine OKS_SE (s := mpS s m) (OKS_p (OKS_plS hok m) ⟨rfl, rfl, rfl, rfl, rfl⟩ ?_ ?_) (mp_SE _)
  · show sv_ps s - m ≤ 16; have := hok.2.2.1; omega
  · intro c hc
    have hc : c < sv_ps s - m := hc
    exact hok.2.2.2.1 (c + m) (by omega)
theorem IW_play {Bd : Nat} {P : PS} (h : IW Bd P) (m : Nat) : IW Bd (recP P (plE (p_s P) m)) := IW_rec h (OKS_plE h.1.1 m) (OKT_plE h.2.1 m)
theorem S_play (l : Launch) (D : va_G) (z : Nat × Nat × Nat) {P : PS} {Bd : Nat} (h : IW Bd P) (hB : Bd < 1073741824) {k : Nat} (hk1 : 1 ≤ k) (hk2 : k ≤ 16) : S1 l D z yX8_play wsX8_play ({ frames := 6, cells := 0, slots := 0, locals := 140 } : Room) Bd P [.int (nI k)] := by
  have hi := h.1
  by_cases h4 : sv_ps (p_s P) = 0
  · exact S1_mk (fun a J => X_play_b2 l D z a P k J hi hB hk1 hk2 h4) (by decide +kernel) (IW_up h (Nat.le_add_right _ _))
  · have h3 := plL_le (p_s P) (min k (sv_ps (p_s P)))
    exact S1_mk (P' := recP P (plE (p_s P) (min k (sv_ps (p_s P))))) (fun a J => X_play_ok l D z a P k J hi hB hk1 hk2 (Nat.pos_of_ne_zero h4)) (n5 (by omega)) (IW_play (IW_up h (Nat.le_add_right _ _)) _)
