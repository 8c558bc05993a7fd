/-! a bowing that is played, and undone -/
theorem laM_none : laM (orM none) = -5 := by decide +kernel
theorem laM_nI {w : Nat} (h : w < 2147483648) : laM (nI w) = nI w := laM_n h
theorem n5_ne {k : Nat} (h : k < 2147483648) : ¬ (-5 : Int32) = nI k := fun e => nI_pos h (by rw [← e]; decide +kernel)
theorem plL_n {s : SV} (h : wyO s (bpN (sv_fs s 0) (sv_fa s 0)) = none) : plL s 1 = 0 := by
  show 0 + (if (wyO s (bpN (sv_fs s 0) (sv_fa s 0))).isSome = true then 1 else 0) = 0
  rw [h]; rfl
theorem plL_s {s : SV} {w : Nat} (h : wyO s (bpN (sv_fs s 0) (sv_fa s 0)) = some w) : plL s 1 = 1 := by
  show 0 + (if (wyO s (bpN (sv_fs s 0) (sv_fa s 0))).isSome = true then 1 else 0) = 1
  rw [h]; rfl
def plP (P : PS) : PS := recP P (plE (p_s P) 1)
def unP (P : PS) : PS := mkP (cpS (p_s P) (p_h P (p_hd P - 1))) (p_sl P) (p_o P) (p_hd P - 1) (p_sn P) (p_hs P) (p_tx P) (p_tl P) (p_tc P) (p_tf P) (p_ta P) (p_tk P) (p_tn P)
theorem plP_ps (P : PS) : sv_ps (p_s (plP P)) = sv_ps (p_s P) - 1 := by
  show sv_ps (plS (p_s P) 1) - 1 = _
  rw [(plS_k (p_s P) 1).2.2.2.2.2.2.2.1]
theorem plP_fa {P : PS} (h : 1 < sv_ps (p_s P)) : sv_fa (p_s (plP P)) 0 = sv_fa (p_s P) 1 := by
  show dff (sv_fa (plS (p_s P) 1)) 1 (sv_ps (plS (p_s P) 1) - 1) 0 = _
  rw [(plS_k (p_s P) 1).2.2.2.2.2.1, (plS_k (p_s P) 1).2.2.2.2.2.2.2.1]
  simp only [dff]; rw [if_pos (by omega)]
theorem plP_se (P : PS) : sv_se (p_s (plP P)) = sv_se (p_s P) := by
  show sv_se (plS (p_s P) 1) = _
  rw [(plS_k (p_s P) 1).2.2.2.1]
theorem plP_la_n (P : PS) (h : wyO (p_s P) (bpN (sv_fs (p_s P) 0) (sv_fa (p_s P) 0)) = none) : sv_la (p_s (plP P)) = sv_la (p_s P) := by
  show sv_la (pl1 (p_s P) 0) = _; rw [pl1_n h]; rfl
theorem plP_mu_n (P : PS) (h : wyO (p_s P) (bpN (sv_fs (p_s P) 0) (sv_fa (p_s P) 0)) = none) : sv_mu (p_s (plP P)) = sv_mu (p_s P) + nI 1 := by
  show sv_mu (pl1 (p_s P) 0) = _; rw [pl1_n h]; rfl
theorem plP_sk_n (P : PS) (h : wyO (p_s P) (bpN (sv_fs (p_s P) 0) (sv_fa (p_s P) 0)) = none) : sv_sk (p_s (plP P)) = sv_sk (p_s P) := by
  show sv_sk (pl1 (p_s P) 0) = _; rw [pl1_n h]; rfl
theorem plP_g_n (P : PS) (h : wyO (p_s P) (bpN (sv_fs (p_s P) 0) (sv_fa (p_s P) 0)) = none) : sv_g (p_s (plP P)) = sv_g (p_s P) := by
  show sv_g (pl1 (p_s P) 0) = _; rw [pl1_n h]; rfl
theorem plP_la_s (P : PS) {w : Nat} (h : wyO (p_s P) (bpN (sv_fs (p_s P) 0) (sv_fa (p_s P) 0)) = some w) : laM (sv_la (p_s (plP P))) = nI w := by
  have e : sv_la (p_s (plP P)) = nI w := by show sv_la (pl1 (p_s P) 0) = _; rw [pl1_s h]; rfl
  rw [e]; exact laM_nI (by have := wyO_lt h; omega)
theorem plP_mu_s (P : PS) {w : Nat} (h : wyO (p_s P) (bpN (sv_fs (p_s P) 0) (sv_fa (p_s P) 0)) = some w) : sv_mu (p_s (plP P)) = sv_mu (p_s P) := by
  show sv_mu (pl1 (p_s P) 0) = _; rw [pl1_s h]; rfl
theorem plP_sk_s (P : PS) {w : Nat} (h : wyO (p_s P) (bpN (sv_fs (p_s P) 0) (sv_fa (p_s P) 0)) = some w) : sv_sk (p_s (plP P)) = sv_sk (p_s P) + nI (sv_fk (p_s P) 0) := by
  show sv_sk (pl1 (p_s P) 0) = _; rw [pl1_s h]; rfl
theorem plP_g_s (P : PS) {w : Nat} (h : wyO (p_s P) (bpN (sv_fs (p_s P) 0) (sv_fa (p_s P) 0)) = some w) : sv_g (p_s (plP P)) = (stI (SW w) (sv_se (p_s P)) (tgW w) (sv_g (p_s P)) (sv_fl (p_s P)) (sv_fk (p_s P) 0)).1 := by
  show sv_g (pl1 (p_s P) 0) = _; rw [pl1_s h]; rfl
theorem plP_fl_s (P : PS) {w : Nat} (h : wyO (p_s P) (bpN (sv_fs (p_s P) 0) (sv_fa (p_s P) 0)) = some w) : sv_fl (p_s (plP P)) = (stI (SW w) (sv_se (p_s P)) (tgW w) (sv_g (p_s P)) (sv_fl (p_s P)) (sv_fk (p_s P) 0)).2 := by
  show sv_fl (pl1 (p_s P) 0) = _; rw [pl1_s h]; rfl
theorem plP_gs (P : PS) {w : Nat} (h : wyO (p_s P) (bpN (sv_fs (p_s P) 0) (sv_fa (p_s P) 0)) = some w) : gsN (p_s P) w 144 ≤ gsN (p_s (plP P)) w 144 := by
  refine gsN_mono (plP_se P) (fun p hp hs => ?_) 144 (Nat.le_refl _)
  rw [plP_g_s P h]
  have h1 : SW w p ≤ sv_se (p_s P) 2 := by simpa [stB] using hs
  exact stI_st hp (Int32.not_lt.mpr h1) _
theorem plP_keep (P : PS) {w : Nat} (h : wyO (p_s P) (bpN (sv_fs (p_s P) 0) (sv_fa (p_s P) 0)) = some w) : nI (smN (sv_g (p_s (plP P))) 144) + sv_fl (p_s (plP P)) = nI (smN (sv_g (p_s P)) 144) + sv_fl (p_s P) := by
  rw [plP_g_s P h, plP_fl_s P h]; exact stI_keep _ _ _ _ _
theorem plP_hd (P : PS) : 0 < p_hd (plP P) := by
  show 0 < rhN (p_hd P)
  simp only [rhN]; split <;> omega
theorem plP_hd4 {P : PS} (h : p_hd P ≤ 4) : p_hd (plP P) ≤ 4 := by
  show rhN (p_hd P) ≤ 4
  simp only [rhN]; split <;> omega
theorem unP_s {Bd : Nat} {P : PS} (hi : IV Bd P) : p_s (unP (plP P)) = cpS (p_s (plP P)) (cpS (p_sl P (rkN (p_o P) (p_hd P))) (p_s P)) := by
  have hp := plP_hd P
  have hr : rhN (p_hd P) - 1 < rhN (p_hd P) := by
    have h0 : 0 < rhN (p_hd P) := hp
    omega
  have e : p_h (recP P (plE (p_s P) 1)) (rhN (p_hd P) - 1) = cpS (p_sl P (rkN (p_o P) (p_hd P))) (p_s P) := by
    rw [rec_h hi.2.1 hi.2.2.1 hr, if_pos (by omega)]
  show cpS (p_s (plP P)) (p_h (recP P (plE (p_s P) 1)) (rhN (p_hd P) - 1)) = _
  rw [e]
theorem unP_g {Bd : Nat} {P : PS} (hi : IV Bd P) : smN (sv_g (p_s (unP (plP P)))) 144 = smN (sv_g (p_s P)) 144 := by
  rw [unP_s hi]
  have e1 := cp_SE (p_sl P (rkN (p_o P) (p_hd P))) (p_s P) hi.1.1
  have e2 := cp_SE (p_s (plP P)) (cpS (p_sl P (rkN (p_o P) (p_hd P))) (p_s P)) hi.1.1
  exact smN_eq (fun j hj => by rw [← e2.1 j hj, ← e1.1 j hj])
theorem unP_ps {Bd : Nat} {P : PS} (hi : IV Bd P) : sv_ps (p_s (unP (plP P))) = sv_ps (p_s P) := by
  rw [unP_s hi]; rfl
theorem X_play_1 (l : Launch) (D : va_G) (z : Nat × Nat × Nat) (a : Nat → Nat) (P : PS) (J : JS) {Bd : Nat} (hi : IV Bd P) (hB : Bd < 1073741824) (h0_ : 0 < sv_ps (p_s P)) : CM l yX8_play wsX8_play ({ frames := 6, cells := 0, slots := 0, locals := 140 } : Room) D z [.ref (a 0), .int (nI 1)] (wX D a P J) (fun r9_ w9_ => r9_ = some (.int (nI (plL (p_s P) 1))) ∧ ∃ J', w9_ = wX D a (plP P) J') 0 0 := by
  have h := X_play_ok l D z a P 1 J hi hB (Nat.le_refl _) (by omega) h0_
  rw [show min 1 (sv_ps (p_s P)) = 1 by omega] at h
  exact h
theorem X_undo_1 (l : Launch) (D : va_G) (z : Nat × Nat × Nat) (a : Nat → Nat) (P : PS) (J : JS) {Bd : Nat} (hi : IV Bd P) (hB : Bd < 1073741824) (h0_ : 0 < p_hd P) : CM l yX8_undo wsX8_undo ({ frames := 5, cells := 0, slots := 0, locals := 109 } : Room) D z [.ref (a 0)] (wX D a P J) (fun r9_ w9_ => r9_ = some (.int (nI (p_hd P - 1))) ∧ ∃ J', w9_ = wX D a (unP P) J') 0 0 := X_undo_ok l D z a P J hi hB h0_
