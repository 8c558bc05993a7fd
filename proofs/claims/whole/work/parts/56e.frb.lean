set_option maxRecDepth 100000 in
set_option maxHeartbeats 4000000 in
theorem X_undo_ok (l : Launch) (D : va_G) (z : Nat × Nat × Nat) (a : Nat → Nat) (P : PS) (J : JS) {Bd : Nat} (hi : IV Bd P) (hB : Bd < 1073741824) (h0_ : 0 < p_hd P) : CM l yX8_undo wsX8_undo ({ frames := 5, cells := 0, slots := 0, locals := 109 } : Room) D z [.ref (a 0)] (wX D a P J) (fun r w => r = some (.int (nI (p_hd P - 1))) ∧ ∃ J', w = wX D a (mkP (cpS (p_s P) (p_h P (p_hd P - 1))) (p_sl P) (p_o P) (p_hd P - 1) (p_sn P) (p_hs P) (p_tx P) (p_tl P) (p_tc P) (p_tf P) (p_ta P) (p_tk P) (p_tn P)) J') 0 0 := by
  have hi0 := hi
  obtain ⟨⟨hnc, hcc, hps, hpc, hla, hsm⟩, ho, hh, hsl, hsn, htl, htx⟩ := hi
  have hok := hi0.1
  have hkk := hsl (p_hd P - 1) (by omega)
  rcases (show (p_o P + (p_hd P - 1)) % 4 = 0 ∨ (p_o P + (p_hd P - 1)) % 4 = 1 ∨ (p_o P + (p_hd P - 1)) % 4 = 2 ∨ (p_o P + (p_hd P - 1)) % 4 = 3 by omega) with hk | hk | hk | hk
  ·
    simp only [p_h]; rw [hk]
    exact (kX8_undo_ok l D z (a 0) (a 1) (a 15) (a 18) (a 21) (a 25) (a 69) (p_hs P) (a 31) (a 32) (a 33) (a 42) (a 51) (a 60) (a 33) (a 34) (a 35) (a 36) (a 37) (a 38) (a 39) (a 40) (a 41) (a 6) (a 7) (a 8) (a 9) (a 10) (a 11) (a 12) (a 13) (a 14) (p_o P) (p_hd P) (p_sl P 0) (p_s P) (by first | assumption | omega) (by first | assumption | omega) (by rw [hk]; rfl) (by first | assumption | omega) (by have := hkk.2.2.1; simp only [p_h] at this; rw [hk] at this; exact this)).mask [true, false, false, false, false, false, true, true, true, true, true, true, true, true, true, false, false, false, false, false, false, false, false, false, false, false, false, false, false, false, false, true, true, true, true, true, true, true, true, true, true, true, false, false, false, false, false, false, false, false, false, false, false, false, false, false, false, false, false, false, false, false, false, false, false, false, false, false, false, false, false, false, false, false, false, false, false, false] [0, 10, 11, 12, 13, 14, 15, 16, 17, 18, 19, 20, 1, 2, 3, 4, 5, 6, 7, 8, 9] rfl rfl (fun r w1 hp => by
      obtain ⟨rfl, rfl⟩ := hp
      exact ⟨[0, 12, 13, 14, 15, 16, 17, 18, 19, 20, 1, 2, 3, 4, 5, 6, 7, 8, 9, 10, 11], rfl, rfl, rfl, J, rfl⟩)
  ·
    simp only [p_h]; rw [hk]
    exact (kX8_undo_ok l D z (a 0) (a 1) (a 15) (a 18) (a 21) (a 25) (a 69) (p_hs P) (a 31) (a 32) (a 33) (a 42) (a 51) (a 60) (a 42) (a 43) (a 44) (a 45) (a 46) (a 47) (a 48) (a 49) (a 50) (a 6) (a 7) (a 8) (a 9) (a 10) (a 11) (a 12) (a 13) (a 14) (p_o P) (p_hd P) (p_sl P 1) (p_s P) (by first | assumption | omega) (by first | assumption | omega) (by rw [hk]; rfl) (by first | assumption | omega) (by have := hkk.2.2.1; simp only [p_h] at this; rw [hk] at this; exact this)).mask [true, false, false, false, false, false, true, true, true, true, true, true, true, true, true, false, false, false, false, false, false, false, false, false, false, false, false, false, false, false, false, true, true, false, false, false, false, false, false, false, false, false, true, true, true, true, true, true, true, true, true, false, false, false, false, false, false, false, false, false, false, false, false, false, false, false, false, false, false, false, false, false, false, false, false, false, false, false] [0, 10, 11, 12, 13, 14, 15, 16, 17, 18, 19, 20, 1, 2, 3, 4, 5, 6, 7, 8, 9] rfl rfl (fun r w1 hp => by
      obtain ⟨rfl, rfl⟩ := hp
      exact ⟨[0, 12, 13, 14, 15, 16, 17, 18, 19, 20, 1, 2, 3, 4, 5, 6, 7, 8, 9, 10, 11], rfl, rfl, rfl, J, rfl⟩)
  ·
    simp only [p_h]; rw [hk]
    exact (kX8_undo_ok l D z (a 0) (a 1) (a 15) (a 18) (a 21) (a 25) (a 69) (p_hs P) (a 31) (a 32) (a 33) (a 42) (a 51) (a 60) (a 51) (a 52) (a 53) (a 54) (a 55) (a 56) (a 57) (a 58) (a 59) (a 6) (a 7) (a 8) (a 9) (a 10) (a 11) (a 12) (a 13) (a 14) (p_o P) (p_hd P) (p_sl P 2) (p_s P) (by first | assumption | omega) (by first | assumption | omega) (by rw [hk]; rfl) (by first | assumption | omega) (by have := hkk.2.2.1; simp only [p_h] at this; rw [hk] at this; exact this)).mask [true, false, false, false, false, false, true, true, true, true, true, true, true, true, true, false, false, false, false, false, false, false, false, false, false, false, false, false, false, false, false, true, true, false, false, false, false, false, false, false, false, false, false, false, false, false, false, false, false, false, false, true, true, true, true, true, true, true, true, true, false, false, false, false, false, false, false, false, false, false, false, false, false, false, false, false, false, false] [0, 10, 11, 12, 13, 14, 15, 16, 17, 18, 19, 20, 1, 2, 3, 4, 5, 6, 7, 8, 9] rfl rfl (fun r w1 hp => by
      obtain ⟨rfl, rfl⟩ := hp
      exact ⟨[0, 12, 13, 14, 15, 16, 17, 18, 19, 20, 1, 2, 3, 4, 5, 6, 7, 8, 9, 10, 11], rfl, rfl, rfl, J, rfl⟩)
  ·
    simp only [p_h]; rw [hk]
    exact (kX8_undo_ok l D z (a 0) (a 1) (a 15) (a 18) (a 21) (a 25) (a 69) (p_hs P) (a 31) (a 32) (a 33) (a 42) (a 51) (a 60) (a 60) (a 61) (a 62) (a 63) (a 64) (a 65) (a 66) (a 67) (a 68) (a 6) (a 7) (a 8) (a 9) (a 10) (a 11) (a 12) (a 13) (a 14) (p_o P) (p_hd P) (p_sl P 3) (p_s P) (by first | assumption | omega) (by first | assumption | omega) (by rw [hk]; rfl) (by first | assumption | omega) (by have := hkk.2.2.1; simp only [p_h] at this; rw [hk] at this; exact this)).mask [true, false, false, false, false, false, true, true, true, true, true, true, true, true, true, false, false, false, false, false, false, false, false, false, false, false, false, false, false, false, false, true, true, false, false, false, false, false, false, false, false, false, false, false, false, false, false, false, false, false, false, false, false, false, false, false, false, false, false, false, true, true, true, true, true, true, true, true, true, false, false, false, false, false, false, false, false, false] [0, 10, 11, 12, 13, 14, 15, 16, 17, 18, 19, 20, 1, 2, 3, 4, 5, 6, 7, 8, 9] rfl rfl (fun r w1 hp => by
      obtain ⟨rfl, rfl⟩ := hp
      exact ⟨[0, 12, 13, 14, 15, 16, 17, 18, 19, 20, 1, 2, 3, 4, 5, 6, 7, 8, 9, 10, 11], rfl, rfl, rfl, J, rfl⟩)
theorem RQ_undo {B : Nat} {P : PS} {Q : QS} (h : RQ Q P) (hi : IV B P) (h0 : 0 < p_hd P) : RQ (mkQ (cpF (q_M Q) (fun j => q_B Q ((208 * (p_hd P - 1)) + j)) 208) (q_B Q) (q_K Q) (q_Z Q) (q_me Q) (q_rw Q) (q_ta Q) (q_iw Q)) (mkP (cpS (p_s P) (p_h P (p_hd P - 1))) (p_sl P) (p_o P) (p_hd P - 1) (p_sn P) (p_hs P) (p_tx P) (p_tl P) (p_tc P) (p_tf P) (p_ta P) (p_tk P) (p_tn P)) := by
  obtain ⟨h1, h2, h3⟩ := h
  have hok := hi.2.2.2.1 (p_hd P - 1) (by omega)
  refine ⟨?_, fun k hk => ?_, h3⟩
  · refine RM_SE (RM_eq (h2 (p_hd P - 1) (by omega)) hok.1 hok.2.2.1 (fun j hj => ?_)) (cp_SE _ _ hok.1)
    simp only [q_M, mkQ, cpF]; rw [if_pos hj]
  · have hk : k < p_hd P - 1 := hk
    exact h2 k (by omega)
set_option maxRecDepth 100000 in
set_option maxHeartbeats 4000000 in
theorem M_undo_ok (l : Launch) (D : va_G) (z : Nat × Nat × Nat) (b : Nat → Nat) (P : PS)  (Q : QS) {Bd : Nat} (hi : IV Bd P) (hB : Bd < 1073741824) (hq : RQ Q P) (h0_ : 0 < (p_hd P)) : CM l yX9_undo wsX9_undo ({ frames := 0, cells := 0, slots := 0, locals := 0 } : Room) D z [.ref (b 0)] (wM D b P Q) (fun r9_ w9_ => r9_ = some (.int (nI ((p_hd P) - 1))) ∧ ∃ Q', RQ Q' (mkP (cpS (p_s P) (p_h P (p_hd P - 1))) (p_sl P) (p_o P) (p_hd P - 1) (p_sn P) (p_hs P) (p_tx P) (p_tl P) (p_tc P) (p_tf P) (p_ta P) (p_tk P) (p_tn P)) ∧ w9_ = wM D b (mkP (cpS (p_s P) (p_h P (p_hd P - 1))) (p_sl P) (p_o P) (p_hd P - 1) (p_sn P) (p_hs P) (p_tx P) (p_tl P) (p_tc P) (p_tf P) (p_ta P) (p_tk P) (p_tn P)) Q') 0 0 := by
  have hi0 := hi
  obtain ⟨⟨hnc, hcc, hps, hpc, hla, hsm⟩, ho, hh, hsl, hsn, htl, htx⟩ := hi
  have hok := hi0.1
  have hM := hq.1
  exact (kX9_undo_ok l D z (b 0) (b 1) (b 2) (b 3) (b 4) (b 5) (b 6) (b 7) (b 8) (b 9) (b 10) (b 11) (p_hd P) (p_hs P) (p_tl P) (q_ta Q) (q_iw Q) (q_M Q) (q_B Q) (by first | assumption | omega) (by first | assumption | omega)).mask [true, false, false, false, false, true, true, false, false, false, false, false] [0, 1, 2] rfl rfl (fun r w1 hp => by
    obtain ⟨rfl, rfl⟩ := hp
    exact ⟨[0, 1, 2], rfl, rfl, rfl, (mkQ (cpF (q_M Q) (fun j => q_B Q ((208 * (p_hd P - 1)) + j)) 208) (q_B Q) (q_K Q) (q_Z Q) (q_me Q) (q_rw Q) (q_ta Q) (q_iw Q)), (RQ_undo hq hi0 h0_), rfl⟩)
set_option maxRecDepth 100000 in
set_option maxHeartbeats 4000000 in
theorem X_keep (l : Launch) (D : va_G) (z : Nat × Nat × Nat) (a : Nat → Nat) (P : PS)  (J : JS) {Bd : Nat} (hi : IV Bd P) (hB : Bd < 1073741824)  : CM l yX8_keep wsX8_keep ({ frames := 4, cells := 0, slots := 0, locals := 87 } : Room) D z [.ref (a 0)] (wX D a P J) (fun r9_ w9_ => r9_ = some (.int (nI (smN (sv_g (p_s P)) 144))) ∧ ∃ J', w9_ = wX D a (mkP (p_s P) (p_sl P) (p_o P) (p_hd P) (cpS (p_sn P) (p_s P)) true (p_tx P) (p_tl P) (p_tc P) (p_tf P) (p_ta P) (p_tk P) (p_tn P)) J') 0 0 := by
  have hi0 := hi
  obtain ⟨⟨hnc, hcc, hps, hpc, hla, hsm⟩, ho, hh, hsl, hsn, htl, htx⟩ := hi
  have hok := hi0.1
  exact (kX8_keep l D z (a 0) (a 1) (a 15) (a 18) (a 21) (a 25) (a 69) (p_hs P) (a 31) (a 6) (a 7) (a 8) (a 9) (a 10) (a 11) (a 12) (a 13) (a 14) (a 70) (a 71) (a 72) (a 73) (a 74) (a 75) (a 76) (a 77) (p_s P) (p_sn P) (by first | assumption | omega)).mask [true, false, false, false, false, false, true, true, true, true, true, true, true, true, true, false, false, false, false, false, false, false, false, false, false, false, false, false, false, false, false, false, false, false, false, false, false, false, false, false, false, false, false, false, false, false, false, false, false, false, false, false, false, false, false, false, false, false, false, false, false, false, false, false, false, false, false, false, false, true, true, true, true, true, true, true, true, true] [0, 1, 2, 3, 4, 5, 6, 7, 8, 9, 10, 11, 12, 13, 14, 15, 16, 17, 18] rfl rfl (fun r w1 hp => by
    obtain ⟨rfl, rfl⟩ := hp
    exact ⟨[0, 1, 2, 3, 4, 5, 6, 7, 8, 9, 10, 11, 12, 13, 14, 15, 16, 17, 18], rfl, rfl, rfl, J, rfl⟩)
theorem RQ_keep {B : Nat} {P : PS} {Q : QS} (h : RQ Q P) (hi : IV B P) : RQ (mkQ (q_M Q) (q_B Q) (cpF (q_K Q) (q_M Q) 208) (q_Z Q) (q_me Q) (q_rw Q) (q_ta Q) (q_iw Q)) (mkP (p_s P) (p_sl P) (p_o P) (p_hd P) (cpS (p_sn P) (p_s P)) true (p_tx P) (p_tl P) (p_tc P) (p_tf P) (p_ta P) (p_tk P) (p_tn P)) := by
  refine ⟨h.1, h.2.1, fun _ => ?_⟩
  refine RM_SE (RM_eq h.1 hi.1.1 hi.1.2.2.1 (fun j hj => ?_)) (cp_SE _ _ hi.1.1)
  simp only [q_K, mkQ, cpF]; rw [if_pos hj] <;> rfl
set_option maxRecDepth 100000 in
set_option maxHeartbeats 4000000 in
theorem M_keep (l : Launch) (D : va_G) (z : Nat × Nat × Nat) (b : Nat → Nat) (P : PS)  (Q : QS) {Bd : Nat} (hi : IV Bd P) (hB : Bd < 1073741824) (hq : RQ Q P)  : CM l yX9_keep wsX9_keep ({ frames := 1, cells := 0, slots := 0, locals := 22 } : Room) D z [.ref (b 0)] (wM D b P Q) (fun r9_ w9_ => r9_ = some (.int (nI (smN (sv_g (p_s P)) 144))) ∧ ∃ Q', RQ Q' (mkP (p_s P) (p_sl P) (p_o P) (p_hd P) (cpS (p_sn P) (p_s P)) true (p_tx P) (p_tl P) (p_tc P) (p_tf P) (p_ta P) (p_tk P) (p_tn P)) ∧ w9_ = wM D b (mkP (p_s P) (p_sl P) (p_o P) (p_hd P) (cpS (p_sn P) (p_s P)) true (p_tx P) (p_tl P) (p_tc P) (p_tf P) (p_ta P) (p_tk P) (p_tn P)) Q') 0 0 := by
  have hi0 := hi
  obtain ⟨⟨hnc, hcc, hps, hpc, hla, hsm⟩, ho, hh, hsl, hsn, htl, htx⟩ := hi
  have hok := hi0.1
  have hM := hq.1
  exact (kX9_keep l D z (b 0) (b 1) (b 2) (b 3) (b 4) (b 5) (b 6) (b 7) (b 8) (b 9) (b 10) (b 11) (p_hd P) (p_hs P) (p_tl P) (q_ta Q) (q_iw Q) (q_M Q) (q_K Q) (p_s P) (by first | assumption | omega)).mask [true, false, false, false, false, true, false, true, false, false, false, false] [0, 1, 2] rfl rfl (fun r w1 hp => by
    obtain ⟨rfl, rfl⟩ := hp
    exact ⟨[0, 1, 2], rfl, rfl, rfl, (mkQ (q_M Q) (q_B Q) (cpF (q_K Q) (q_M Q) 208) (q_Z Q) (q_me Q) (q_rw Q) (q_ta Q) (q_iw Q)), (RQ_keep hq hi0), rfl⟩)
set_option maxRecDepth 100000 in
set_option maxHeartbeats 4000000 in
theorem X_restore_b1 (l : Launch) (D : va_G) (z : Nat × Nat × Nat) (a : Nat → Nat) (s_ : SV) (sl_ : Nat → SV) (o_ : Nat) (hd_ : Nat) (sn_ : SV) (tx_ : Nat → Nat) (tl_ : Nat) (tc_ : Nat) (tf_ : Nat → Nat) (ta_ : Nat → Nat) (tk_ : Nat → Nat) (tn_ : Nat) (J : JS) {Bd : Nat} (hi : IV Bd (mkP s_ sl_ o_ hd_ sn_ false tx_ tl_ tc_ tf_ ta_ tk_ tn_)) (hB : Bd < 1073741824)  : CM l yX8_restore wsX8_restore ({ frames := 5, cells := 0, slots := 0, locals := 109 } : Room) D z [.ref (a 0)] (wX D a (mkP s_ sl_ o_ hd_ sn_ false tx_ tl_ tc_ tf_ ta_ tk_ tn_) J) (fun r9_ w9_ => r9_ = some (.int (-5)) ∧ ∃ J', w9_ = wX D a (mkP s_ sl_ o_ hd_ sn_ false tx_ tl_ tc_ tf_ ta_ tk_ tn_) J') 0 0 := by
  have hi0 := hi
  obtain ⟨⟨hnc, hcc, hps, hpc, hla, hsm⟩, ho, hh, hsl, hsn, htl, htx⟩ := hi
  have hok := hi0.1
  exact (kX8_restore_b1 l D z (a 0) (a 1) (a 15) (a 18) (a 21) (a 25) (a 69) (a 31) (a 6) ).mask [true, false, false, false, false, false, false, false, false, false, false, false, false, false, false, false, false, false, false, false, false, false, false, false, false, false, false, false, false, false, false, false, false, false, false, false, false, false, false, false, false, false, false, false, false, false, false, false, false, false, false, false, false, false, false, false, false, false, false, false, false, false, false, false, false, false, false, false, false, false, false, false, false, false, false, false, false, false] [0] rfl rfl (fun r w1 hp => by
    obtain ⟨rfl, rfl⟩ := hp
    exact ⟨[0], rfl, rfl, rfl, J, rfl⟩)
set_option maxRecDepth 100000 in
set_option maxHeartbeats 4000000 in
theorem M_restore_b1 (l : Launch) (D : va_G) (z : Nat × Nat × Nat) (b : Nat → Nat) (s_ : SV) (sl_ : Nat → SV) (o_ : Nat) (hd_ : Nat) (sn_ : SV) (tx_ : Nat → Nat) (tl_ : Nat) (tc_ : Nat) (tf_ : Nat → Nat) (ta_ : Nat → Nat) (tk_ : Nat → Nat) (tn_ : Nat) (Q : QS) {Bd : Nat} (hi : IV Bd (mkP s_ sl_ o_ hd_ sn_ false tx_ tl_ tc_ tf_ ta_ tk_ tn_)) (hB : Bd < 1073741824) (hq : RQ Q (mkP s_ sl_ o_ hd_ sn_ false tx_ tl_ tc_ tf_ ta_ tk_ tn_))  : CM l yX9_restore wsX9_restore ({ frames := 1, cells := 0, slots := 0, locals := 22 } : Room) D z [.ref (b 0)] (wM D b (mkP s_ sl_ o_ hd_ sn_ false tx_ tl_ tc_ tf_ ta_ tk_ tn_) Q) (fun r9_ w9_ => r9_ = some (.int (-5)) ∧ ∃ Q', RQ Q' (mkP s_ sl_ o_ hd_ sn_ false tx_ tl_ tc_ tf_ ta_ tk_ tn_) ∧ w9_ = wM D b (mkP s_ sl_ o_ hd_ sn_ false tx_ tl_ tc_ tf_ ta_ tk_ tn_) Q') 0 0 := by
  have hi0 := hi
  obtain ⟨⟨hnc, hcc, hps, hpc, hla, hsm⟩, ho, hh, hsl, hsn, htl, htx⟩ := hi
  have hok := hi0.1
  have hM := hq.1
  exact (kX9_restore_b1 l D z (b 0) (b 1) (b 2) (b 3) (b 4) (b 5) (b 6) (b 7) (b 8) (b 9) (b 10) (b 11) (p_hd (mkP s_ sl_ o_ hd_ sn_ false tx_ tl_ tc_ tf_ ta_ tk_ tn_)) (p_tl (mkP s_ sl_ o_ hd_ sn_ false tx_ tl_ tc_ tf_ ta_ tk_ tn_)) (q_ta Q) (q_iw Q) ).mask [true, false, false, false, false, false, false, false, false, false, false, false] [0] rfl rfl (fun r w1 hp => by
    obtain ⟨rfl, rfl⟩ := hp
    exact ⟨[0], rfl, rfl, rfl, Q, hq, rfl⟩)