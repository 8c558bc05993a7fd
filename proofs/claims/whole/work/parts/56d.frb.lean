set_option maxRecDepth 100000 in
set_option maxHeartbeats 4000000 in
theorem X_type_b1 (l : Launch) (D : va_G) (z : Nat × Nat × Nat) (a : Nat → Nat) (P : PS) (x : Nat) (J : JS) {Bd : Nat} (hi : IV Bd P) (hB : Bd < 1073741824) (hb : 60 ≤ (p_tl P)) : CM l yX8_type wsX8_type ({ frames := 1, cells := 0, slots := 0, locals := 21 } : Room) D z [.ref (a 0), .int (nI x)] (wX D a P J) (fun r9_ w9_ => r9_ = some (.int (-3)) ∧ ∃ J', w9_ = wX D a P J') 0 0 := by
  have hi0 := hi
  obtain ⟨⟨hnc, hcc, hps, hpc, hla, hsm⟩, ho, hh, hsl, hsn, htl, htx⟩ := hi
  have hok := hi0.1
  exact (kX8_type_b1 l D z (a 0) (a 1) (a 15) (a 18) (a 21) (a 25) (a 69) (p_hs P) (a 31) (a 6) (a 26) (a 27) (p_tl P) (p_tc P) (p_tx P) x (by first | assumption | omega) (by first | assumption | omega)).mask [true, false, false, false, false, false, false, false, false, false, false, false, false, false, false, false, false, false, false, false, false, false, false, false, false, true, true, false, false, false, false, false, false, false, false, false, false, false, false, false, false, false, false, false, false, false, false, false, false, false, false, false, false, false, false, false, false, false, false, false, false, false, false, false, false, false, false, false, false, false, false, false, false, false, false, false, false, false] [0, 1, 2] rfl rfl (fun r w1 hp => by
    obtain ⟨rfl, rfl⟩ := hp
    exact ⟨[0, 1, 2], rfl, rfl, rfl, J, rfl⟩)
set_option maxRecDepth 100000 in
set_option maxHeartbeats 4000000 in
theorem M_type_b1 (l : Launch) (D : va_G) (z : Nat × Nat × Nat) (b : Nat → Nat) (P : PS) (x : Nat) (Q : QS) {Bd : Nat} (hi : IV Bd P) (hB : Bd < 1073741824) (hq : RQ Q P) (hb : (p_tl P) = 60) : CM l yX9_type wsX9_type ({ frames := 0, cells := 0, slots := 0, locals := 0 } : Room) D z [.ref (b 0), .int (nI x)] (wM D b P Q) (fun r9_ w9_ => r9_ = some (.int (-3)) ∧ ∃ Q', RQ Q' P ∧ w9_ = wM D b P Q') 0 0 := by
  have hi0 := hi
  obtain ⟨⟨hnc, hcc, hps, hpc, hla, hsm⟩, ho, hh, hsl, hsn, htl, htx⟩ := hi
  have hok := hi0.1
  have hM := hq.1
  exact (kX9_type_b1 l D z (b 0) (b 1) (b 2) (b 3) (b 4) (b 5) (b 6) (b 7) (b 8) (b 9) (b 10) (b 11) (p_hd P) (p_hs P) (p_tl P) (q_ta Q) (q_iw Q) x (by first | assumption | omega)).mask [true, false, false, false, false, false, false, false, false, false, false, false] [0] rfl rfl (fun r w1 hp => by
    obtain ⟨rfl, rfl⟩ := hp
    exact ⟨[0], rfl, rfl, rfl, Q, hq, rfl⟩)
set_option maxRecDepth 100000 in
set_option maxHeartbeats 4000000 in
theorem X_type_ok (l : Launch) (D : va_G) (z : Nat × Nat × Nat) (a : Nat → Nat) (P : PS) (x : Nat) (J : JS) {Bd : Nat} (hi : IV Bd P) (hB : Bd < 1073741824) (hb : (p_tl P) < 60) (hx : x < 65536) : CM l yX8_type wsX8_type ({ frames := 1, cells := 0, slots := 0, locals := 21 } : Room) D z [.ref (a 0), .int (nI x)] (wX D a P J) (fun r9_ w9_ => r9_ = some (.int (nI ((p_tl P) + 1))) ∧ ∃ J', w9_ = wX D a (mkP (p_s P) (p_sl P) (p_o P) (p_hd P) (p_sn P) (p_hs P) (upf (p_tx P) (p_tl P) x) (p_tl P + 1) (p_tc P) (p_tf P) (p_ta P) (p_tk P) (p_tn P)) J') 0 0 := by
  have hi0 := hi
  obtain ⟨⟨hnc, hcc, hps, hpc, hla, hsm⟩, ho, hh, hsl, hsn, htl, htx⟩ := hi
  have hok := hi0.1
  exact (kX8_type_ok l D z (a 0) (a 1) (a 15) (a 18) (a 21) (a 25) (a 69) (p_hs P) (a 31) (a 6) (a 26) (a 27) (p_tl P) (p_tc P) (p_tx P) x (by first | assumption | omega) (by first | assumption | omega)).mask [true, false, false, false, false, false, false, false, false, false, false, false, false, false, false, false, false, false, false, false, false, false, false, false, false, true, true, false, false, false, false, false, false, false, false, false, false, false, false, false, false, false, false, false, false, false, false, false, false, false, false, false, false, false, false, false, false, false, false, false, false, false, false, false, false, false, false, false, false, false, false, false, false, false, false, false, false, false] [0, 1, 2] rfl rfl (fun r w1 hp => by
    obtain ⟨rfl, rfl⟩ := hp
    exact ⟨[0, 1, 2], rfl, rfl, rfl, J, rfl⟩)
set_option maxRecDepth 100000 in
set_option maxHeartbeats 4000000 in
theorem M_type_ok (l : Launch) (D : va_G) (z : Nat × Nat × Nat) (b : Nat → Nat) (P : PS) (x : Nat) (Q : QS) {Bd : Nat} (hi : IV Bd P) (hB : Bd < 1073741824) (hq : RQ Q P) (hb : (p_tl P) < 60) (hx : x < 65536) : CM l yX9_type wsX9_type ({ frames := 0, cells := 0, slots := 0, locals := 0 } : Room) D z [.ref (b 0), .int (nI x)] (wM D b P Q) (fun r9_ w9_ => r9_ = some (.int (nI ((p_tl P) + 1))) ∧ ∃ Q', RQ Q' (mkP (p_s P) (p_sl P) (p_o P) (p_hd P) (p_sn P) (p_hs P) (upf (p_tx P) (p_tl P) x) (p_tl P + 1) (p_tc P) (p_tf P) (p_ta P) (p_tk P) (p_tn P)) ∧ w9_ = wM D b (mkP (p_s P) (p_sl P) (p_o P) (p_hd P) (p_sn P) (p_hs P) (upf (p_tx P) (p_tl P) x) (p_tl P + 1) (p_tc P) (p_tf P) (p_ta P) (p_tk P) (p_tn P)) Q') 0 0 := by
  have hi0 := hi
  obtain ⟨⟨hnc, hcc, hps, hpc, hla, hsm⟩, ho, hh, hsl, hsn, htl, htx⟩ := hi
  have hok := hi0.1
  have hM := hq.1
  exact (kX9_type_ok l D z (b 0) (b 1) (b 2) (b 3) (b 4) (b 5) (b 6) (b 7) (b 8) (b 9) (b 10) (b 11) (p_hd P) (p_hs P) (p_tl P) (q_ta Q) (q_iw Q) (p_tx P) x (by first | assumption | omega)).mask [true, false, false, false, false, false, false, false, true, false, false, false] [0, 1] rfl rfl (fun r w1 hp => by
    obtain ⟨rfl, rfl⟩ := hp
    exact ⟨[0, 1], rfl, rfl, rfl, Q, hq, rfl⟩)
set_option maxRecDepth 100000 in
set_option maxHeartbeats 4000000 in
theorem X_clearText (l : Launch) (D : va_G) (z : Nat × Nat × Nat) (a : Nat → Nat) (P : PS)  (J : JS) {Bd : Nat} (hi : IV Bd P) (hB : Bd < 1073741824)  : CM l yX8_clearText wsX8_clearText ({ frames := 0, cells := 0, slots := 0, locals := 0 } : Room) D z [.ref (a 0)] (wX D a P J) (fun r9_ w9_ => r9_ = some (.int (nI (p_tl P))) ∧ ∃ J', w9_ = wX D a (mkP (p_s P) (p_sl P) (p_o P) (p_hd P) (p_sn P) (p_hs P) (p_tx P) 0 (p_tc P) (p_tf P) (p_ta P) (p_tk P) (p_tn P)) J') 0 0 := by
  have hi0 := hi
  obtain ⟨⟨hnc, hcc, hps, hpc, hla, hsm⟩, ho, hh, hsl, hsn, htl, htx⟩ := hi
  have hok := hi0.1
  exact (kX8_clearText l D z (a 0) (a 1) (a 15) (a 18) (a 21) (a 25) (a 69) (p_hs P) (a 31) (a 6) (a 26) (a 27) (p_tl P) (p_tc P) (p_tx P) ).mask [true, false, false, false, false, false, false, false, false, false, false, false, false, false, false, false, false, false, false, false, false, false, false, false, false, true, true, false, false, false, false, false, false, false, false, false, false, false, false, false, false, false, false, false, false, false, false, false, false, false, false, false, false, false, false, false, false, false, false, false, false, false, false, false, false, false, false, false, false, false, false, false, false, false, false, false, false, false] [0, 1, 2] rfl rfl (fun r w1 hp => by
    obtain ⟨rfl, rfl⟩ := hp
    exact ⟨[0, 1, 2], rfl, rfl, rfl, J, rfl⟩)
set_option maxRecDepth 100000 in
set_option maxHeartbeats 4000000 in
theorem M_clearText (l : Launch) (D : va_G) (z : Nat × Nat × Nat) (b : Nat → Nat) (P : PS)  (Q : QS) {Bd : Nat} (hi : IV Bd P) (hB : Bd < 1073741824) (hq : RQ Q P)  : CM l yX9_clearText wsX9_clearText ({ frames := 0, cells := 0, slots := 0, locals := 0 } : Room) D z [.ref (b 0)] (wM D b P Q) (fun r9_ w9_ => r9_ = some (.int (nI (p_tl P))) ∧ ∃ Q', RQ Q' (mkP (p_s P) (p_sl P) (p_o P) (p_hd P) (p_sn P) (p_hs P) (p_tx P) 0 (p_tc P) (p_tf P) (p_ta P) (p_tk P) (p_tn P)) ∧ w9_ = wM D b (mkP (p_s P) (p_sl P) (p_o P) (p_hd P) (p_sn P) (p_hs P) (p_tx P) 0 (p_tc P) (p_tf P) (p_ta P) (p_tk P) (p_tn P)) Q') 0 0 := by
  have hi0 := hi
  obtain ⟨⟨hnc, hcc, hps, hpc, hla, hsm⟩, ho, hh, hsl, hsn, htl, htx⟩ := hi
  have hok := hi0.1
  have hM := hq.1
  exact (kX9_clearText l D z (b 0) (b 1) (b 2) (b 3) (b 4) (b 5) (b 6) (b 7) (b 8) (b 9) (b 10) (b 11) (p_hd P) (p_hs P) (p_tl P) (q_ta Q) (q_iw Q) ).mask [true, false, false, false, false, false, false, false, false, false, false, false] [0] rfl rfl (fun r w1 hp => by
    obtain ⟨rfl, rfl⟩ := hp
    exact ⟨[0], rfl, rfl, rfl, Q, hq, rfl⟩)
set_option maxRecDepth 100000 in
set_option maxHeartbeats 4000000 in
theorem X_undo_b1 (l : Launch) (D : va_G) (z : Nat × Nat × Nat) (a : Nat → Nat) (s_ : SV) (sl_ : Nat → SV) (o_ : Nat) (sn_ : SV) (hs_ : Bool) (tx_ : Nat → Nat) (tl_ : Nat) (tc_ : Nat) (tf_ : Nat → Nat) (ta_ : Nat → Nat) (tk_ : Nat → Nat) (tn_ : Nat) (J : JS) {Bd : Nat} (hi : IV Bd (mkP s_ sl_ o_ 0 sn_ hs_ tx_ tl_ tc_ tf_ ta_ tk_ tn_)) (hB : Bd < 1073741824)  : CM l yX8_undo wsX8_undo ({ frames := 5, cells := 0, slots := 0, locals := 109 } : Room) D z [.ref (a 0)] (wX D a (mkP s_ sl_ o_ 0 sn_ hs_ tx_ tl_ tc_ tf_ ta_ tk_ tn_) J) (fun r9_ w9_ => r9_ = some (.int (-5)) ∧ ∃ J', w9_ = wX D a (mkP s_ sl_ o_ 0 sn_ hs_ tx_ tl_ tc_ tf_ ta_ tk_ tn_) J') 0 0 := by
  have hi0 := hi
  obtain ⟨⟨hnc, hcc, hps, hpc, hla, hsm⟩, ho, hh, hsl, hsn, htl, htx⟩ := hi
  have hok := hi0.1
  exact (kX8_undo_b1 l D z (a 0) (a 1) (a 15) (a 18) (a 21) (a 25) (a 69) (p_hs (mkP s_ sl_ o_ 0 sn_ hs_ tx_ tl_ tc_ tf_ ta_ tk_ tn_)) (a 31) (a 6) (a 32) (p_o (mkP s_ sl_ o_ 0 sn_ hs_ tx_ tl_ tc_ tf_ ta_ tk_ tn_)) ).mask [true, false, false, false, false, false, false, false, false, false, false, false, false, false, false, false, false, false, false, false, false, false, false, false, false, false, false, false, false, false, false, true, false, false, false, false, false, false, false, false, false, false, false, false, false, false, false, false, false, false, false, false, false, false, false, false, false, false, false, false, false, false, false, false, false, false, false, false, false, false, false, false, false, false, false, false, false, false] [0, 1] rfl rfl (fun r w1 hp => by
    obtain ⟨rfl, rfl⟩ := hp
    exact ⟨[0, 1], rfl, rfl, rfl, J, rfl⟩)
set_option maxRecDepth 100000 in
set_option maxHeartbeats 4000000 in
theorem M_undo_b1 (l : Launch) (D : va_G) (z : Nat × Nat × Nat) (b : Nat → Nat) (s_ : SV) (sl_ : Nat → SV) (o_ : Nat) (sn_ : SV) (hs_ : Bool) (tx_ : Nat → Nat) (tl_ : Nat) (tc_ : Nat) (tf_ : Nat → Nat) (ta_ : Nat → Nat) (tk_ : Nat → Nat) (tn_ : Nat) (Q : QS) {Bd : Nat} (hi : IV Bd (mkP s_ sl_ o_ 0 sn_ hs_ tx_ tl_ tc_ tf_ ta_ tk_ tn_)) (hB : Bd < 1073741824) (hq : RQ Q (mkP s_ sl_ o_ 0 sn_ hs_ tx_ tl_ tc_ tf_ ta_ tk_ tn_))  : CM l yX9_undo wsX9_undo ({ frames := 0, cells := 0, slots := 0, locals := 0 } : Room) D z [.ref (b 0)] (wM D b (mkP s_ sl_ o_ 0 sn_ hs_ tx_ tl_ tc_ tf_ ta_ tk_ tn_) Q) (fun r9_ w9_ => r9_ = some (.int (-5)) ∧ ∃ Q', RQ Q' (mkP s_ sl_ o_ 0 sn_ hs_ tx_ tl_ tc_ tf_ ta_ tk_ tn_) ∧ w9_ = wM D b (mkP s_ sl_ o_ 0 sn_ hs_ tx_ tl_ tc_ tf_ ta_ tk_ tn_) Q') 0 0 := by
  have hi0 := hi
  obtain ⟨⟨hnc, hcc, hps, hpc, hla, hsm⟩, ho, hh, hsl, hsn, htl, htx⟩ := hi
  have hok := hi0.1
  have hM := hq.1
  exact (kX9_undo_b1 l D z (b 0) (b 1) (b 2) (b 3) (b 4) (b 5) (b 6) (b 7) (b 8) (b 9) (b 10) (b 11) (p_hs (mkP s_ sl_ o_ 0 sn_ hs_ tx_ tl_ tc_ tf_ ta_ tk_ tn_)) (p_tl (mkP s_ sl_ o_ 0 sn_ hs_ tx_ tl_ tc_ tf_ ta_ tk_ tn_)) (q_ta Q) (q_iw Q) ).mask [true, false, false, false, false, false, false, false, false, false, false, false] [0] rfl rfl (fun r w1 hp => by
    obtain ⟨rfl, rfl⟩ := hp
    exact ⟨[0], rfl, rfl, rfl, Q, hq, rfl⟩)