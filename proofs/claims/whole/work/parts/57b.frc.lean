set_option maxRecDepth 100000 in
set_option maxHeartbeats 4000000 in
theorem M_place_3 (l : Launch) (D : va_G) (z : Nat × Nat × Nat) (b : Nat → Nat) (P : PS) (x : Nat) (y : Nat) (Q : QS) {Bd : Nat} (hi : IV Bd P) (hB : Bd < 1073741824) (hq : RQ Q P) (hx : x < 12) (hy : y < 12) : CM l yX9_place wsX9_place ({ frames := 2, cells := 0, slots := 0, locals := 44 } : Room) D z [.ref (b 0), .int (nI x), .int (nI y), .int (nI 3)] (wM D b P Q) (fun r9_ w9_ => r9_ = some (.int (orN (fdB (fun j => decide (12 * sv_cr (p_s P) j + sv_cc (p_s P) j = 12 * y + x)) (sv_nc (p_s P))))) ∧ ∃ Q', RQ Q' P ∧ w9_ = wM D b P Q') 0 0 := by
  have hi0 := hi
  obtain ⟨⟨hnc, hcc, hps, hpc, hla, hsm⟩, ho, hh, hsl, hsn, htl, htx⟩ := hi
  have hok := hi0.1
  have hM := hq.1
  exact (kX9_place_3 l D z (b 0) (b 1) (b 2) (b 3) (b 4) (b 5) (b 6) (b 7) (b 8) (b 9) (b 10) (b 11) (p_hd P) (p_hs P) (p_tl P) (q_ta Q) (q_iw Q) (q_M Q) (p_s P) x y (by first | assumption | omega) (by first | assumption | omega) (by first | assumption | omega) (by first | assumption | omega) (by first | assumption | omega)).mask [true, false, false, false, false, true, false, false, false, false, false, false] [0, 1] rfl rfl (fun r w1 hp => by
    obtain ⟨rfl, rfl⟩ := hp
    exact ⟨[0, 1], rfl, rfl, rfl, Q, hq, rfl⟩)
set_option maxRecDepth 100000 in
set_option maxHeartbeats 4000000 in
theorem X_way_b1 (l : Launch) (D : va_G) (z : Nat × Nat × Nat) (a : Nat → Nat) (P : PS) (w : Int32) (k : Int32) (J : JS) {Bd : Nat} (hi : IV Bd P) (hB : Bd < 1073741824) (hb : rgB w 48 = false) : CM l yX8_way wsX8_way ({ frames := 4, cells := 0, slots := 0, locals := 94 } : Room) D z [.ref (a 0), .int w, .int k] (wX D a P J) (fun r9_ w9_ => r9_ = some (.int (-1)) ∧ ∃ J', w9_ = wX D a P J') 0 0 := by
  have hi0 := hi
  obtain ⟨⟨hnc, hcc, hps, hpc, hla, hsm⟩, ho, hh, hsl, hsn, htl, htx⟩ := hi
  have hok := hi0.1
  exact (kX8_way_b1 l D z (a 0) (a 1) (a 15) (a 18) (a 21) (a 25) (a 69) (p_hs P) (a 31) (a 6) w k (by first | assumption | omega)).mask [true, false, false, false, false, false, false, false, false, false, false, false, false, false, false, false, false, false, false, false, false, false, false, false, false, false, false, false, false, false, false, false, false, false, false, false, false, false, false, false, false, false, false, false, false, false, false, false, false, false, false, false, false, false, false, false, false, false, false, false, false, false, false, false, false, false, false, false, false, false, false, false, false, false, false, false, false, false] [0] rfl rfl (fun r w1 hp => by
    obtain ⟨rfl, rfl⟩ := hp
    exact ⟨[0], rfl, rfl, rfl, J, rfl⟩)
set_option maxRecDepth 100000 in
set_option maxHeartbeats 4000000 in
theorem M_way_b1 (l : Launch) (D : va_G) (z : Nat × Nat × Nat) (b : Nat → Nat) (P : PS) (w : Int32) (k : Int32) (Q : QS) {Bd : Nat} (hi : IV Bd P) (hB : Bd < 1073741824) (hq : RQ Q P) (hb : rgB w 48 = false) : CM l yX9_way wsX9_way ({ frames := 4, cells := 0, slots := 0, locals := 92 } : Room) D z [.ref (b 0), .int w, .int k] (wM D b P Q) (fun r9_ w9_ => r9_ = some (.int (-1)) ∧ ∃ Q', RQ Q' P ∧ w9_ = wM D b P Q') 0 0 := by
  have hi0 := hi
  obtain ⟨⟨hnc, hcc, hps, hpc, hla, hsm⟩, ho, hh, hsl, hsn, htl, htx⟩ := hi
  have hok := hi0.1
  have hM := hq.1
  exact (kX9_way_b1 l D z (b 0) (b 1) (b 2) (b 3) (b 4) (b 5) (b 6) (b 7) (b 8) (b 9) (b 10) (b 11) (p_hd P) (p_hs P) (p_tl P) (q_ta Q) (q_iw Q) w k (by first | assumption | omega)).mask [true, false, false, false, false, false, false, false, false, false, false, false] [0] rfl rfl (fun r w1 hp => by
    obtain ⟨rfl, rfl⟩ := hp
    exact ⟨[0], rfl, rfl, rfl, Q, hq, rfl⟩)
set_option maxRecDepth 100000 in
set_option maxHeartbeats 4000000 in
theorem X_way_b2 (l : Launch) (D : va_G) (z : Nat × Nat × Nat) (a : Nat → Nat) (P : PS) (w : Nat) (k : Int32) (J : JS) {Bd : Nat} (hi : IV Bd P) (hB : Bd < 1073741824) (hw : w < 48) (hsw : k < 0 ∨ nI 8 ≤ k) : CM l yX8_way wsX8_way ({ frames := 4, cells := 0, slots := 0, locals := 94 } : Room) D z [.ref (a 0), .int (nI w), .int k] (wX D a P J) (fun r9_ w9_ => r9_ = some (.int (-2)) ∧ ∃ J', w9_ = wX D a P J') 0 0 := by
  have hi0 := hi
  obtain ⟨⟨hnc, hcc, hps, hpc, hla, hsm⟩, ho, hh, hsl, hsn, htl, htx⟩ := hi
  have hok := hi0.1
  exact (kX8_way_b2 l D z (a 0) (a 1) (a 15) (a 18) (a 21) (a 25) (a 69) (p_hs P) (a 31) (a 6) w k (by first | assumption | omega) (by first | assumption | omega)).mask [true, false, false, false, false, false, false, false, false, false, false, false, false, false, false, false, false, false, false, false, false, false, false, false, false, false, false, false, false, false, false, false, false, false, false, false, false, false, false, false, false, false, false, false, false, false, false, false, false, false, false, false, false, false, false, false, false, false, false, false, false, false, false, false, false, false, false, false, false, false, false, false, false, false, false, false, false, false] [0] rfl rfl (fun r w1 hp => by
    obtain ⟨rfl, rfl⟩ := hp
    exact ⟨[0], rfl, rfl, rfl, J, rfl⟩)
set_option maxRecDepth 100000 in
set_option maxHeartbeats 4000000 in
theorem M_way_b2 (l : Launch) (D : va_G) (z : Nat × Nat × Nat) (b : Nat → Nat) (P : PS) (w : Nat) (k : Int32) (Q : QS) {Bd : Nat} (hi : IV Bd P) (hB : Bd < 1073741824) (hq : RQ Q P) (hw : w < 48) (hsw : k < 0 ∨ nI 8 ≤ k) : CM l yX9_way wsX9_way ({ frames := 4, cells := 0, slots := 0, locals := 92 } : Room) D z [.ref (b 0), .int (nI w), .int k] (wM D b P Q) (fun r9_ w9_ => r9_ = some (.int (-2)) ∧ ∃ Q', RQ Q' P ∧ w9_ = wM D b P Q') 0 0 := by
  have hi0 := hi
  obtain ⟨⟨hnc, hcc, hps, hpc, hla, hsm⟩, ho, hh, hsl, hsn, htl, htx⟩ := hi
  have hok := hi0.1
  have hM := hq.1
  exact (kX9_way_b2 l D z (b 0) (b 1) (b 2) (b 3) (b 4) (b 5) (b 6) (b 7) (b 8) (b 9) (b 10) (b 11) (p_hd P) (p_hs P) (p_tl P) (q_ta Q) (q_iw Q) w k (by first | assumption | omega) (by first | assumption | omega)).mask [true, false, false, false, false, false, false, false, false, false, false, false] [0] rfl rfl (fun r w1 hp => by
    obtain ⟨rfl, rfl⟩ := hp
    exact ⟨[0], rfl, rfl, rfl, Q, hq, rfl⟩)
set_option maxRecDepth 100000 in
set_option maxHeartbeats 4000000 in
theorem X_way_0 (l : Launch) (D : va_G) (z : Nat × Nat × Nat) (a : Nat → Nat) (P : PS) (w : Nat) (J : JS) {Bd : Nat} (hi : IV Bd P) (hB : Bd < 1073741824) (hw : w < 48) : CM l yX8_way wsX8_way ({ frames := 4, cells := 0, slots := 0, locals := 94 } : Room) D z [.ref (a 0), .int (nI w), .int (nI 0)] (wX D a P J) (fun r9_ w9_ => r9_ = some (.int (nI (tM w))) ∧ ∃ J', w9_ = wX D a P J') 0 0 := by
  have hi0 := hi
  obtain ⟨⟨hnc, hcc, hps, hpc, hla, hsm⟩, ho, hh, hsl, hsn, htl, htx⟩ := hi
  have hok := hi0.1
  exact (kX8_way_0 l D z (a 0) (a 1) (a 15) (a 18) (a 21) (a 25) (a 69) (p_hs P) (a 31) (a 6) (a 2) (a 3) (a 4) (a 5) w (by first | assumption | omega)).mask [true, true, true, true, true, true, false, false, false, false, false, false, false, false, false, false, false, false, false, false, false, false, false, false, false, false, false, false, false, false, false, false, false, false, false, false, false, false, false, false, false, false, false, false, false, false, false, false, false, false, false, false, false, false, false, false, false, false, false, false, false, false, false, false, false, false, false, false, false, false, false, false, false, false, false, false, false, false] [0, 1, 2, 3, 4, 5] rfl rfl (fun r w1 hp => by
    obtain ⟨rfl, rfl⟩ := hp
    exact ⟨[0, 1, 2, 3, 4, 5], rfl, rfl, rfl, J, rfl⟩)
set_option maxRecDepth 100000 in
set_option maxHeartbeats 4000000 in
theorem M_way_0 (l : Launch) (D : va_G) (z : Nat × Nat × Nat) (b : Nat → Nat) (P : PS) (w : Nat) (Q : QS) {Bd : Nat} (hi : IV Bd P) (hB : Bd < 1073741824) (hq : RQ Q P) (hw : w < 48) : CM l yX9_way wsX9_way ({ frames := 4, cells := 0, slots := 0, locals := 92 } : Room) D z [.ref (b 0), .int (nI w), .int (nI 0)] (wM D b P Q) (fun r9_ w9_ => r9_ = some (.int (nI (tM w))) ∧ ∃ Q', RQ Q' P ∧ w9_ = wM D b P Q') 0 0 := by
  have hi0 := hi
  obtain ⟨⟨hnc, hcc, hps, hpc, hla, hsm⟩, ho, hh, hsl, hsn, htl, htx⟩ := hi
  have hok := hi0.1
  have hM := hq.1
  exact (kX9_way_0 l D z (b 0) (b 1) (b 2) (b 3) (b 4) (b 5) (b 6) (b 7) (b 8) (b 9) (b 10) (b 11) (p_hd P) (p_hs P) (p_tl P) (q_ta Q) (q_iw Q) w (by first | assumption | omega)).mask [true, true, true, true, false, false, false, false, false, false, false, false] [0, 1, 2, 3] rfl rfl (fun r w1 hp => by
    obtain ⟨rfl, rfl⟩ := hp
    exact ⟨[0, 1, 2, 3], rfl, rfl, rfl, Q, hq, rfl⟩)
set_option maxRecDepth 100000 in
set_option maxHeartbeats 4000000 in
theorem X_way_1 (l : Launch) (D : va_G) (z : Nat × Nat × Nat) (a : Nat → Nat) (P : PS) (w : Nat) (J : JS) {Bd : Nat} (hi : IV Bd P) (hB : Bd < 1073741824) (hw : w < 48) : CM l yX8_way wsX8_way ({ frames := 4, cells := 0, slots := 0, locals := 94 } : Room) D z [.ref (a 0), .int (nI w), .int (nI 1)] (wX D a P J) (fun r9_ w9_ => r9_ = some (.int (nI (tN w))) ∧ ∃ J', w9_ = wX D a P J') 0 0 := by
  have hi0 := hi
  obtain ⟨⟨hnc, hcc, hps, hpc, hla, hsm⟩, ho, hh, hsl, hsn, htl, htx⟩ := hi
  have hok := hi0.1
  exact (kX8_way_1 l D z (a 0) (a 1) (a 15) (a 18) (a 21) (a 25) (a 69) (p_hs P) (a 31) (a 6) (a 2) (a 3) (a 4) (a 5) w (by first | assumption | omega)).mask [true, true, true, true, true, true, false, false, false, false, false, false, false, false, false, false, false, false, false, false, false, false, false, false, false, false, false, false, false, false, false, false, false, false, false, false, false, false, false, false, false, false, false, false, false, false, false, false, false, false, false, false, false, false, false, false, false, false, false, false, false, false, false, false, false, false, false, false, false, false, false, false, false, false, false, false, false, false] [0, 1, 2, 3, 4, 5] rfl rfl (fun r w1 hp => by
    obtain ⟨rfl, rfl⟩ := hp
    exact ⟨[0, 1, 2, 3, 4, 5], rfl, rfl, rfl, J, rfl⟩)
set_option maxRecDepth 100000 in
set_option maxHeartbeats 4000000 in
theorem M_way_1 (l : Launch) (D : va_G) (z : Nat × Nat × Nat) (b : Nat → Nat) (P : PS) (w : Nat) (Q : QS) {Bd : Nat} (hi : IV Bd P) (hB : Bd < 1073741824) (hq : RQ Q P) (hw : w < 48) : CM l yX9_way wsX9_way ({ frames := 4, cells := 0, slots := 0, locals := 92 } : Room) D z [.ref (b 0), .int (nI w), .int (nI 1)] (wM D b P Q) (fun r9_ w9_ => r9_ = some (.int (nI (tN w))) ∧ ∃ Q', RQ Q' P ∧ w9_ = wM D b P Q') 0 0 := by
  have hi0 := hi
  obtain ⟨⟨hnc, hcc, hps, hpc, hla, hsm⟩, ho, hh, hsl, hsn, htl, htx⟩ := hi
  have hok := hi0.1
  have hM := hq.1
  exact (kX9_way_1 l D z (b 0) (b 1) (b 2) (b 3) (b 4) (b 5) (b 6) (b 7) (b 8) (b 9) (b 10) (b 11) (p_hd P) (p_hs P) (p_tl P) (q_ta Q) (q_iw Q) w (by first | assumption | omega)).mask [true, true, true, true, false, false, false, false, false, false, false, false] [0, 1, 2, 3] rfl rfl (fun r w1 hp => by
    obtain ⟨rfl, rfl⟩ := hp
    exact ⟨[0, 1, 2, 3], rfl, rfl, rfl, Q, hq, rfl⟩)
set_option maxRecDepth 100000 in
set_option maxHeartbeats 4000000 in
theorem X_way_2 (l : Launch) (D : va_G) (z : Nat × Nat × Nat) (a : Nat → Nat) (P : PS) (w : Nat) (J : JS) {Bd : Nat} (hi : IV Bd P) (hB : Bd < 1073741824) (hw : w < 48) : CM l yX8_way wsX8_way ({ frames := 4, cells := 0, slots := 0, locals := 94 } : Room) D z [.ref (a 0), .int (nI w), .int (nI 2)] (wX D a P J) (fun r9_ w9_ => r9_ = some (.int (nI (tS w))) ∧ ∃ J', w9_ = wX D a P J') 0 0 := by
  have hi0 := hi
  obtain ⟨⟨hnc, hcc, hps, hpc, hla, hsm⟩, ho, hh, hsl, hsn, htl, htx⟩ := hi
  have hok := hi0.1
  exact (kX8_way_2 l D z (a 0) (a 1) (a 15) (a 18) (a 21) (a 25) (a 69) (p_hs P) (a 31) (a 6) (a 2) (a 3) (a 4) (a 5) w (by first | assumption | omega)).mask [true, true, true, true, true, true, false, false, false, false, false, false, false, false, false, false, false, false, false, false, false, false, false, false, false, false, false, false, false, false, false, false, false, false, false, false, false, false, false, false, false, false, false, false, false, false, false, false, false, false, false, false, false, false, false, false, false, false, false, false, false, false, false, false, false, false, false, false, false, false, false, false, false, false, false, false, false, false] [0, 1, 2, 3, 4, 5] rfl rfl (fun r w1 hp => by
    obtain ⟨rfl, rfl⟩ := hp
    exact ⟨[0, 1, 2, 3, 4, 5], rfl, rfl, rfl, J, rfl⟩)
set_option maxRecDepth 100000 in
set_option maxHeartbeats 4000000 in
theorem M_way_2 (l : Launch) (D : va_G) (z : Nat × Nat × Nat) (b : Nat → Nat) (P : PS) (w : Nat) (Q : QS) {Bd : Nat} (hi : IV Bd P) (hB : Bd < 1073741824) (hq : RQ Q P) (hw : w < 48) : CM l yX9_way wsX9_way ({ frames := 4, cells := 0, slots := 0, locals := 92 } : Room) D z [.ref (b 0), .int (nI w), .int (nI 2)] (wM D b P Q) (fun r9_ w9_ => r9_ = some (.int (nI (tS w))) ∧ ∃ Q', RQ Q' P ∧ w9_ = wM D b P Q') 0 0 := by
  have hi0 := hi
  obtain ⟨⟨hnc, hcc, hps, hpc, hla, hsm⟩, ho, hh, hsl, hsn, htl, htx⟩ := hi
  have hok := hi0.1
  have hM := hq.1
  exact (kX9_way_2 l D z (b 0) (b 1) (b 2) (b 3) (b 4) (b 5) (b 6) (b 7) (b 8) (b 9) (b 10) (b 11) (p_hd P) (p_hs P) (p_tl P) (q_ta Q) (q_iw Q) w (by first | assumption | omega)).mask [true, true, true, true, false, false, false, false, false, false, false, false] [0, 1, 2, 3] rfl rfl (fun r w1 hp => by
    obtain ⟨rfl, rfl⟩ := hp
    exact ⟨[0, 1, 2, 3], rfl, rfl, rfl, Q, hq, rfl⟩)
set_option maxRecDepth 100000 in
set_option maxHeartbeats 4000000 in
theorem X_way_3 (l : Launch) (D : va_G) (z : Nat × Nat × Nat) (a : Nat → Nat) (P : PS) (w : Nat) (J : JS) {Bd : Nat} (hi : IV Bd P) (hB : Bd < 1073741824) (hw : w < 48) : CM l yX8_way wsX8_way ({ frames := 4, cells := 0, slots := 0, locals := 94 } : Room) D z [.ref (a 0), .int (nI w), .int (nI 3)] (wX D a P J) (fun r9_ w9_ => r9_ = some (.int (nI (10 * (tM w * tM w + tN w * tN w) + tS w))) ∧ ∃ J', w9_ = wX D a P J') 0 0 := by
  have hi0 := hi
  obtain ⟨⟨hnc, hcc, hps, hpc, hla, hsm⟩, ho, hh, hsl, hsn, htl, htx⟩ := hi
  have hok := hi0.1
  exact (kX8_way_3 l D z (a 0) (a 1) (a 15) (a 18) (a 21) (a 25) (a 69) (p_hs P) (a 31) (a 6) (a 2) (a 3) (a 4) (a 5) w (by first | assumption | omega)).mask [true, true, true, true, true, true, false, false, false, false, false, false, false, false, false, false, false, false, false, false, false, false, false, false, false, false, false, false, false, false, false, false, false, false, false, false, false, false, false, false, false, false, false, false, false, false, false, false, false, false, false, false, false, false, false, false, false, false, false, false, false, false, false, false, false, false, false, false, false, false, false, false, false, false, false, false, false, false] [0, 1, 2, 3, 4, 5] rfl rfl (fun r w1 hp => by
    obtain ⟨rfl, rfl⟩ := hp
    exact ⟨[0, 1, 2, 3, 4, 5], rfl, rfl, rfl, J, rfl⟩)
set_option maxRecDepth 100000 in
set_option maxHeartbeats 4000000 in
theorem M_way_3 (l : Launch) (D : va_G) (z : Nat × Nat × Nat) (b : Nat → Nat) (P : PS) (w : Nat) (Q : QS) {Bd : Nat} (hi : IV Bd P) (hB : Bd < 1073741824) (hq : RQ Q P) (hw : w < 48) : CM l yX9_way wsX9_way ({ frames := 4, cells := 0, slots := 0, locals := 92 } : Room) D z [.ref (b 0), .int (nI w), .int (nI 3)] (wM D b P Q) (fun r9_ w9_ => r9_ = some (.int (nI (10 * (tM w * tM w + tN w * tN w) + tS w))) ∧ ∃ Q', RQ Q' P ∧ w9_ = wM D b P Q') 0 0 := by
  have hi0 := hi
  obtain ⟨⟨hnc, hcc, hps, hpc, hla, hsm⟩, ho, hh, hsl, hsn, htl, htx⟩ := hi
  have hok := hi0.1
  have hM := hq.1
  exact (kX9_way_3 l D z (b 0) (b 1) (b 2) (b 3) (b 4) (b 5) (b 6) (b 7) (b 8) (b 9) (b 10) (b 11) (p_hd P) (p_hs P) (p_tl P) (q_ta Q) (q_iw Q) w (by first | assumption | omega)).mask [true, true, true, true, false, false, false, false, false, false, false, false] [0, 1, 2, 3] rfl rfl (fun r w1 hp => by
    obtain ⟨rfl, rfl⟩ := hp
    exact ⟨[0, 1, 2, 3], rfl, rfl, rfl, Q, hq, rfl⟩)