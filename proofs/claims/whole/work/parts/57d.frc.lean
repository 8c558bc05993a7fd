set_option maxRecDepth 100000 in
set_option maxHeartbeats 4000000 in
theorem X_swing_ok (l : Launch) (D : va_G) (z : Nat × Nat × Nat) (a : Nat → Nat) (P : PS) (w : Nat) (x : Nat) (y : Nat) (J : JS) {Bd : Nat} (hi : IV Bd P) (hB : Bd < 1073741824) (hw : w < 48) (hx : x < 12) (hy : y < 12) : CM l yX8_swing wsX8_swing ({ frames := 2, cells := 0, slots := 0, locals := 48 } : Room) D z [.ref (a 0), .int (nI w), .int (nI x), .int (nI y)] (wX D a P J) (fun r9_ w9_ => r9_ = some (.int (SW w (12 * y + x))) ∧ ∃ J', w9_ = wX D a P J') 0 0 := by
  have hi0 := hi
  obtain ⟨⟨hnc, hcc, hps, hpc, hla, hsm⟩, ho, hh, hsl, hsn, htl, htx⟩ := hi
  have hok := hi0.1
  exact (kX8_swing_ok l D z (a 0) (a 1) (a 15) (a 18) (a 21) (a 25) (a 69) (p_hs P) (a 31) (a 6) (a 2) (a 3) (a 4) (a 5) w x y (by first | assumption | omega) (by first | assumption | omega) (by first | assumption | omega)).mask [true, true, true, true, true, true, false, false, false, false, false, false, false, false, false, false, false, false, false, false, false, false, false, false, false, false, false, false, false, false, false, false, false, false, false, false, false, false, false, false, false, false, false, false, false, false, false, false, false, false, false, false, false, false, false, false, false, false, false, false, false, false, false, false, false, false, false, false, false, false, false, false, false, false, false, false, false, false] [0, 1, 2, 3, 4, 5] rfl rfl (fun r w1 hp => by
    obtain ⟨rfl, rfl⟩ := hp
    exact ⟨[0, 1, 2, 3, 4, 5], rfl, rfl, rfl, J, rfl⟩)
set_option maxRecDepth 100000 in
set_option maxHeartbeats 4000000 in
theorem M_swing_ok (l : Launch) (D : va_G) (z : Nat × Nat × Nat) (b : Nat → Nat) (P : PS) (w : Nat) (x : Nat) (y : Nat) (Q : QS) {Bd : Nat} (hi : IV Bd P) (hB : Bd < 1073741824) (hq : RQ Q P) (hw : w < 48) (hx : x < 12) (hy : y < 12) : CM l yX9_swing wsX9_swing ({ frames := 2, cells := 0, slots := 0, locals := 43 } : Room) D z [.ref (b 0), .int (nI w), .int (nI x), .int (nI y)] (wM D b P Q) (fun r9_ w9_ => r9_ = some (.int (SW w (12 * y + x))) ∧ ∃ Q', RQ Q' P ∧ w9_ = wM D b P Q') 0 0 := by
  have hi0 := hi
  obtain ⟨⟨hnc, hcc, hps, hpc, hla, hsm⟩, ho, hh, hsl, hsn, htl, htx⟩ := hi
  have hok := hi0.1
  have hM := hq.1
  exact (kX9_swing_ok l D z (b 0) (b 1) (b 2) (b 3) (b 4) (b 5) (b 6) (b 7) (b 8) (b 9) (b 10) (b 11) (p_hd P) (p_hs P) (p_tl P) (q_ta Q) (q_iw Q) w x y (by first | assumption | omega) (by first | assumption | omega) (by first | assumption | omega)).mask [true, false, false, false, true, false, false, false, false, false, false, false] [0, 1] rfl rfl (fun r w1 hp => by
    obtain ⟨rfl, rfl⟩ := hp
    exact ⟨[0, 1], rfl, rfl, rfl, Q, hq, rfl⟩)
set_option maxRecDepth 100000 in
set_option maxHeartbeats 4000000 in
theorem X_sounds_b1 (l : Launch) (D : va_G) (z : Nat × Nat × Nat) (a : Nat → Nat) (P : PS) (x : Int32) (y : Int32) (J : JS) {Bd : Nat} (hi : IV Bd P) (hB : Bd < 1073741824) (hb : (rgB x 4 && rgB y 12) = false) : CM l yX8_sounds wsX8_sounds ({ frames := 5, cells := 0, slots := 0, locals := 117 } : Room) D z [.ref (a 0), .int x, .int y] (wX D a P J) (fun r9_ w9_ => r9_ = some (.int (-1)) ∧ ∃ J', w9_ = wX D a P J') 0 0 := by
  have hi0 := hi
  obtain ⟨⟨hnc, hcc, hps, hpc, hla, hsm⟩, ho, hh, hsl, hsn, htl, htx⟩ := hi
  have hok := hi0.1
  exact (kX8_sounds_b1 l D z (a 0) (a 1) (a 15) (a 18) (a 21) (a 25) (a 69) (p_hs P) (a 31) (a 6) x y (by first | assumption | omega)).mask [true, false, false, false, false, false, false, false, false, false, false, false, false, false, false, false, false, false, false, false, false, false, false, false, false, false, false, false, false, false, false, false, false, false, false, false, false, false, false, false, false, false, false, false, false, false, false, false, false, false, false, false, false, false, false, false, false, false, false, false, false, false, false, false, false, false, false, false, false, false, false, false, false, false, false, false, false, false] [0] rfl rfl (fun r w1 hp => by
    obtain ⟨rfl, rfl⟩ := hp
    exact ⟨[0], rfl, rfl, rfl, J, rfl⟩)
set_option maxRecDepth 100000 in
set_option maxHeartbeats 4000000 in
theorem M_sounds_b1 (l : Launch) (D : va_G) (z : Nat × Nat × Nat) (b : Nat → Nat) (P : PS) (x : Int32) (y : Int32) (Q : QS) {Bd : Nat} (hi : IV Bd P) (hB : Bd < 1073741824) (hq : RQ Q P) (hb : (rgB x 4 && rgB y 12) = false) : CM l yX9_sounds wsX9_sounds ({ frames := 4, cells := 0, slots := 0, locals := 89 } : Room) D z [.ref (b 0), .int x, .int y] (wM D b P Q) (fun r9_ w9_ => r9_ = some (.int (-1)) ∧ ∃ Q', RQ Q' P ∧ w9_ = wM D b P Q') 0 0 := by
  have hi0 := hi
  obtain ⟨⟨hnc, hcc, hps, hpc, hla, hsm⟩, ho, hh, hsl, hsn, htl, htx⟩ := hi
  have hok := hi0.1
  have hM := hq.1
  exact (kX9_sounds_b1 l D z (b 0) (b 1) (b 2) (b 3) (b 4) (b 5) (b 6) (b 7) (b 8) (b 9) (b 10) (b 11) (p_hd P) (p_hs P) (p_tl P) (q_ta Q) (q_iw Q) x y (by first | assumption | omega)).mask [true, false, false, false, false, false, false, false, false, false, false, false] [0] rfl rfl (fun r w1 hp => by
    obtain ⟨rfl, rfl⟩ := hp
    exact ⟨[0], rfl, rfl, rfl, Q, hq, rfl⟩)
set_option maxRecDepth 100000 in
set_option maxHeartbeats 4000000 in
theorem X_sounds_ok (l : Launch) (D : va_G) (z : Nat × Nat × Nat) (a : Nat → Nat) (P : PS) (x : Nat) (y : Nat) (J : JS) {Bd : Nat} (hi : IV Bd P) (hB : Bd < 1073741824) (hx : x < 4) (hy : y < 12) : CM l yX8_sounds wsX8_sounds ({ frames := 5, cells := 0, slots := 0, locals := 117 } : Room) D z [.ref (a 0), .int (nI x), .int (nI y)] (wX D a P J) (fun r9_ w9_ => r9_ = some (.int (laM (orM (wyO (p_s P) (bpN x y))))) ∧ ∃ J', w9_ = wX D a P J') 0 0 := by
  have hi0 := hi
  obtain ⟨⟨hnc, hcc, hps, hpc, hla, hsm⟩, ho, hh, hsl, hsn, htl, htx⟩ := hi
  have hok := hi0.1
  exact (kX8_sounds_ok l D z (a 0) (a 1) (a 15) (a 18) (a 21) (a 25) (a 69) (p_hs P) (a 31) (a 16) (a 17) (j_pn J) (a 2) (a 3) (a 4) (a 5) (a 6) (a 7) (a 8) (a 9) (a 10) (a 11) (p_s P) x y (by first | assumption | omega) (by first | assumption | omega) (by first | assumption | omega) (by first | assumption | omega)).mask [true, true, true, true, true, true, true, false, true, true, true, false, false, false, false, true, false, false, false, false, false, false, false, false, false, false, false, false, false, false, false, false, false, false, false, false, false, false, false, false, false, false, false, false, false, false, false, false, false, false, false, false, false, false, false, false, false, false, false, false, false, false, false, false, false, false, false, false, false, false, false, false, false, false, false, false, false, false] [0, 10, 1, 2, 3, 4, 5, 6, 7, 8, 9] rfl rfl (fun r w1 hp => by
    obtain ⟨rfl, rfl⟩ := hp
    exact ⟨[0, 2, 3, 4, 5, 6, 7, 8, 9, 10, 1], rfl, rfl, rfl, J, rfl⟩)
set_option maxRecDepth 100000 in
set_option maxHeartbeats 4000000 in
theorem M_sounds_ok (l : Launch) (D : va_G) (z : Nat × Nat × Nat) (b : Nat → Nat) (P : PS) (x : Nat) (y : Nat) (Q : QS) {Bd : Nat} (hi : IV Bd P) (hB : Bd < 1073741824) (hq : RQ Q P) (hx : x < 4) (hy : y < 12) : CM l yX9_sounds wsX9_sounds ({ frames := 4, cells := 0, slots := 0, locals := 89 } : Room) D z [.ref (b 0), .int (nI x), .int (nI y)] (wM D b P Q) (fun r9_ w9_ => r9_ = some (.int (orN (wyO (p_s P) (bpN x y)))) ∧ ∃ Q', RQ Q' P ∧ w9_ = wM D b P Q') 0 0 := by
  have hi0 := hi
  obtain ⟨⟨hnc, hcc, hps, hpc, hla, hsm⟩, ho, hh, hsl, hsn, htl, htx⟩ := hi
  have hok := hi0.1
  have hM := hq.1
  exact (kX9_sounds_ok l D z (b 0) (b 1) (b 2) (b 3) (b 4) (b 5) (b 6) (b 7) (b 8) (b 9) (b 10) (b 11) (p_hd P) (p_hs P) (p_tl P) (q_ta Q) (q_iw Q) (q_M Q) (p_s P) x y (by first | assumption | omega) (by first | assumption | omega) (by first | assumption | omega) (by first | assumption | omega) (by first | assumption | omega)).mask [true, false, false, false, true, true, false, false, false, false, false, false] [0, 1, 2] rfl rfl (fun r w1 hp => by
    obtain ⟨rfl, rfl⟩ := hp
    exact ⟨[0, 1, 2], rfl, rfl, rfl, Q, hq, rfl⟩)
set_option maxRecDepth 100000 in
set_option maxHeartbeats 4000000 in
theorem X_why_b1 (l : Launch) (D : va_G) (z : Nat × Nat × Nat) (a : Nat → Nat) (P : PS) (w : Int32) (x : Int32) (y : Int32) (J : JS) {Bd : Nat} (hi : IV Bd P) (hB : Bd < 1073741824) (hb : rgB w 48 = false) : CM l yX8_why wsX8_why ({ frames := 6, cells := 0, slots := 0, locals := 140 } : Room) D z [.ref (a 0), .int w, .int x, .int y] (wX D a P J) (fun r9_ w9_ => r9_ = some (.int (-1)) ∧ ∃ J', w9_ = wX D a P J') 0 0 := by
  have hi0 := hi
  obtain ⟨⟨hnc, hcc, hps, hpc, hla, hsm⟩, ho, hh, hsl, hsn, htl, htx⟩ := hi
  have hok := hi0.1
  exact (kX8_why_b1 l D z (a 0) (a 1) (a 15) (a 18) (a 21) (a 25) (a 69) (p_hs P) (a 31) (a 6) w x y (by first | assumption | omega)).mask [true, false, false, false, false, false, false, false, false, false, false, false, false, false, false, false, false, false, false, false, false, false, false, false, false, false, false, false, false, false, false, false, false, false, false, false, false, false, false, false, false, false, false, false, false, false, false, false, false, false, false, false, false, false, false, false, false, false, false, false, false, false, false, false, false, false, false, false, false, false, false, false, false, false, false, false, false, false] [0] rfl rfl (fun r w1 hp => by
    obtain ⟨rfl, rfl⟩ := hp
    exact ⟨[0], rfl, rfl, rfl, J, rfl⟩)
set_option maxRecDepth 100000 in
set_option maxHeartbeats 4000000 in
theorem M_why_b1 (l : Launch) (D : va_G) (z : Nat × Nat × Nat) (b : Nat → Nat) (P : PS) (w : Int32) (x : Int32) (y : Int32) (Q : QS) {Bd : Nat} (hi : IV Bd P) (hB : Bd < 1073741824) (hq : RQ Q P) (hb : rgB w 48 = false) : CM l yX9_why wsX9_why ({ frames := 4, cells := 0, slots := 0, locals := 89 } : Room) D z [.ref (b 0), .int w, .int x, .int y] (wM D b P Q) (fun r9_ w9_ => r9_ = some (.int (-1)) ∧ ∃ Q', RQ Q' P ∧ w9_ = wM D b P Q') 0 0 := by
  have hi0 := hi
  obtain ⟨⟨hnc, hcc, hps, hpc, hla, hsm⟩, ho, hh, hsl, hsn, htl, htx⟩ := hi
  have hok := hi0.1
  have hM := hq.1
  exact (kX9_why_b1 l D z (b 0) (b 1) (b 2) (b 3) (b 4) (b 5) (b 6) (b 7) (b 8) (b 9) (b 10) (b 11) (p_hd P) (p_hs P) (p_tl P) (q_ta Q) (q_iw Q) w x y (by first | assumption | omega)).mask [true, false, false, false, false, false, false, false, false, false, false, false] [0] rfl rfl (fun r w1 hp => by
    obtain ⟨rfl, rfl⟩ := hp
    exact ⟨[0], rfl, rfl, rfl, Q, hq, rfl⟩)
set_option maxRecDepth 100000 in
set_option maxHeartbeats 4000000 in
theorem X_why_b2 (l : Launch) (D : va_G) (z : Nat × Nat × Nat) (a : Nat → Nat) (P : PS) (w : Nat) (x : Int32) (y : Int32) (J : JS) {Bd : Nat} (hi : IV Bd P) (hB : Bd < 1073741824) (hw : w < 48) (hb : (rgB x 4 && rgB y 12) = false) : CM l yX8_why wsX8_why ({ frames := 6, cells := 0, slots := 0, locals := 140 } : Room) D z [.ref (a 0), .int (nI w), .int x, .int y] (wX D a P J) (fun r9_ w9_ => r9_ = some (.int (-1)) ∧ ∃ J', w9_ = wX D a P J') 0 0 := by
  have hi0 := hi
  obtain ⟨⟨hnc, hcc, hps, hpc, hla, hsm⟩, ho, hh, hsl, hsn, htl, htx⟩ := hi
  have hok := hi0.1
  exact (kX8_why_b2 l D z (a 0) (a 1) (a 15) (a 18) (a 21) (a 25) (a 69) (p_hs P) (a 31) (a 6) w x y (by first | assumption | omega) (by first | assumption | omega)).mask [true, false, false, false, false, false, false, false, false, false, false, false, false, false, false, false, false, false, false, false, false, false, false, false, false, false, false, false, false, false, false, false, false, false, false, false, false, false, false, false, false, false, false, false, false, false, false, false, false, false, false, false, false, false, false, false, false, false, false, false, false, false, false, false, false, false, false, false, false, false, false, false, false, false, false, false, false, false] [0] rfl rfl (fun r w1 hp => by
    obtain ⟨rfl, rfl⟩ := hp
    exact ⟨[0], rfl, rfl, rfl, J, rfl⟩)
set_option maxRecDepth 100000 in
set_option maxHeartbeats 4000000 in
theorem M_why_b2 (l : Launch) (D : va_G) (z : Nat × Nat × Nat) (b : Nat → Nat) (P : PS) (w : Nat) (x : Int32) (y : Int32) (Q : QS) {Bd : Nat} (hi : IV Bd P) (hB : Bd < 1073741824) (hq : RQ Q P) (hw : w < 48) (hb : (rgB x 4 && rgB y 12) = false) : CM l yX9_why wsX9_why ({ frames := 4, cells := 0, slots := 0, locals := 89 } : Room) D z [.ref (b 0), .int (nI w), .int x, .int y] (wM D b P Q) (fun r9_ w9_ => r9_ = some (.int (-1)) ∧ ∃ Q', RQ Q' P ∧ w9_ = wM D b P Q') 0 0 := by
  have hi0 := hi
  obtain ⟨⟨hnc, hcc, hps, hpc, hla, hsm⟩, ho, hh, hsl, hsn, htl, htx⟩ := hi
  have hok := hi0.1
  have hM := hq.1
  exact (kX9_why_b2 l D z (b 0) (b 1) (b 2) (b 3) (b 4) (b 5) (b 6) (b 7) (b 8) (b 9) (b 10) (b 11) (p_hd P) (p_hs P) (p_tl P) (q_ta Q) (q_iw Q) w x y (by first | assumption | omega) (by first | assumption | omega)).mask [true, false, false, false, false, false, false, false, false, false, false, false] [0] rfl rfl (fun r w1 hp => by
    obtain ⟨rfl, rfl⟩ := hp
    exact ⟨[0], rfl, rfl, rfl, Q, hq, rfl⟩)
set_option maxRecDepth 100000 in
set_option maxHeartbeats 4000000 in
theorem X_why_ok (l : Launch) (D : va_G) (z : Nat × Nat × Nat) (a : Nat → Nat) (P : PS) (w : Nat) (x : Nat) (y : Nat) (J : JS) {Bd : Nat} (hi : IV Bd P) (hB : Bd < 1073741824) (hw : w < 48) (hx : x < 4) (hy : y < 12) : CM l yX8_why wsX8_why ({ frames := 6, cells := 0, slots := 0, locals := 140 } : Room) D z [.ref (a 0), .int (nI w), .int (nI x), .int (nI y)] (wX D a P J) (fun r9_ w9_ => r9_ = some (.int (nI (rsN (p_s P) w (bpN x y)))) ∧ ∃ J', w9_ = wX D a P J') 0 0 := by
  have hi0 := hi
  obtain ⟨⟨hnc, hcc, hps, hpc, hla, hsm⟩, ho, hh, hsl, hsn, htl, htx⟩ := hi
  have hok := hi0.1
  exact (kX8_why_ok l D z (a 0) (a 1) (a 15) (a 18) (a 21) (a 25) (a 69) (p_hs P) (a 31) (a 16) (a 17) (j_pn J) (a 2) (a 3) (a 4) (a 5) (a 6) (a 7) (a 8) (a 9) (a 10) (a 11) (p_s P) w x y (by first | assumption | omega) (by first | assumption | omega) (by first | assumption | omega) (by first | assumption | omega) (by first | assumption | omega)).mask [true, true, true, true, true, true, true, false, true, true, true, false, false, false, false, true, false, false, false, false, false, false, false, false, false, false, false, false, false, false, false, false, false, false, false, false, false, false, false, false, false, false, false, false, false, false, false, false, false, false, false, false, false, false, false, false, false, false, false, false, false, false, false, false, false, false, false, false, false, false, false, false, false, false, false, false, false, false] [0, 10, 1, 2, 3, 4, 5, 6, 7, 8, 9] rfl rfl (fun r w1 hp => by
    obtain ⟨rfl, rfl⟩ := hp
    exact ⟨[0, 2, 3, 4, 5, 6, 7, 8, 9, 10, 1], rfl, rfl, rfl, J, rfl⟩)
set_option maxRecDepth 100000 in
set_option maxHeartbeats 4000000 in
theorem M_why_ok (l : Launch) (D : va_G) (z : Nat × Nat × Nat) (b : Nat → Nat) (P : PS) (w : Nat) (x : Nat) (y : Nat) (Q : QS) {Bd : Nat} (hi : IV Bd P) (hB : Bd < 1073741824) (hq : RQ Q P) (hw : w < 48) (hx : x < 4) (hy : y < 12) : CM l yX9_why wsX9_why ({ frames := 4, cells := 0, slots := 0, locals := 89 } : Room) D z [.ref (b 0), .int (nI w), .int (nI x), .int (nI y)] (wM D b P Q) (fun r9_ w9_ => r9_ = some (.int (nI (rsN (p_s P) w (bpN x y)))) ∧ ∃ Q', RQ Q' P ∧ w9_ = wM D b P Q') 0 0 := by
  have hi0 := hi
  obtain ⟨⟨hnc, hcc, hps, hpc, hla, hsm⟩, ho, hh, hsl, hsn, htl, htx⟩ := hi
  have hok := hi0.1
  have hM := hq.1
  exact (kX9_why_ok l D z (b 0) (b 1) (b 2) (b 3) (b 4) (b 5) (b 6) (b 7) (b 8) (b 9) (b 10) (b 11) (p_hd P) (p_hs P) (p_tl P) (q_ta Q) (q_iw Q) (q_M Q) (p_s P) w x y (by first | assumption | omega) (by first | assumption | omega) (by first | assumption | omega) (by first | assumption | omega) (by first | assumption | omega) (by first | assumption | omega)).mask [true, false, false, false, true, true, false, false, false, false, false, false] [0, 1, 2] rfl rfl (fun r w1 hp => by
    obtain ⟨rfl, rfl⟩ := hp
    exact ⟨[0, 1, 2], rfl, rfl, rfl, Q, hq, rfl⟩)