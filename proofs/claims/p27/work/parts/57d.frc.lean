set_option maxRecDepth 100000 in
set_option maxHeartbeats 4000000 in
theorem X_swing_ok (l : Launch) (D : va_G) (z : Nat × Nat × Nat) (a : Nat → Nat) (P : PS) (w : Nat) (x : Nat) (y : Nat) (J : JS) {Bd : Nat} (hi : IV Bd P) (hB : Bd < 1073741824) (hw : w < 48) (hx : x < 12) (hy : y < 12) : CM l yX8_swing wsX8_swing ({ frames := 2, cells := 0, slots := 0, locals := 48 } : Room) D z [.ref (a 0), .int (nI w), .int (nI x), .int (nI y)] (wX D a P J) (fun r9_ w9_ => r9_ = some (.int (SW w (12 * y + x))) ∧ ∃ J', w9_ = wX D a P J') 0 0 := by
  have hi0 := hi
  obtain ⟨⟨hnc, hcc, hps, hpc, hla, hsm⟩, ho, hh, hsl, hsn, htl, htx⟩ := hi
  have hok := hi0.1
  exact (kX8_swing_ok l D z (a 0) (a 1) (a 15) (a 18) (a 21) (a 25) (a 69) (p_hs P) (a 31) (a 6) (a 2) (a 3) (a 4) (a 5) w x y (by first | assumption | omega) (by first | assumption | omega) (by first | assumption | omega)).mask [true, true, true, true, true, true, false, false, false, false, false, false, false, false, false, false, false, false, false, false, false, false, false, false, false, false, false, false, false, false, false, false, false, false, false, false, false, false, false, false, false, false, false, false, false, false, false, false, false, false, false, false, false, false, false, false, false, false, false, false, false, false, false, false, false, false, false, false, false, false, false, false, false, false, false, false, false, false] [0, 1, 2, 3, 4, 5] rfl rfl (fun r w1 hp => by
    obtain ⟨rfl, rfl⟩ := hp
    exact ⟨[0, 1, 2, 3, 4, 5], rfl, rfl, rfl, J, rfl⟩)
set_option maxRecDepth 100000 in
set_option maxHeartbeats 4000000 in
theorem X_sounds_b1 (l : Launch) (D : va_G) (z : Nat × Nat × Nat) (a : Nat → Nat) (P : PS) (x : Int32) (y : Int32) (J : JS) {Bd : Nat} (hi : IV Bd P) (hB : Bd < 1073741824) (hb : (rgB x 4 && rgB y 12) = false) : CM l yX8_sounds wsX8_sounds ({ frames := 5, cells := 0, slots := 0, locals := 117 } : Room) D z [.ref (a 0), .int x, .int y] (wX D a P J) (fun r9_ w9_ => r9_ = some (.int (-1)) ∧ ∃ J', w9_ = wX D a P J') 0 0 := by
  have hi0 := hi
  obtain ⟨⟨hnc, hcc, hps, hpc, hla, hsm⟩, ho, hh, hsl, hsn, htl, htx⟩ := hi
  have hok := hi0.1
  exact (kX8_sounds_b1 l D z (a 0) (a 1) (a 15) (a 18) (a 21) (a 25) (a 69) (p_hs P) (a 31) (a 6) x y (by first | assumption | omega)).mask [true, false, false, false, false, false, false, false, false, false, false, false, false, false, false, false, false, false, false, false, false, false, false, false, false, false, false, false, false, false, false, false, false, false, false, false, false, false, false, false, false, false, false, false, false, false, false, false, false, false, false, false, false, false, false, false, false, false, false, false, false, false, false, false, false, false, false, false, false, false, false, false, false, false, false, false, false, false] [0] rfl rfl (fun r w1 hp => by
    obtain ⟨rfl, rfl⟩ := hp
    exact ⟨[0], rfl, rfl, rfl, J, rfl⟩)
set_option maxRecDepth 100000 in
set_option maxHeartbeats 4000000 in
theorem X_sounds_ok (l : Launch) (D : va_G) (z : Nat × Nat × Nat) (a : Nat → Nat) (P : PS) (x : Nat) (y : Nat) (J : JS) {Bd : Nat} (hi : IV Bd P) (hB : Bd < 1073741824) (hx : x < 4) (hy : y < 12) : CM l yX8_sounds wsX8_sounds ({ frames := 5, cells := 0, slots := 0, locals := 117 } : Room) D z [.ref (a 0), .int (nI x), .int (nI y)] (wX D a P J) (fun r9_ w9_ => r9_ = some (.int (laM (orM (wyO (p_s P) (bpN x y))))) ∧ ∃ J', w9_ = wX D a P J') 0 0 := by
  have hi0 := hi
  obtain ⟨⟨hnc, hcc, hps, hpc, hla, hsm⟩, ho, hh, hsl, hsn, htl, htx⟩ := hi
  have hok := hi0.1
  exact (kX8_sounds_ok l D z (a 0) (a 1) (a 15) (a 18) (a 21) (a 25) (a 69) (p_hs P) (a 31) (a 16) (a 17) (j_pn J) (a 2) (a 3) (a 4) (a 5) (a 6) (a 7) (a 8) (a 9) (a 10) (a 11) (p_s P) x y (by first | assumption | omega) (by first | assumption | omega) (by first | assumption | omega) (by first | assumption | omega)).mask [true, true, true, true, true, true, true, false, true, true, true, false, false, false, false, true, false, false, false, false, false, false, false, false, false, false, false, false, false, false, false, false, false, false, false, false, false, false, false, false, false, false, false, false, false, false, false, false, false, false, false, false, false, false, false, false, false, false, false, false, false, false, false, false, false, false, false, false, false, false, false, false, false, false, false, false, false, false] [0, 10, 1, 2, 3, 4, 5, 6, 7, 8, 9] rfl rfl (fun r w1 hp => by
    obtain ⟨rfl, rfl⟩ := hp
    exact ⟨[0, 2, 3, 4, 5, 6, 7, 8, 9, 10, 1], rfl, rfl, rfl, J, rfl⟩)
set_option maxRecDepth 100000 in
set_option maxHeartbeats 4000000 in
theorem X_why_b1 (l : Launch) (D : va_G) (z : Nat × Nat × Nat) (a : Nat → Nat) (P : PS) (w : Int32) (x : Int32) (y : Int32) (J : JS) {Bd : Nat} (hi : IV Bd P) (hB : Bd < 1073741824) (hb : rgB w 48 = false) : CM l yX8_why wsX8_why ({ frames := 6, cells := 0, slots := 0, locals := 140 } : Room) D z [.ref (a 0), .int w, .int x, .int y] (wX D a P J) (fun r9_ w9_ => r9_ = some (.int (-1)) ∧ ∃ J', w9_ = wX D a P J') 0 0 := by
  have hi0 := hi
  obtain ⟨⟨hnc, hcc, hps, hpc, hla, hsm⟩, ho, hh, hsl, hsn, htl, htx⟩ := hi
  have hok := hi0.1
  exact (kX8_why_b1 l D z (a 0) (a 1) (a 15) (a 18) (a 21) (a 25) (a 69) (p_hs P) (a 31) (a 6) w x y (by first | assumption | omega)).mask [true, false, false, false, false, false, false, false, false, false, false, false, false, false, false, false, false, false, false, false, false, false, false, false, false, false, false, false, false, false, false, false, false, false, false, false, false, false, false, false, false, false, false, false, false, false, false, false, false, false, false, false, false, false, false, false, false, false, false, false, false, false, false, false, false, false, false, false, false, false, false, false, false, false, false, false, false, false] [0] rfl rfl (fun r w1 hp => by
    obtain ⟨rfl, rfl⟩ := hp
    exact ⟨[0], rfl, rfl, rfl, J, rfl⟩)
set_option maxRecDepth 100000 in
set_option maxHeartbeats 4000000 in
theorem X_why_b2 (l : Launch) (D : va_G) (z : Nat × Nat × Nat) (a : Nat → Nat) (P : PS) (w : Nat) (x : Int32) (y : Int32) (J : JS) {Bd : Nat} (hi : IV Bd P) (hB : Bd < 1073741824) (hw : w < 48) (hb : (rgB x 4 && rgB y 12) = false) : CM l yX8_why wsX8_why ({ frames := 6, cells := 0, slots := 0, locals := 140 } : Room) D z [.ref (a 0), .int (nI w), .int x, .int y] (wX D a P J) (fun r9_ w9_ => r9_ = some (.int (-1)) ∧ ∃ J', w9_ = wX D a P J') 0 0 := by
  have hi0 := hi
  obtain ⟨⟨hnc, hcc, hps, hpc, hla, hsm⟩, ho, hh, hsl, hsn, htl, htx⟩ := hi
  have hok := hi0.1
  exact (kX8_why_b2 l D z (a 0) (a 1) (a 15) (a 18) (a 21) (a 25) (a 69) (p_hs P) (a 31) (a 6) w x y (by first | assumption | omega) (by first | assumption | omega)).mask [true, false, false, false, false, false, false, false, false, false, false, false, false, false, false, false, false, false, false, false, false, false, false, false, false, false, false, false, false, false, false, false, false, false, false, false, false, false, false, false, false, false, false, false, false, false, false, false, false, false, false, false, false, false, false, false, false, false, false, false, false, false, false, false, false, false, false, false, false, false, false, false, false, false, false, false, false, false] [0] rfl rfl (fun r w1 hp => by
    obtain ⟨rfl, rfl⟩ := hp
    exact ⟨[0], rfl, rfl, rfl, J, rfl⟩)
set_option maxRecDepth 100000 in
set_option maxHeartbeats 4000000 in
theorem X_why_ok (l : Launch) (D : va_G) (z : Nat × Nat × Nat) (a : Nat → Nat) (P : PS) (w : Nat) (x : Nat) (y : Nat) (J : JS) {Bd : Nat} (hi : IV Bd P) (hB : Bd < 1073741824) (hw : w < 48) (hx : x < 4) (hy : y < 12) : CM l yX8_why wsX8_why ({ frames := 6, cells := 0, slots := 0, locals := 140 } : Room) D z [.ref (a 0), .int (nI w), .int (nI x), .int (nI y)] (wX D a P J) (fun r9_ w9_ => r9_ = some (.int (nI (rsN (p_s P) w (bpN x y)))) ∧ ∃ J', w9_ = wX D a P J') 0 0 := by
  have hi0 := hi
  obtain ⟨⟨hnc, hcc, hps, hpc, hla, hsm⟩, ho, hh, hsl, hsn, htl, htx⟩ := hi
  have hok := hi0.1
  exact (kX8_why_ok l D z (a 0) (a 1) (a 15) (a 18) (a 21) (a 25) (a 69) (p_hs P) (a 31) (a 16) (a 17) (j_pn J) (a 2) (a 3) (a 4) (a 5) (a 6) (a 7) (a 8) (a 9) (a 10) (a 11) (p_s P) w x y (by first | assumption | omega) (by first | assumption | omega) (by first | assumption | omega) (by first | assumption | omega) (by first | assumption | omega)).mask [true, true, true, true, true, true, true, false, true, true, true, false, false, false, false, true, false, false, false, false, false, false, false, false, false, false, false, false, false, false, false, false, false, false, false, false, false, false, false, false, false, false, false, false, false, false, false, false, false, false, false, false, false, false, false, false, false, false, false, false, false, false, false, false, false, false, false, false, false, false, false, false, false, false, false, false, false, false] [0, 10, 1, 2, 3, 4, 5, 6, 7, 8, 9] rfl rfl (fun r w1 hp => by
    obtain ⟨rfl, rfl⟩ := hp
    exact ⟨[0, 2, 3, 4, 5, 6, 7, 8, 9, 10, 1], rfl, rfl, rfl, J, rfl⟩)
