set_option maxRecDepth 100000 in
set_option maxHeartbeats 4000000 in
theorem X_count_6 (l : Launch) (D : va_G) (z : Nat × Nat × Nat) (a : Nat → Nat) (P : PS)  (J : JS) {Bd : Nat} (hi : IV Bd P) (hB : Bd < 1073741824)  : CM l yX8_count wsX8_count ({ frames := 6, cells := 0, slots := 0, locals := 138 } : Room) D z [.ref (a 0), .int (nI 6)] (wX D a P J) (fun r9_ w9_ => r9_ = some (.int (sv_sk (p_s P))) ∧ ∃ J', w9_ = wX D a P J') 0 0 := by
  have hi0 := hi
  obtain ⟨⟨hnc, hcc, hps, hpc, hla, hsm⟩, ho, hh, hsl, hsn, htl, htx⟩ := hi
  have hok := hi0.1
  exact (kX8_count_6 l D z (a 0) (a 1) (a 15) (a 18) (a 21) (a 25) (a 69) (p_hs P) (a 31) (a 6) (a 7) (a 8) (a 9) (a 10) (a 11) (p_s P) ).mask [true, false, false, false, false, false, true, false, false, false, false, false, false, false, false, false, false, false, false, false, false, false, false, false, false, false, false, false, false, false, false, false, false, false, false, false, false, false, false, false, false, false, false, false, false, false, false, false, false, false, false, false, false, false, false, false, false, false, false, false, false, false, false, false, false, false, false, false, false, false, false, false, false, false, false, false, false, false] [0, 1] rfl rfl (fun r w1 hp => by
    obtain ⟨rfl, rfl⟩ := hp
    exact ⟨[0, 1], rfl, rfl, rfl, J, rfl⟩)
set_option maxRecDepth 100000 in
set_option maxHeartbeats 4000000 in
theorem X_count_7 (l : Launch) (D : va_G) (z : Nat × Nat × Nat) (a : Nat → Nat) (P : PS)  (J : JS) {Bd : Nat} (hi : IV Bd P) (hB : Bd < 1073741824)  : CM l yX8_count wsX8_count ({ frames := 6, cells := 0, slots := 0, locals := 138 } : Room) D z [.ref (a 0), .int (nI 7)] (wX D a P J) (fun r9_ w9_ => r9_ = some (.int (sv_mu (p_s P))) ∧ ∃ J', w9_ = wX D a P J') 0 0 := by
  have hi0 := hi
  obtain ⟨⟨hnc, hcc, hps, hpc, hla, hsm⟩, ho, hh, hsl, hsn, htl, htx⟩ := hi
  have hok := hi0.1
  exact (kX8_count_7 l D z (a 0) (a 1) (a 15) (a 18) (a 21) (a 25) (a 69) (p_hs P) (a 31) (a 6) (a 7) (a 8) (a 9) (a 10) (a 11) (p_s P) ).mask [true, false, false, false, false, false, true, false, false, false, false, false, false, false, false, false, false, false, false, false, false, false, false, false, false, false, false, false, false, false, false, false, false, false, false, false, false, false, false, false, false, false, false, false, false, false, false, false, false, false, false, false, false, false, false, false, false, false, false, false, false, false, false, false, false, false, false, false, false, false, false, false, false, false, false, false, false, false] [0, 1] rfl rfl (fun r w1 hp => by
    obtain ⟨rfl, rfl⟩ := hp
    exact ⟨[0, 1], rfl, rfl, rfl, J, rfl⟩)
set_option maxRecDepth 100000 in
set_option maxHeartbeats 4000000 in
theorem X_count_8 (l : Launch) (D : va_G) (z : Nat × Nat × Nat) (a : Nat → Nat) (P : PS)  (J : JS) {Bd : Nat} (hi : IV Bd P) (hB : Bd < 1073741824)  : CM l yX8_count wsX8_count ({ frames := 6, cells := 0, slots := 0, locals := 138 } : Room) D z [.ref (a 0), .int (nI 8)] (wX D a P J) (fun r9_ w9_ => r9_ = some (.int (laM (sv_la (p_s P)))) ∧ ∃ J', w9_ = wX D a P J') 0 0 := by
  have hi0 := hi
  obtain ⟨⟨hnc, hcc, hps, hpc, hla, hsm⟩, ho, hh, hsl, hsn, htl, htx⟩ := hi
  have hok := hi0.1
  exact (kX8_count_8 l D z (a 0) (a 1) (a 15) (a 18) (a 21) (a 25) (a 69) (p_hs P) (a 31) (a 6) (a 7) (a 8) (a 9) (a 10) (a 11) (p_s P) ).mask [true, false, false, false, false, false, true, false, false, false, false, false, false, false, false, false, false, false, false, false, false, false, false, false, false, false, false, false, false, false, false, false, false, false, false, false, false, false, false, false, false, false, false, false, false, false, false, false, false, false, false, false, false, false, false, false, false, false, false, false, false, false, false, false, false, false, false, false, false, false, false, false, false, false, false, false, false, false] [0, 1] rfl rfl (fun r w1 hp => by
    obtain ⟨rfl, rfl⟩ := hp
    exact ⟨[0, 1], rfl, rfl, rfl, J, rfl⟩)
set_option maxRecDepth 100000 in
set_option maxHeartbeats 4000000 in
theorem X_count_9 (l : Launch) (D : va_G) (z : Nat × Nat × Nat) (a : Nat → Nat) (P : PS)  (J : JS) {Bd : Nat} (hi : IV Bd P) (hB : Bd < 1073741824)  : CM l yX8_count wsX8_count ({ frames := 6, cells := 0, slots := 0, locals := 138 } : Room) D z [.ref (a 0), .int (nI 9)] (wX D a P J) (fun r9_ w9_ => r9_ = some (.int (nI (cntB (fpP (p_s P)) 48))) ∧ ∃ J', w9_ = wX D a P J') 0 0 := by
  have hi0 := hi
  obtain ⟨⟨hnc, hcc, hps, hpc, hla, hsm⟩, ho, hh, hsl, hsn, htl, htx⟩ := hi
  have hok := hi0.1
  exact (kX8_count_9 l D z (a 0) (a 1) (a 15) (a 18) (a 21) (a 25) (a 69) (p_hs P) (a 31) (a 16) (a 17) (j_pn J) (j_pf J) (j_tk J) (a 2) (a 3) (a 4) (a 5) (a 6) (a 7) (a 8) (a 9) (a 10) (a 11) (p_s P) (by first | assumption | omega) (by first | assumption | omega)).mask [true, true, true, true, true, true, true, false, true, true, true, false, false, false, false, true, true, true, false, false, false, false, false, false, false, false, false, false, false, false, false, false, false, false, false, false, false, false, false, false, false, false, false, false, false, false, false, false, false, false, false, false, false, false, false, false, false, false, false, false, false, false, false, false, false, false, false, false, false, false, false, false, false, false, false, false, false, false] [0, 10, 11, 12, 1, 2, 3, 4, 5, 6, 7, 8, 9] rfl rfl (fun r w1 hp => by
    obtain ⟨rfl, rfl⟩ := hp
    exact ⟨[0, 4, 5, 6, 7, 8, 9, 10, 11, 12, 1, 2, 3], rfl, rfl, rfl, (mkJ (fpF (p_s P) (j_pf J) 48) (cntB (fpP (p_s P)) 48) (fpK (p_s P) 48) (j_vt J) (j_sw J) (j_tg J) (j_ar J)), rfl⟩)
set_option maxRecDepth 100000 in
set_option maxHeartbeats 4000000 in
theorem X_count_10 (l : Launch) (D : va_G) (z : Nat × Nat × Nat) (a : Nat → Nat) (P : PS)  (J : JS) {Bd : Nat} (hi : IV Bd P) (hB : Bd < 1073741824)  : CM l yX8_count wsX8_count ({ frames := 6, cells := 0, slots := 0, locals := 138 } : Room) D z [.ref (a 0), .int (nI 10)] (wX D a P J) (fun r9_ w9_ => r9_ = some (.int (nI (mxN (sv_g (p_s P)) 144))) ∧ ∃ J', w9_ = wX D a P J') 0 0 := by
  have hi0 := hi
  obtain ⟨⟨hnc, hcc, hps, hpc, hla, hsm⟩, ho, hh, hsl, hsn, htl, htx⟩ := hi
  have hok := hi0.1
  exact (kX8_count_10 l D z (a 0) (a 1) (a 15) (a 18) (a 21) (a 25) (a 69) (p_hs P) (a 31) (a 6) (a 7) (a 8) (a 9) (a 10) (a 11) (p_s P) (fun j hj => Nat.lt_of_le_of_lt (Nat.le_trans (smN_ge hj) hsm) hB)).mask [true, false, false, false, false, false, true, true, false, false, false, false, false, false, false, false, false, false, false, false, false, false, false, false, false, false, false, false, false, false, false, false, false, false, false, false, false, false, false, false, false, false, false, false, false, false, false, false, false, false, false, false, false, false, false, false, false, false, false, false, false, false, false, false, false, false, false, false, false, false, false, false, false, false, false, false, false, false] [0, 1, 2] rfl rfl (fun r w1 hp => by
    obtain ⟨rfl, rfl⟩ := hp
    exact ⟨[0, 1, 2], rfl, rfl, rfl, J, rfl⟩)
set_option maxRecDepth 100000 in
set_option maxHeartbeats 4000000 in
theorem X_count_11 (l : Launch) (D : va_G) (z : Nat × Nat × Nat) (a : Nat → Nat) (P : PS)  (J : JS) {Bd : Nat} (hi : IV Bd P) (hB : Bd < 1073741824)  : CM l yX8_count wsX8_count ({ frames := 6, cells := 0, slots := 0, locals := 138 } : Room) D z [.ref (a 0), .int (nI 11)] (wX D a P J) (fun r9_ w9_ => r9_ = some (.int (sv_se (p_s P) 0)) ∧ ∃ J', w9_ = wX D a P J') 0 0 := by
  have hi0 := hi
  obtain ⟨⟨hnc, hcc, hps, hpc, hla, hsm⟩, ho, hh, hsl, hsn, htl, htx⟩ := hi
  have hok := hi0.1
  exact (kX8_count_11 l D z (a 0) (a 1) (a 15) (a 18) (a 21) (a 25) (a 69) (p_hs P) (a 31) (a 6) (a 7) (a 8) (a 9) (a 10) (a 11) (p_s P) ).mask [true, false, false, false, false, false, true, false, false, false, true, false, false, false, false, false, false, false, false, false, false, false, false, false, false, false, false, false, false, false, false, false, false, false, false, false, false, false, false, false, false, false, false, false, false, false, false, false, false, false, false, false, false, false, false, false, false, false, false, false, false, false, false, false, false, false, false, false, false, false, false, false, false, false, false, false, false, false] [0, 1, 2] rfl rfl (fun r w1 hp => by
    obtain ⟨rfl, rfl⟩ := hp
    exact ⟨[0, 1, 2], rfl, rfl, rfl, J, rfl⟩)
