set_option maxRecDepth 100000 in
set_option maxHeartbeats 4000000 in
theorem X_unclamp_ok (l : Launch) (D : va_G) (z : Nat × Nat × Nat) (a : Nat → Nat) (P : PS) (d : Nat) (J : JS) {Bd : Nat} (hi : IV Bd P) (hB : Bd < 1073741824) (hdl : d < sv_nc (p_s P)) : CM l yX8_unclamp wsX8_unclamp ({ frames := 5, cells := 0, slots := 0, locals := 109 } : Room) D z [.ref (a 0), .int (nI d)] (wX D a P J) (fun r9_ w9_ => r9_ = some (.int (nI (sv_nc (p_s P) - 1))) ∧ ∃ J', w9_ = wX D a (recP P (mkS (sv_g (p_s P)) (drf (sv_cc (p_s P)) d (sv_nc (p_s P) - 1 - d)) (drf (sv_cr (p_s P)) d (sv_nc (p_s P) - 1 - d)) (sv_nc (p_s P) - 1) (sv_se (p_s P)) (sv_fs (p_s P)) (sv_fa (p_s P)) (sv_fk (p_s P)) (sv_ps (p_s P)) (sv_la (p_s P)) (sv_st (p_s P)) (sv_sw (p_s P)) (sv_fl (p_s P)) (sv_sk (p_s P)) (sv_mu (p_s P)))) J') 0 0 := by
  have hi0 := hi
  obtain ⟨⟨hnc, hcc, hps, hpc, hla, hsm⟩, ho, hh, hsl, hsn, htl, htx⟩ := hi
  have hok := hi0.1
  rcases (show rkN (p_o P) (p_hd P) = 0 ∨ rkN (p_o P) (p_hd P) = 1 ∨ rkN (p_o P) (p_hd P) = 2 ∨ rkN (p_o P) (p_hd P) = 3 by have := rkN_lt ho hh; omega) with hk | hk | hk | hk
  ·
    rw [recK_e hk]
    exact (kX8_unclamp_ok l D z (a 0) (a 1) (a 15) (a 18) (a 21) (a 25) (a 69) (p_hs P) (a 31) (a 32) (a 33) (a 42) (a 51) (a 60) (a 33) (a 34) (a 35) (a 36) (a 37) (a 38) (a 39) (a 40) (a 41) (a 6) (a 7) (a 8) (a 9) (a 10) (a 11) (a 12) (a 13) (a 14) (p_o P) (p_hd P) (p_sl P 0) (p_s P) d (by first | assumption | omega) (by first | assumption | omega) (by first | assumption | omega) (by first | assumption | omega) (by rw [hk]; rfl) (by first | assumption | omega)).mask [true, false, false, false, false, false, true, true, true, true, true, true, true, true, true, false, false, false, false, false, false, false, false, false, false, false, false, false, false, false, false, true, true, true, true, true, true, true, true, true, true, true, false, false, false, false, false, false, false, false, false, false, false, false, false, false, false, false, false, false, false, false, false, false, false, false, false, false, false, false, false, false, false, false, false, false, false, false] [0, 10, 11, 12, 13, 14, 15, 16, 17, 18, 19, 20, 1, 2, 3, 4, 5, 6, 7, 8, 9] rfl rfl (fun r w1 hp => by
      obtain ⟨rfl, rfl⟩ := hp
      exact ⟨[0, 12, 13, 14, 15, 16, 17, 18, 19, 20, 1, 2, 3, 4, 5, 6, 7, 8, 9, 10, 11], rfl, rfl, rfl, J, rfl⟩)
  ·
    rw [recK_e hk]
    exact (kX8_unclamp_ok l D z (a 0) (a 1) (a 15) (a 18) (a 21) (a 25) (a 69) (p_hs P) (a 31) (a 32) (a 33) (a 42) (a 51) (a 60) (a 42) (a 43) (a 44) (a 45) (a 46) (a 47) (a 48) (a 49) (a 50) (a 6) (a 7) (a 8) (a 9) (a 10) (a 11) (a 12) (a 13) (a 14) (p_o P) (p_hd P) (p_sl P 1) (p_s P) d (by first | assumption | omega) (by first | assumption | omega) (by first | assumption | omega) (by first | assumption | omega) (by rw [hk]; rfl) (by first | assumption | omega)).mask [true, false, false, false, false, false, true, true, true, true, true, true, true, true, true, false, false, false, false, false, false, false, false, false, false, false, false, false, false, false, false, true, true, false, false, false, false, false, false, false, false, false, true, true, true, true, true, true, true, true, true, false, false, false, false, false, false, false, false, false, false, false, false, false, false, false, false, false, false, false, false, false, false, false, false, false, false, false] [0, 10, 11, 12, 13, 14, 15, 16, 17, 18, 19, 20, 1, 2, 3, 4, 5, 6, 7, 8, 9] rfl rfl (fun r w1 hp => by
      obtain ⟨rfl, rfl⟩ := hp
      exact ⟨[0, 12, 13, 14, 15, 16, 17, 18, 19, 20, 1, 2, 3, 4, 5, 6, 7, 8, 9, 10, 11], rfl, rfl, rfl, J, rfl⟩)
  ·
    rw [recK_e hk]
    exact (kX8_unclamp_ok l D z (a 0) (a 1) (a 15) (a 18) (a 21) (a 25) (a 69) (p_hs P) (a 31) (a 32) (a 33) (a 42) (a 51) (a 60) (a 51) (a 52) (a 53) (a 54) (a 55) (a 56) (a 57) (a 58) (a 59) (a 6) (a 7) (a 8) (a 9) (a 10) (a 11) (a 12) (a 13) (a 14) (p_o P) (p_hd P) (p_sl P 2) (p_s P) d (by first | assumption | omega) (by first | assumption | omega) (by first | assumption | omega) (by first | assumption | omega) (by rw [hk]; rfl) (by first | assumption | omega)).mask [true, false, false, false, false, false, true, true, true, true, true, true, true, true, true, false, false, false, false, false, false, false, false, false, false, false, false, false, false, false, false, true, true, false, false, false, false, false, false, false, false, false, false, false, false, false, false, false, false, false, false, true, true, true, true, true, true, true, true, true, false, false, false, false, false, false, false, false, false, false, false, false, false, false, false, false, false, false] [0, 10, 11, 12, 13, 14, 15, 16, 17, 18, 19, 20, 1, 2, 3, 4, 5, 6, 7, 8, 9] rfl rfl (fun r w1 hp => by
      obtain ⟨rfl, rfl⟩ := hp
      exact ⟨[0, 12, 13, 14, 15, 16, 17, 18, 19, 20, 1, 2, 3, 4, 5, 6, 7, 8, 9, 10, 11], rfl, rfl, rfl, J, rfl⟩)
  ·
    rw [recK_e hk]
    exact (kX8_unclamp_ok l D z (a 0) (a 1) (a 15) (a 18) (a 21) (a 25) (a 69) (p_hs P) (a 31) (a 32) (a 33) (a 42) (a 51) (a 60) (a 60) (a 61) (a 62) (a 63) (a 64) (a 65) (a 66) (a 67) (a 68) (a 6) (a 7) (a 8) (a 9) (a 10) (a 11) (a 12) (a 13) (a 14) (p_o P) (p_hd P) (p_sl P 3) (p_s P) d (by first | assumption | omega) (by first | assumption | omega) (by first | assumption | omega) (by first | assumption | omega) (by rw [hk]; rfl) (by first | assumption | omega)).mask [true, false, false, false, false, false, true, true, true, true, true, true, true, true, true, false, false, false, false, false, false, false, false, false, false, false, false, false, false, false, false, true, true, false, false, false, false, false, false, false, false, false, false, false, false, false, false, false, false, false, false, false, false, false, false, false, false, false, false, false, true, true, true, true, true, true, true, true, true, false, false, false, false, false, false, false, false, false] [0, 10, 11, 12, 13, 14, 15, 16, 17, 18, 19, 20, 1, 2, 3, 4, 5, 6, 7, 8, 9] rfl rfl (fun r w1 hp => by
      obtain ⟨rfl, rfl⟩ := hp
      exact ⟨[0, 12, 13, 14, 15, 16, 17, 18, 19, 20, 1, 2, 3, 4, 5, 6, 7, 8, 9, 10, 11], rfl, rfl, rfl, J, rfl⟩)
set_option maxRecDepth 100000 in
set_option maxHeartbeats 4000000 in
theorem X_set_b1 (l : Launch) (D : va_G) (z : Nat × Nat × Nat) (a : Nat → Nat) (P : PS) (w : Int32) (x : Int32) (J : JS) {Bd : Nat} (hi : IV Bd P) (hB : Bd < 1073741824) (hb : w < 0 ∨ nI 4 ≤ w) : CM l yX8_set wsX8_set ({ frames := 5, cells := 0, slots := 0, locals := 109 } : Room) D z [.ref (a 0), .int w, .int x] (wX D a P J) (fun r9_ w9_ => r9_ = some (.int (-2)) ∧ ∃ J', w9_ = wX D a P J') 0 0 := by
  have hi0 := hi
  obtain ⟨⟨hnc, hcc, hps, hpc, hla, hsm⟩, ho, hh, hsl, hsn, htl, htx⟩ := hi
  have hok := hi0.1
  exact (kX8_set_b1 l D z (a 0) (a 1) (a 15) (a 18) (a 21) (a 25) (a 69) (p_hs P) (a 31) (a 6) w x (by first | assumption | omega)).mask [true, false, false, false, false, false, false, false, false, false, false, false, false, false, false, false, false, false, false, false, false, false, false, false, false, false, false, false, false, false, false, false, false, false, false, false, false, false, false, false, false, false, false, false, false, false, false, false, false, false, false, false, false, false, false, false, false, false, false, false, false, false, false, false, false, false, false, false, false, false, false, false, false, false, false, false, false, false] [0] rfl rfl (fun r w1 hp => by
    obtain ⟨rfl, rfl⟩ := hp
    exact ⟨[0], rfl, rfl, rfl, J, rfl⟩)
set_option maxRecDepth 100000 in
set_option maxHeartbeats 4000000 in
theorem X_set_b2 (l : Launch) (D : va_G) (z : Nat × Nat × Nat) (a : Nat → Nat) (P : PS) (w : Nat) (x : Int32) (J : JS) {Bd : Nat} (hi : IV Bd P) (hB : Bd < 1073741824) (hw : w < 4) (hb : x < zL w ∨ zM w < x) : CM l yX8_set wsX8_set ({ frames := 5, cells := 0, slots := 0, locals := 109 } : Room) D z [.ref (a 0), .int (nI w), .int x] (wX D a P J) (fun r9_ w9_ => r9_ = some (.int (-2)) ∧ ∃ J', w9_ = wX D a P J') 0 0 := by
  have hi0 := hi
  obtain ⟨⟨hnc, hcc, hps, hpc, hla, hsm⟩, ho, hh, hsl, hsn, htl, htx⟩ := hi
  have hok := hi0.1
  exact (kX8_set_b2 l D z (a 0) (a 1) (a 15) (a 18) (a 21) (a 25) (a 69) (p_hs P) (a 31) (a 6) w x (by first | assumption | omega) (by first | assumption | omega)).mask [true, false, false, false, false, false, false, false, false, false, false, false, false, false, false, false, false, false, false, false, false, false, false, false, false, false, false, false, false, false, false, false, false, false, false, false, false, false, false, false, false, false, false, false, false, false, false, false, false, false, false, false, false, false, false, false, false, false, false, false, false, false, false, false, false, false, false, false, false, false, false, false, false, false, false, false, false, false] [0] rfl rfl (fun r w1 hp => by
    obtain ⟨rfl, rfl⟩ := hp
    exact ⟨[0], rfl, rfl, rfl, J, rfl⟩)
