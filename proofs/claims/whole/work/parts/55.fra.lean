set_option maxRecDepth 100000 in
set_option maxHeartbeats 4000000 in
theorem X_strew_b1 (l : Launch) (D : va_G) (z : Nat × Nat × Nat) (a : Nat → Nat) (P : PS) (x : Int32) (y : Int32) (k : Int32) (J : JS) {Bd : Nat} (hi : IV Bd P) (hB : Bd < 1073741824) (hb : (rgB x 12 && rgB y 12) = false) : CM l yX8_strew wsX8_strew ({ frames := 5, cells := 0, slots := 0, locals := 109 } : Room) D z [.ref (a 0), .int x, .int y, .int k] (wX D a P J) (fun r w => r = some (.int (-1)) ∧ ∃ J', w = wX D a P J') 0 0 := by
  have hi0 := hi
  obtain ⟨⟨hnc, hcc, hps, hpc, hla, hsm⟩, ho, hh, hsl, hsn, htl, htx⟩ := hi
  have hok := hi0.1
  exact (kX8_strew_b1 l D z (a 0) (a 1) (a 15) (a 18) (a 21) (a 25) (a 69) (p_hs P) (a 31) (a 6) x y k (by first | assumption | omega)).frameR [0] [1, 2, 3, 4, 5, 6, 7, 8, 9, 10, 11, 12, 13, 14, 15, 16, 17, 18, 19, 20, 21, 22, 23, 24, 25, 26, 27, 28, 29, 30, 31, 32, 33, 34, 35, 36, 37, 38, 39, 40, 41, 42, 43, 44, 45, 46, 47, 48, 49, 50, 51, 52, 53, 54, 55, 56, 57, 58, 59, 60, 61, 62, 63, 64, 65, 66, 67, 68, 69, 70, 71, 72, 73, 74, 75, 76, 77] rfl rfl rfl rfl rfl (fun r w1 hp => by
    obtain ⟨rfl, rfl⟩ := hp
    exact ⟨_, [77, 0, 1, 2, 3, 4, 5, 6, 7, 8, 9, 10, 11, 12, 13, 14, 15, 16, 17, 18, 19, 20, 21, 22, 23, 24, 25, 26, 27, 28, 29, 30, 31, 32, 33, 34, 35, 36, 37, 38, 39, 40, 41, 42, 43, 44, 45, 46, 47, 48, 49, 50, 51, 52, 53, 54, 55, 56, 57, 58, 59, 60, 61, 62, 63, 64, 65, 66, 67, 68, 69, 70, 71, 72, 73, 74, 75, 76], rfl, rfl, rfl, J, rfl⟩)
set_option maxRecDepth 100000 in
set_option maxHeartbeats 4000000 in
theorem M_strew_b1 (l : Launch) (D : va_G) (z : Nat × Nat × Nat) (b : Nat → Nat) (P : PS) (x : Int32) (y : Int32) (k : Int32) (Q : QS) {Bd : Nat} (hi : IV Bd P) (hB : Bd < 1073741824) (hq : RQ Q P) (hb : (rgB x 12 && rgB y 12) = false) : CM l yX9_strew wsX9_strew ({ frames := 2, cells := 0, slots := 0, locals := 43 } : Room) D z [.ref (b 0), .int x, .int y, .int k] (wM D b P Q) (fun r w => r = some (.int (-1)) ∧ ∃ Q', RQ Q' P ∧ w = wM D b P Q') 0 0 := by
  have hi0 := hi
  obtain ⟨⟨hnc, hcc, hps, hpc, hla, hsm⟩, ho, hh, hsl, hsn, htl, htx⟩ := hi
  have hok := hi0.1
  have hM := hq.1
  exact (kX9_strew_b1 l D z (b 0) (b 1) (b 2) (b 3) (b 4) (b 5) (b 6) (b 7) (b 8) (b 9) (b 10) (b 11) (p_hd P) (p_hs P) (p_tl P) (q_ta Q) (q_iw Q) x y k (by first | assumption | omega)).frameR [0] [1, 2, 3, 4, 5, 6, 7, 8, 9, 10, 11] rfl rfl rfl rfl rfl (fun r w1 hp => by
    obtain ⟨rfl, rfl⟩ := hp
    exact ⟨_, [11, 0, 1, 2, 3, 4, 5, 6, 7, 8, 9, 10], rfl, rfl, rfl, Q, hq, rfl⟩)
set_option maxRecDepth 100000 in
set_option maxHeartbeats 4000000 in
theorem X_strew_b2 (l : Launch) (D : va_G) (z : Nat × Nat × Nat) (a : Nat → Nat) (P : PS) (x : Nat) (y : Nat) (k : Int32) (J : JS) {Bd : Nat} (hi : IV Bd P) (hB : Bd < 1073741824) (hx : x < 12) (hy : y < 12) (hb : k < nI 1 ∨ nI 99 < k) : CM l yX8_strew wsX8_strew ({ frames := 5, cells := 0, slots := 0, locals := 109 } : Room) D z [.ref (a 0), .int (nI x), .int (nI y), .int k] (wX D a P J) (fun r w => r = some (.int (-2)) ∧ ∃ J', w = wX D a P J') 0 0 := by
  have hi0 := hi
  obtain ⟨⟨hnc, hcc, hps, hpc, hla, hsm⟩, ho, hh, hsl, hsn, htl, htx⟩ := hi
  have hok := hi0.1
  exact (kX8_strew_b2 l D z (a 0) (a 1) (a 15) (a 18) (a 21) (a 25) (a 69) (p_hs P) (a 31) (a 6) x y k (by first | assumption | omega) (by first | assumption | omega) (by first | assumption | omega)).frameR [0] [1, 2, 3, 4, 5, 6, 7, 8, 9, 10, 11, 12, 13, 14, 15, 16, 17, 18, 19, 20, 21, 22, 23, 24, 25, 26, 27, 28, 29, 30, 31, 32, 33, 34, 35, 36, 37, 38, 39, 40, 41, 42, 43, 44, 45, 46, 47, 48, 49, 50, 51, 52, 53, 54, 55, 56, 57, 58, 59, 60, 61, 62, 63, 64, 65, 66, 67, 68, 69, 70, 71, 72, 73, 74, 75, 76, 77] rfl rfl rfl rfl rfl (fun r w1 hp => by
    obtain ⟨rfl, rfl⟩ := hp
    exact ⟨_, [77, 0, 1, 2, 3, 4, 5, 6, 7, 8, 9, 10, 11, 12, 13, 14, 15, 16, 17, 18, 19, 20, 21, 22, 23, 24, 25, 26, 27, 28, 29, 30, 31, 32, 33, 34, 35, 36, 37, 38, 39, 40, 41, 42, 43, 44, 45, 46, 47, 48, 49, 50, 51, 52, 53, 54, 55, 56, 57, 58, 59, 60, 61, 62, 63, 64, 65, 66, 67, 68, 69, 70, 71, 72, 73, 74, 75, 76], rfl, rfl, rfl, J, rfl⟩)
set_option maxRecDepth 100000 in
set_option maxHeartbeats 4000000 in
theorem M_strew_b2 (l : Launch) (D : va_G) (z : Nat × Nat × Nat) (b : Nat → Nat) (P : PS) (x : Nat) (y : Nat) (k : Int32) (Q : QS) {Bd : Nat} (hi : IV Bd P) (hB : Bd < 1073741824) (hq : RQ Q P) (hx : x < 12) (hy : y < 12) (hb : k < nI 1 ∨ nI 99 < k) : CM l yX9_strew wsX9_strew ({ frames := 2, cells := 0, slots := 0, locals := 43 } : Room) D z [.ref (b 0), .int (nI x), .int (nI y), .int k] (wM D b P Q) (fun r w => r = some (.int (-2)) ∧ ∃ Q', RQ Q' P ∧ w = wM D b P Q') 0 0 := by
  have hi0 := hi
  obtain ⟨⟨hnc, hcc, hps, hpc, hla, hsm⟩, ho, hh, hsl, hsn, htl, htx⟩ := hi
  have hok := hi0.1
  have hM := hq.1
  exact (kX9_strew_b2 l D z (b 0) (b 1) (b 2) (b 3) (b 4) (b 5) (b 6) (b 7) (b 8) (b 9) (b 10) (b 11) (p_hd P) (p_hs P) (p_tl P) (q_ta Q) (q_iw Q) x y k (by first | assumption | omega) (by first | assumption | omega) (by first | assumption | omega)).frameR [0] [1, 2, 3, 4, 5, 6, 7, 8, 9, 10, 11] rfl rfl rfl rfl rfl (fun r w1 hp => by
    obtain ⟨rfl, rfl⟩ := hp
    exact ⟨_, [11, 0, 1, 2, 3, 4, 5, 6, 7, 8, 9, 10], rfl, rfl, rfl, Q, hq, rfl⟩)
set_option maxRecDepth 100000 in
set_option maxHeartbeats 4000000 in
theorem X_strew_ok (l : Launch) (D : va_G) (z : Nat × Nat × Nat) (a : Nat → Nat) (P : PS) (x : Nat) (y : Nat) (k : Nat) (J : JS) {Bd : Nat} (hi : IV Bd P) (hB : Bd < 1073741824) (hx : x < 12) (hy : y < 12) (hk1 : 1 ≤ k) (hk2 : k ≤ 99) : CM l yX8_strew wsX8_strew ({ frames := 5, cells := 0, slots := 0, locals := 109 } : Room) D z [.ref (a 0), .int (nI x), .int (nI y), .int (nI k)] (wX D a P J) (fun r w => r = some (.int (nI ((sv_g (p_s P)) (y * 12 + x) + k))) ∧ ∃ J', w = wX D a (recP P (mkS (upf (sv_g (p_s P)) (y * 12 + x) ((sv_g (p_s P)) (y * 12 + x) + k)) (sv_cc (p_s P)) (sv_cr (p_s P)) (sv_nc (p_s P)) (sv_se (p_s P)) (sv_fs (p_s P)) (sv_fa (p_s P)) (sv_fk (p_s P)) (sv_ps (p_s P)) (sv_la (p_s P)) (sv_st (p_s P) + nI k) (sv_sw (p_s P)) (sv_fl (p_s P)) (sv_sk (p_s P)) (sv_mu (p_s P)))) J') 0 0 := by
  have hi0 := hi
  obtain ⟨⟨hnc, hcc, hps, hpc, hla, hsm⟩, ho, hh, hsl, hsn, htl, htx⟩ := hi
  have hok := hi0.1
  rcases (show rkN (p_o P) (p_hd P) = 0 ∨ rkN (p_o P) (p_hd P) = 1 ∨ rkN (p_o P) (p_hd P) = 2 ∨ rkN (p_o P) (p_hd P) = 3 by have := rkN_lt ho hh; omega) with hk | hk | hk | hk
  ·
    rw [recK_e hk]
    exact (kX8_strew_ok l D z (a 0) (a 1) (a 15) (a 18) (a 21) (a 25) (a 69) (p_hs P) (a 31) (a 32) (a 33) (a 42) (a 51) (a 60) (a 33) (a 34) (a 35) (a 36) (a 37) (a 38) (a 39) (a 40) (a 41) (a 6) (a 7) (a 8) (a 9) (a 10) (a 11) (a 12) (a 13) (a 14) (p_o P) (p_hd P) (p_sl P 0) (p_s P) x y k (by first | assumption | omega) (by first | assumption | omega) (by first | assumption | omega) (by first | assumption | omega) (by first | assumption | omega) (by first | assumption | omega) (by rw [hk]; rfl) (by first | assumption | omega)).frameR [0, 31, 32, 33, 34, 35, 36, 37, 38, 39, 40, 41, 6, 7, 8, 9, 10, 11, 12, 13, 14] [1, 2, 3, 4, 5, 15, 16, 17, 18, 19, 20, 21, 22, 23, 24, 25, 26, 27, 28, 29, 30, 42, 43, 44, 45, 46, 47, 48, 49, 50, 51, 52, 53, 54, 55, 56, 57, 58, 59, 60, 61, 62, 63, 64, 65, 66, 67, 68, 69, 70, 71, 72, 73, 74, 75, 76, 77] rfl rfl rfl rfl rfl (fun r w1 hp => by
      obtain ⟨rfl, rfl⟩ := hp
      exact ⟨_, [57, 0, 1, 2, 3, 4, 69, 70, 71, 72, 73, 74, 75, 76, 77, 5, 6, 7, 8, 9, 10, 11, 12, 13, 14, 15, 16, 17, 18, 19, 20, 58, 59, 60, 61, 62, 63, 64, 65, 66, 67, 68, 21, 22, 23, 24, 25, 26, 27, 28, 29, 30, 31, 32, 33, 34, 35, 36, 37, 38, 39, 40, 41, 42, 43, 44, 45, 46, 47, 48, 49, 50, 51, 52, 53, 54, 55, 56], rfl, rfl, rfl, J, rfl⟩)
  ·
    rw [recK_e hk]
    exact (kX8_strew_ok l D z (a 0) (a 1) (a 15) (a 18) (a 21) (a 25) (a 69) (p_hs P) (a 31) (a 32) (a 33) (a 42) (a 51) (a 60) (a 42) (a 43) (a 44) (a 45) (a 46) (a 47) (a 48) (a 49) (a 50) (a 6) (a 7) (a 8) (a 9) (a 10) (a 11) (a 12) (a 13) (a 14) (p_o P) (p_hd P) (p_sl P 1) (p_s P) x y k (by first | assumption | omega) (by first | assumption | omega) (by first | assumption | omega) (by first | assumption | omega) (by first | assumption | omega) (by first | assumption | omega) (by rw [hk]; rfl) (by first | assumption | omega)).frameR [0, 31, 32, 42, 43, 44, 45, 46, 47, 48, 49, 50, 6, 7, 8, 9, 10, 11, 12, 13, 14] [1, 2, 3, 4, 5, 15, 16, 17, 18, 19, 20, 21, 22, 23, 24, 25, 26, 27, 28, 29, 30, 33, 34, 35, 36, 37, 38, 39, 40, 41, 51, 52, 53, 54, 55, 56, 57, 58, 59, 60, 61, 62, 63, 64, 65, 66, 67, 68, 69, 70, 71, 72, 73, 74, 75, 76, 77] rfl rfl rfl rfl rfl (fun r w1 hp => by
      obtain ⟨rfl, rfl⟩ := hp
      exact ⟨_, [57, 0, 1, 2, 3, 4, 69, 70, 71, 72, 73, 74, 75, 76, 77, 5, 6, 7, 8, 9, 10, 11, 12, 13, 14, 15, 16, 17, 18, 19, 20, 58, 59, 21, 22, 23, 24, 25, 26, 27, 28, 29, 60, 61, 62, 63, 64, 65, 66, 67, 68, 30, 31, 32, 33, 34, 35, 36, 37, 38, 39, 40, 41, 42, 43, 44, 45, 46, 47, 48, 49, 50, 51, 52, 53, 54, 55, 56], rfl, rfl, rfl, J, rfl⟩)
  ·
    rw [recK_e hk]
    exact (kX8_strew_ok l D z (a 0) (a 1) (a 15) (a 18) (a 21) (a 25) (a 69) (p_hs P) (a 31) (a 32) (a 33) (a 42) (a 51) (a 60) (a 51) (a 52) (a 53) (a 54) (a 55) (a 56) (a 57) (a 58) (a 59) (a 6) (a 7) (a 8) (a 9) (a 10) (a 11) (a 12) (a 13) (a 14) (p_o P) (p_hd P) (p_sl P 2) (p_s P) x y k (by first | assumption | omega) (by first | assumption | omega) (by first | assumption | omega) (by first | assumption | omega) (by first | assumption | omega) (by first | assumption | omega) (by rw [hk]; rfl) (by first | assumption | omega)).frameR [0, 31, 32, 51, 52, 53, 54, 55, 56, 57, 58, 59, 6, 7, 8, 9, 10, 11, 12, 13, 14] [1, 2, 3, 4, 5, 15, 16, 17, 18, 19, 20, 21, 22, 23, 24, 25, 26, 27, 28, 29, 30, 33, 34, 35, 36, 37, 38, 39, 40, 41, 42, 43, 44, 45, 46, 47, 48, 49, 50, 60, 61, 62, 63, 64, 65, 66, 67, 68, 69, 70, 71, 72, 73, 74, 75, 76, 77] rfl rfl rfl rfl rfl (fun r w1 hp => by
      obtain ⟨rfl, rfl⟩ := hp
      exact ⟨_, [57, 0, 1, 2, 3, 4, 69, 70, 71, 72, 73, 74, 75, 76, 77, 5, 6, 7, 8, 9, 10, 11, 12, 13, 14, 15, 16, 17, 18, 19, 20, 58, 59, 21, 22, 23, 24, 25, 26, 27, 28, 29, 30, 31, 32, 33, 34, 35, 36, 37, 38, 60, 61, 62, 63, 64, 65, 66, 67, 68, 39, 40, 41, 42, 43, 44, 45, 46, 47, 48, 49, 50, 51, 52, 53, 54, 55, 56], rfl, rfl, rfl, J, rfl⟩)
  ·
    rw [recK_e hk]
    exact (kX8_strew_ok l D z (a 0) (a 1) (a 15) (a 18) (a 21) (a 25) (a 69) (p_hs P) (a 31) (a 32) (a 33) (a 42) (a 51) (a 60) (a 60) (a 61) (a 62) (a 63) (a 64) (a 65) (a 66) (a 67) (a 68) (a 6) (a 7) (a 8) (a 9) (a 10) (a 11) (a 12) (a 13) (a 14) (p_o P) (p_hd P) (p_sl P 3) (p_s P) x y k (by first | assumption | omega) (by first | assumption | omega) (by first | assumption | omega) (by first | assumption | omega) (by first | assumption | omega) (by first | assumption | omega) (by rw [hk]; rfl) (by first | assumption | omega)).frameR [0, 31, 32, 60, 61, 62, 63, 64, 65, 66, 67, 68, 6, 7, 8, 9, 10, 11, 12, 13, 14] [1, 2, 3, 4, 5, 15, 16, 17, 18, 19, 20, 21, 22, 23, 24, 25, 26, 27, 28, 29, 30, 33, 34, 35, 36, 37, 38, 39, 40, 41, 42, 43, 44, 45, 46, 47, 48, 49, 50, 51, 52, 53, 54, 55, 56, 57, 58, 59, 69, 70, 71, 72, 73, 74, 75, 76, 77] rfl rfl rfl rfl rfl (fun r w1 hp => by
      obtain ⟨rfl, rfl⟩ := hp
      exact ⟨_, [57, 0, 1, 2, 3, 4, 69, 70, 71, 72, 73, 74, 75, 76, 77, 5, 6, 7, 8, 9, 10, 11, 12, 13, 14, 15, 16, 17, 18, 19, 20, 58, 59, 21, 22, 23, 24, 25, 26, 27, 28, 29, 30, 31, 32, 33, 34, 35, 36, 37, 38, 39, 40, 41, 42, 43, 44, 45, 46, 47, 60, 61, 62, 63, 64, 65, 66, 67, 68, 48, 49, 50, 51, 52, 53, 54, 55, 56], rfl, rfl, rfl, J, rfl⟩)
set_option maxRecDepth 100000 in
set_option maxHeartbeats 4000000 in
theorem M_strew_ok (l : Launch) (D : va_G) (z : Nat × Nat × Nat) (b : Nat → Nat) (P : PS) (x : Nat) (y : Nat) (k : Nat) (Q : QS) {Bd : Nat} (hi : IV Bd P) (hB : Bd < 1073741824) (hq : RQ Q P) (hx : x < 12) (hy : y < 12) (hk1 : 1 ≤ k) (hk2 : k ≤ 99) : CM l yX9_strew wsX9_strew ({ frames := 2, cells := 0, slots := 0, locals := 43 } : Room) D z [.ref (b 0), .int (nI x), .int (nI y), .int (nI k)] (wM D b P Q) (fun r w => r = some (.int (nI (sv_g (p_s P) (y * 12 + x) + k))) ∧ ∃ Q', RQ Q' (recP P (mkS (upf (sv_g (p_s P)) (y * 12 + x) ((sv_g (p_s P)) (y * 12 + x) + k)) (sv_cc (p_s P)) (sv_cr (p_s P)) (sv_nc (p_s P)) (sv_se (p_s P)) (sv_fs (p_s P)) (sv_fa (p_s P)) (sv_fk (p_s P)) (sv_ps (p_s P)) (sv_la (p_s P)) (sv_st (p_s P) + nI k) (sv_sw (p_s P)) (sv_fl (p_s P)) (sv_sk (p_s P)) (sv_mu (p_s P)))) ∧ w = wM D b (recP P (mkS (upf (sv_g (p_s P)) (y * 12 + x) ((sv_g (p_s P)) (y * 12 + x) + k)) (sv_cc (p_s P)) (sv_cr (p_s P)) (sv_nc (p_s P)) (sv_se (p_s P)) (sv_fs (p_s P)) (sv_fa (p_s P)) (sv_fk (p_s P)) (sv_ps (p_s P)) (sv_la (p_s P)) (sv_st (p_s P) + nI k) (sv_sw (p_s P)) (sv_fl (p_s P)) (sv_sk (p_s P)) (sv_mu (p_s P)))) Q') 0 0 := by
  have hi0 := hi
  obtain ⟨⟨hnc, hcc, hps, hpc, hla, hsm⟩, ho, hh, hsl, hsn, htl, htx⟩ := hi
  have hok := hi0.1
  have hM := hq.1
  exact (kX9_strew_ok l D z (b 0) (b 1) (b 2) (b 3) (b 4) (b 5) (b 6) (b 7) (b 8) (b 9) (b 10) (b 11) (p_hd P) (p_hs P) (p_tl P) (q_ta Q) (q_iw Q) (q_M Q) (q_B Q) (p_s P) x y k (by first | assumption | omega) (by first | assumption | omega) (by first | assumption | omega) (by first | assumption | omega) (by first | assumption | omega) (by first | assumption | omega)).frameR [0, 5, 6] [1, 2, 3, 4, 7, 8, 9, 10, 11] rfl rfl rfl rfl rfl (fun r w1 hp => by
    obtain ⟨M9, hM9, rfl, rfl⟩ := hp
    exact ⟨_, [9, 0, 1, 2, 3, 10, 11, 4, 5, 6, 7, 8], rfl, rfl, rfl, (mkQ M9 (kwF (q_B Q) (q_M Q) (p_hd P)) (q_K Q) (q_Z Q) (q_me Q) (q_rw Q) (q_ta Q) (q_iw Q)), (RQ_rec hq hi0 hM9), rfl⟩)
set_option maxRecDepth 100000 in
set_option maxHeartbeats 4000000 in
theorem X_sweep_b1 (l : Launch) (D : va_G) (z : Nat × Nat × Nat) (a : Nat → Nat) (P : PS) (k : Int32) (J : JS) {Bd : Nat} (hi : IV Bd P) (hB : Bd < 1073741824) (hb : k < 0 ∨ nI 99 < k) : CM l yX8_sweep wsX8_sweep ({ frames := 5, cells := 0, slots := 0, locals := 109 } : Room) D z [.ref (a 0), .int k] (wX D a P J) (fun r w => r = some (.int (-2)) ∧ ∃ J', w = wX D a P J') 0 0 := by
  have hi0 := hi
  obtain ⟨⟨hnc, hcc, hps, hpc, hla, hsm⟩, ho, hh, hsl, hsn, htl, htx⟩ := hi
  have hok := hi0.1
  exact (kX8_sweep_b1 l D z (a 0) (a 1) (a 15) (a 18) (a 21) (a 25) (a 69) (p_hs P) (a 31) (a 6) k (by first | assumption | omega)).frameR [0] [1, 2, 3, 4, 5, 6, 7, 8, 9, 10, 11, 12, 13, 14, 15, 16, 17, 18, 19, 20, 21, 22, 23, 24, 25, 26, 27, 28, 29, 30, 31, 32, 33, 34, 35, 36, 37, 38, 39, 40, 41, 42, 43, 44, 45, 46, 47, 48, 49, 50, 51, 52, 53, 54, 55, 56, 57, 58, 59, 60, 61, 62, 63, 64, 65, 66, 67, 68, 69, 70, 71, 72, 73, 74, 75, 76, 77] rfl rfl rfl rfl rfl (fun r w1 hp => by
    obtain ⟨rfl, rfl⟩ := hp
    exact ⟨_, [77, 0, 1, 2, 3, 4, 5, 6, 7, 8, 9, 10, 11, 12, 13, 14, 15, 16, 17, 18, 19, 20, 21, 22, 23, 24, 25, 26, 27, 28, 29, 30, 31, 32, 33, 34, 35, 36, 37, 38, 39, 40, 41, 42, 43, 44, 45, 46, 47, 48, 49, 50, 51, 52, 53, 54, 55, 56, 57, 58, 59, 60, 61, 62, 63, 64, 65, 66, 67, 68, 69, 70, 71, 72, 73, 74, 75, 76], rfl, rfl, rfl, J, rfl⟩)
set_option maxRecDepth 100000 in
set_option maxHeartbeats 4000000 in
theorem M_sweep_b1 (l : Launch) (D : va_G) (z : Nat × Nat × Nat) (b : Nat → Nat) (P : PS) (k : Int32) (Q : QS) {Bd : Nat} (hi : IV Bd P) (hB : Bd < 1073741824) (hq : RQ Q P) (hb : k < 0 ∨ nI 99 < k) : CM l yX9_sweep wsX9_sweep ({ frames := 1, cells := 0, slots := 0, locals := 22 } : Room) D z [.ref (b 0), .int k] (wM D b P Q) (fun r w => r = some (.int (-2)) ∧ ∃ Q', RQ Q' P ∧ w = wM D b P Q') 0 0 := by
  have hi0 := hi
  obtain ⟨⟨hnc, hcc, hps, hpc, hla, hsm⟩, ho, hh, hsl, hsn, htl, htx⟩ := hi
  have hok := hi0.1
  have hM := hq.1
  exact (kX9_sweep_b1 l D z (b 0) (b 1) (b 2) (b 3) (b 4) (b 5) (b 6) (b 7) (b 8) (b 9) (b 10) (b 11) (p_hd P) (p_hs P) (p_tl P) (q_ta Q) (q_iw Q) k (by first | assumption | omega)).frameR [0] [1, 2, 3, 4, 5, 6, 7, 8, 9, 10, 11] rfl rfl rfl rfl rfl (fun r w1 hp => by
    obtain ⟨rfl, rfl⟩ := hp
    exact ⟨_, [11, 0, 1, 2, 3, 4, 5, 6, 7, 8, 9, 10], rfl, rfl, rfl, Q, hq, rfl⟩)
set_option maxRecDepth 100000 in
set_option maxHeartbeats 4000000 in
theorem X_sweep_ok (l : Launch) (D : va_G) (z : Nat × Nat × Nat) (a : Nat → Nat) (P : PS) (k : Nat) (J : JS) {Bd : Nat} (hi : IV Bd P) (hB : Bd < 1073741824) (hk2 : k ≤ 99) : CM l yX8_sweep wsX8_sweep ({ frames := 5, cells := 0, slots := 0, locals := 109 } : Room) D z [.ref (a 0), .int (nI k)] (wX D a P J) (fun r w => r = some (.int (nI (smN (sv_g (p_s P)) 144))) ∧ ∃ J', w = wX D a (recP P (mkS (cvf (sv_g (p_s P)) k 144) (sv_cc (p_s P)) (sv_cr (p_s P)) (sv_nc (p_s P)) (sv_se (p_s P)) (sv_fs (p_s P)) (sv_fa (p_s P)) (sv_fk (p_s P)) (sv_ps (p_s P)) (sv_la (p_s P)) (sv_st (p_s P) + nI (144 * k)) (sv_sw (p_s P) + nI (smN (sv_g (p_s P)) 144)) (sv_fl (p_s P)) (sv_sk (p_s P)) (sv_mu (p_s P)))) J') 0 0 := by
  have hi0 := hi
  obtain ⟨⟨hnc, hcc, hps, hpc, hla, hsm⟩, ho, hh, hsl, hsn, htl, htx⟩ := hi
  have hok := hi0.1
  rcases (show rkN (p_o P) (p_hd P) = 0 ∨ rkN (p_o P) (p_hd P) = 1 ∨ rkN (p_o P) (p_hd P) = 2 ∨ rkN (p_o P) (p_hd P) = 3 by have := rkN_lt ho hh; omega) with hk | hk | hk | hk
  ·
    rw [recK_e hk]
    exact (kX8_sweep_ok l D z (a 0) (a 1) (a 15) (a 18) (a 21) (a 25) (a 69) (p_hs P) (a 31) (a 32) (a 33) (a 42) (a 51) (a 60) (a 33) (a 34) (a 35) (a 36) (a 37) (a 38) (a 39) (a 40) (a 41) (a 6) (a 7) (a 8) (a 9) (a 10) (a 11) (a 12) (a 13) (a 14) (p_o P) (p_hd P) (p_sl P 0) (p_s P) k (by first | assumption | omega) (by first | assumption | omega) (by first | assumption | omega) (by rw [hk]; rfl) (by first | assumption | omega)).frameR [0, 31, 32, 33, 34, 35, 36, 37, 38, 39, 40, 41, 6, 7, 8, 9, 10, 11, 12, 13, 14] [1, 2, 3, 4, 5, 15, 16, 17, 18, 19, 20, 21, 22, 23, 24, 25, 26, 27, 28, 29, 30, 42, 43, 44, 45, 46, 47, 48, 49, 50, 51, 52, 53, 54, 55, 56, 57, 58, 59, 60, 61, 62, 63, 64, 65, 66, 67, 68, 69, 70, 71, 72, 73, 74, 75, 76, 77] rfl rfl rfl rfl rfl (fun r w1 hp => by
      obtain ⟨rfl, rfl⟩ := hp
      exact ⟨_, [57, 0, 1, 2, 3, 4, 69, 70, 71, 72, 73, 74, 75, 76, 77, 5, 6, 7, 8, 9, 10, 11, 12, 13, 14, 15, 16, 17, 18, 19, 20, 58, 59, 60, 61, 62, 63, 64, 65, 66, 67, 68, 21, 22, 23, 24, 25, 26, 27, 28, 29, 30, 31, 32, 33, 34, 35, 36, 37, 38, 39, 40, 41, 42, 43, 44, 45, 46, 47, 48, 49, 50, 51, 52, 53, 54, 55, 56], rfl, rfl, rfl, J, rfl⟩)
  ·
    rw [recK_e hk]
    exact (kX8_sweep_ok l D z (a 0) (a 1) (a 15) (a 18) (a 21) (a 25) (a 69) (p_hs P) (a 31) (a 32) (a 33) (a 42) (a 51) (a 60) (a 42) (a 43) (a 44) (a 45) (a 46) (a 47) (a 48) (a 49) (a 50) (a 6) (a 7) (a 8) (a 9) (a 10) (a 11) (a 12) (a 13) (a 14) (p_o P) (p_hd P) (p_sl P 1) (p_s P) k (by first | assumption | omega) (by first | assumption | omega) (by first | assumption | omega) (by rw [hk]; rfl) (by first | assumption | omega)).frameR [0, 31, 32, 42, 43, 44, 45, 46, 47, 48, 49, 50, 6, 7, 8, 9, 10, 11, 12, 13, 14] [1, 2, 3, 4, 5, 15, 16, 17, 18, 19, 20, 21, 22, 23, 24, 25, 26, 27, 28, 29, 30, 33, 34, 35, 36, 37, 38, 39, 40, 41, 51, 52, 53, 54, 55, 56, 57, 58, 59, 60, 61, 62, 63, 64, 65, 66, 67, 68, 69, 70, 71, 72, 73, 74, 75, 76, 77] rfl rfl rfl rfl rfl (fun r w1 hp => by
      obtain ⟨rfl, rfl⟩ := hp
      exact ⟨_, [57, 0, 1, 2, 3, 4, 69, 70, 71, 72, 73, 74, 75, 76, 77, 5, 6, 7, 8, 9, 10, 11, 12, 13, 14, 15, 16, 17, 18, 19, 20, 58, 59, 21, 22, 23, 24, 25, 26, 27, 28, 29, 60, 61, 62, 63, 64, 65, 66, 67, 68, 30, 31, 32, 33, 34, 35, 36, 37, 38, 39, 40, 41, 42, 43, 44, 45, 46, 47, 48, 49, 50, 51, 52, 53, 54, 55, 56], rfl, rfl, rfl, J, rfl⟩)
  ·
    rw [recK_e hk]
    exact (kX8_sweep_ok l D z (a 0) (a 1) (a 15) (a 18) (a 21) (a 25) (a 69) (p_hs P) (a 31) (a 32) (a 33) (a 42) (a 51) (a 60) (a 51) (a 52) (a 53) (a 54) (a 55) (a 56) (a 57) (a 58) (a 59) (a 6) (a 7) (a 8) (a 9) (a 10) (a 11) (a 12) (a 13) (a 14) (p_o P) (p_hd P) (p_sl P 2) (p_s P) k (by first | assumption | omega) (by first | assumption | omega) (by first | assumption | omega) (by rw [hk]; rfl) (by first | assumption | omega)).frameR [0, 31, 32, 51, 52, 53, 54, 55, 56, 57, 58, 59, 6, 7, 8, 9, 10, 11, 12, 13, 14] [1, 2, 3, 4, 5, 15, 16, 17, 18, 19, 20, 21, 22, 23, 24, 25, 26, 27, 28, 29, 30, 33, 34, 35, 36, 37, 38, 39, 40, 41, 42, 43, 44, 45, 46, 47, 48, 49, 50, 60, 61, 62, 63, 64, 65, 66, 67, 68, 69, 70, 71, 72, 73, 74, 75, 76, 77] rfl rfl rfl rfl rfl (fun r w1 hp => by
      obtain ⟨rfl, rfl⟩ := hp
      exact ⟨_, [57, 0, 1, 2, 3, 4, 69, 70, 71, 72, 73, 74, 75, 76, 77, 5, 6, 7, 8, 9, 10, 11, 12, 13, 14, 15, 16, 17, 18, 19, 20, 58, 59, 21, 22, 23, 24, 25, 26, 27, 28, 29, 30, 31, 32, 33, 34, 35, 36, 37, 38, 60, 61, 62, 63, 64, 65, 66, 67, 68, 39, 40, 41, 42, 43, 44, 45, 46, 47, 48, 49, 50, 51, 52, 53, 54, 55, 56], rfl, rfl, rfl, J, rfl⟩)
  ·
    rw [recK_e hk]
    exact (kX8_sweep_ok l D z (a 0) (a 1) (a 15) (a 18) (a 21) (a 25) (a 69) (p_hs P) (a 31) (a 32) (a 33) (a 42) (a 51) (a 60) (a 60) (a 61) (a 62) (a 63) (a 64) (a 65) (a 66) (a 67) (a 68) (a 6) (a 7) (a 8) (a 9) (a 10) (a 11) (a 12) (a 13) (a 14) (p_o P) (p_hd P) (p_sl P 3) (p_s P) k (by first | assumption | omega) (by first | assumption | omega) (by first | assumption | omega) (by rw [hk]; rfl) (by first | assumption | omega)).frameR [0, 31, 32, 60, 61, 62, 63, 64, 65, 66, 67, 68, 6, 7, 8, 9, 10, 11, 12, 13, 14] [1, 2, 3, 4, 5, 15, 16, 17, 18, 19, 20, 21, 22, 23, 24, 25, 26, 27, 28, 29, 30, 33, 34, 35, 36, 37, 38, 39, 40, 41, 42, 43, 44, 45, 46, 47, 48, 49, 50, 51, 52, 53, 54, 55, 56, 57, 58, 59, 69, 70, 71, 72, 73, 74, 75, 76, 77] rfl rfl rfl rfl rfl (fun r w1 hp => by
      obtain ⟨rfl, rfl⟩ := hp
      exact ⟨_, [57, 0, 1, 2, 3, 4, 69, 70, 71, 72, 73, 74, 75, 76, 77, 5, 6, 7, 8, 9, 10, 11, 12, 13, 14, 15, 16, 17, 18, 19, 20, 58, 59, 21, 22, 23, 24, 25, 26, 27, 28, 29, 30, 31, 32, 33, 34, 35, 36, 37, 38, 39, 40, 41, 42, 43, 44, 45, 46, 47, 60, 61, 62, 63, 64, 65, 66, 67, 68, 48, 49, 50, 51, 52, 53, 54, 55, 56], rfl, rfl, rfl, J, rfl⟩)
set_option maxRecDepth 100000 in
set_option maxHeartbeats 4000000 in
theorem M_sweep_ok (l : Launch) (D : va_G) (z : Nat × Nat × Nat) (b : Nat → Nat) (P : PS) (k : Nat) (Q : QS) {Bd : Nat} (hi : IV Bd P) (hB : Bd < 1073741824) (hq : RQ Q P) (hk2 : k ≤ 99) : CM l yX9_sweep wsX9_sweep ({ frames := 1, cells := 0, slots := 0, locals := 22 } : Room) D z [.ref (b 0), .int (nI k)] (wM D b P Q) (fun r w => r = some (.int (nI (smN (sv_g (p_s P)) 144))) ∧ ∃ Q', RQ Q' (recP P (mkS (cvf (sv_g (p_s P)) k 144) (sv_cc (p_s P)) (sv_cr (p_s P)) (sv_nc (p_s P)) (sv_se (p_s P)) (sv_fs (p_s P)) (sv_fa (p_s P)) (sv_fk (p_s P)) (sv_ps (p_s P)) (sv_la (p_s P)) (sv_st (p_s P) + nI (144 * k)) (sv_sw (p_s P) + nI (smN (sv_g (p_s P)) 144)) (sv_fl (p_s P)) (sv_sk (p_s P)) (sv_mu (p_s P)))) ∧ w = wM D b (recP P (mkS (cvf (sv_g (p_s P)) k 144) (sv_cc (p_s P)) (sv_cr (p_s P)) (sv_nc (p_s P)) (sv_se (p_s P)) (sv_fs (p_s P)) (sv_fa (p_s P)) (sv_fk (p_s P)) (sv_ps (p_s P)) (sv_la (p_s P)) (sv_st (p_s P) + nI (144 * k)) (sv_sw (p_s P) + nI (smN (sv_g (p_s P)) 144)) (sv_fl (p_s P)) (sv_sk (p_s P)) (sv_mu (p_s P)))) Q') 0 0 := by
  have hi0 := hi
  obtain ⟨⟨hnc, hcc, hps, hpc, hla, hsm⟩, ho, hh, hsl, hsn, htl, htx⟩ := hi
  have hok := hi0.1
  have hM := hq.1
  exact (kX9_sweep_ok l D z (b 0) (b 1) (b 2) (b 3) (b 4) (b 5) (b 6) (b 7) (b 8) (b 9) (b 10) (b 11) (p_hd P) (p_hs P) (p_tl P) (q_ta Q) (q_iw Q) (q_M Q) (q_B Q) (p_s P) k (by first | assumption | omega) (by first | assumption | omega) (by first | assumption | omega)).frameR [0, 5, 6] [1, 2, 3, 4, 7, 8, 9, 10, 11] rfl rfl rfl rfl rfl (fun r w1 hp => by
    obtain ⟨M9, hM9, rfl, rfl⟩ := hp
    exact ⟨_, [9, 0, 1, 2, 3, 10, 11, 4, 5, 6, 7, 8], rfl, rfl, rfl, (mkQ M9 (kwF (q_B Q) (q_M Q) (p_hd P)) (q_K Q) (q_Z Q) (q_me Q) (q_rw Q) (q_ta Q) (q_iw Q)), (RQ_rec hq hi0 hM9), rfl⟩)
set_option maxRecDepth 100000 in
set_option maxHeartbeats 4000000 in
theorem X_clamp_b1 (l : Launch) (D : va_G) (z : Nat × Nat × Nat) (a : Nat → Nat) (P : PS) (x : Int32) (y : Int32) (J : JS) {Bd : Nat} (hi : IV Bd P) (hB : Bd < 1073741824) (hb : (rgB x 12 && rgB y 12) = false) : CM l yX8_clamp wsX8_clamp ({ frames := 5, cells := 0, slots := 0, locals := 109 } : Room) D z [.ref (a 0), .int x, .int y] (wX D a P J) (fun r w => r = some (.int (-1)) ∧ ∃ J', w = wX D a P J') 0 0 := by
  have hi0 := hi
  obtain ⟨⟨hnc, hcc, hps, hpc, hla, hsm⟩, ho, hh, hsl, hsn, htl, htx⟩ := hi
  have hok := hi0.1
  exact (kX8_clamp_b1 l D z (a 0) (a 1) (a 15) (a 18) (a 21) (a 25) (a 69) (p_hs P) (a 31) (a 6) x y (by first | assumption | omega)).frameR [0] [1, 2, 3, 4, 5, 6, 7, 8, 9, 10, 11, 12, 13, 14, 15, 16, 17, 18, 19, 20, 21, 22, 23, 24, 25, 26, 27, 28, 29, 30, 31, 32, 33, 34, 35, 36, 37, 38, 39, 40, 41, 42, 43, 44, 45, 46, 47, 48, 49, 50, 51, 52, 53, 54, 55, 56, 57, 58, 59, 60, 61, 62, 63, 64, 65, 66, 67, 68, 69, 70, 71, 72, 73, 74, 75, 76, 77] rfl rfl rfl rfl rfl (fun r w1 hp => by
    obtain ⟨rfl, rfl⟩ := hp
    exact ⟨_, [77, 0, 1, 2, 3, 4, 5, 6, 7, 8, 9, 10, 11, 12, 13, 14, 15, 16, 17, 18, 19, 20, 21, 22, 23, 24, 25, 26, 27, 28, 29, 30, 31, 32, 33, 34, 35, 36, 37, 38, 39, 40, 41, 42, 43, 44, 45, 46, 47, 48, 49, 50, 51, 52, 53, 54, 55, 56, 57, 58, 59, 60, 61, 62, 63, 64, 65, 66, 67, 68, 69, 70, 71, 72, 73, 74, 75, 76], rfl, rfl, rfl, J, rfl⟩)
set_option maxRecDepth 100000 in
set_option maxHeartbeats 4000000 in
theorem M_clamp_b1 (l : Launch) (D : va_G) (z : Nat × Nat × Nat) (b : Nat → Nat) (P : PS) (x : Int32) (y : Int32) (Q : QS) {Bd : Nat} (hi : IV Bd P) (hB : Bd < 1073741824) (hq : RQ Q P) (hb : (rgB x 12 && rgB y 12) = false) : CM l yX9_clamp wsX9_clamp ({ frames := 2, cells := 0, slots := 0, locals := 43 } : Room) D z [.ref (b 0), .int x, .int y] (wM D b P Q) (fun r w => r = some (.int (-1)) ∧ ∃ Q', RQ Q' P ∧ w = wM D b P Q') 0 0 := by
  have hi0 := hi
  obtain ⟨⟨hnc, hcc, hps, hpc, hla, hsm⟩, ho, hh, hsl, hsn, htl, htx⟩ := hi
  have hok := hi0.1
  have hM := hq.1
  exact (kX9_clamp_b1 l D z (b 0) (b 1) (b 2) (b 3) (b 4) (b 5) (b 6) (b 7) (b 8) (b 9) (b 10) (b 11) (p_hd P) (p_hs P) (p_tl P) (q_ta Q) (q_iw Q) x y (by first | assumption | omega)).frameR [0] [1, 2, 3, 4, 5, 6, 7, 8, 9, 10, 11] rfl rfl rfl rfl rfl (fun r w1 hp => by
    obtain ⟨rfl, rfl⟩ := hp
    exact ⟨_, [11, 0, 1, 2, 3, 4, 5, 6, 7, 8, 9, 10], rfl, rfl, rfl, Q, hq, rfl⟩)
set_option maxRecDepth 100000 in
set_option maxHeartbeats 4000000 in
theorem X_clamp_b2 (l : Launch) (D : va_G) (z : Nat × Nat × Nat) (a : Nat → Nat) (P : PS) (x : Nat) (y : Nat) (J : JS) {Bd : Nat} (hi : IV Bd P) (hB : Bd < 1073741824) (hx : x < 12) (hy : y < 12) (hb : 4 ≤ sv_nc (p_s P)) : CM l yX8_clamp wsX8_clamp ({ frames := 5, cells := 0, slots := 0, locals := 109 } : Room) D z [.ref (a 0), .int (nI x), .int (nI y)] (wX D a P J) (fun r w => r = some (.int (-3)) ∧ ∃ J', w = wX D a P J') 0 0 := by
  have hi0 := hi
  obtain ⟨⟨hnc, hcc, hps, hpc, hla, hsm⟩, ho, hh, hsl, hsn, htl, htx⟩ := hi
  have hok := hi0.1
  exact (kX8_clamp_b2 l D z (a 0) (a 1) (a 15) (a 18) (a 21) (a 25) (a 69) (p_hs P) (a 31) (a 6) (a 7) (a 8) (a 9) (a 10) (a 11) (p_s P) x y (by first | assumption | omega) (by first | assumption | omega) (by first | assumption | omega) (by first | assumption | omega)).frameR [0, 6] [1, 2, 3, 4, 5, 7, 8, 9, 10, 11, 12, 13, 14, 15, 16, 17, 18, 19, 20, 21, 22, 23, 24, 25, 26, 27, 28, 29, 30, 31, 32, 33, 34, 35, 36, 37, 38, 39, 40, 41, 42, 43, 44, 45, 46, 47, 48, 49, 50, 51, 52, 53, 54, 55, 56, 57, 58, 59, 60, 61, 62, 63, 64, 65, 66, 67, 68, 69, 70, 71, 72, 73, 74, 75, 76, 77] rfl rfl rfl rfl rfl (fun r w1 hp => by
    obtain ⟨rfl, rfl⟩ := hp
    exact ⟨_, [76, 0, 1, 2, 3, 4, 77, 5, 6, 7, 8, 9, 10, 11, 12, 13, 14, 15, 16, 17, 18, 19, 20, 21, 22, 23, 24, 25, 26, 27, 28, 29, 30, 31, 32, 33, 34, 35, 36, 37, 38, 39, 40, 41, 42, 43, 44, 45, 46, 47, 48, 49, 50, 51, 52, 53, 54, 55, 56, 57, 58, 59, 60, 61, 62, 63, 64, 65, 66, 67, 68, 69, 70, 71, 72, 73, 74, 75], rfl, rfl, rfl, J, rfl⟩)
set_option maxRecDepth 100000 in
set_option maxHeartbeats 4000000 in
theorem M_clamp_b2 (l : Launch) (D : va_G) (z : Nat × Nat × Nat) (b : Nat → Nat) (P : PS) (x : Nat) (y : Nat) (Q : QS) {Bd : Nat} (hi : IV Bd P) (hB : Bd < 1073741824) (hq : RQ Q P) (hx : x < 12) (hy : y < 12) (hb : sv_nc (p_s P) = 4) : CM l yX9_clamp wsX9_clamp ({ frames := 2, cells := 0, slots := 0, locals := 43 } : Room) D z [.ref (b 0), .int (nI x), .int (nI y)] (wM D b P Q) (fun r w => r = some (.int (-3)) ∧ ∃ Q', RQ Q' P ∧ w = wM D b P Q') 0 0 := by
  have hi0 := hi
  obtain ⟨⟨hnc, hcc, hps, hpc, hla, hsm⟩, ho, hh, hsl, hsn, htl, htx⟩ := hi
  have hok := hi0.1
  have hM := hq.1
  exact (kX9_clamp_b2 l D z (b 0) (b 1) (b 2) (b 3) (b 4) (b 5) (b 6) (b 7) (b 8) (b 9) (b 10) (b 11) (p_hd P) (p_hs P) (p_tl P) (q_ta Q) (q_iw Q) (q_M Q) (p_s P) x y (by first | assumption | omega) (by first | assumption | omega) (by first | assumption | omega) (by first | assumption | omega)).frameR [0, 5] [1, 2, 3, 4, 6, 7, 8, 9, 10, 11] rfl rfl rfl rfl rfl (fun r w1 hp => by
    obtain ⟨rfl, rfl⟩ := hp
    exact ⟨_, [10, 0, 1, 2, 3, 11, 4, 5, 6, 7, 8, 9], rfl, rfl, rfl, Q, hq, rfl⟩)
set_option maxRecDepth 100000 in
set_option maxHeartbeats 4000000 in
theorem X_clamp_b3 (l : Launch) (D : va_G) (z : Nat × Nat × Nat) (a : Nat → Nat) (P : PS) (x : Nat) (y : Nat) (k : Nat) (J : JS) {Bd : Nat} (hi : IV Bd P) (hB : Bd < 1073741824) (hx : x < 12) (hy : y < 12) (hb : sv_nc (p_s P) < 4) (hd : (fdB (fun j => sv_cc (p_s P) j == x && sv_cr (p_s P) j == y) (sv_nc (p_s P))) = some k) : CM l yX8_clamp wsX8_clamp ({ frames := 5, cells := 0, slots := 0, locals := 109 } : Room) D z [.ref (a 0), .int (nI x), .int (nI y)] (wX D a P J) (fun r w => r = some (.int (-5)) ∧ ∃ J', w = wX D a P J') 0 0 := by
  have hi0 := hi
  obtain ⟨⟨hnc, hcc, hps, hpc, hla, hsm⟩, ho, hh, hsl, hsn, htl, htx⟩ := hi
  have hok := hi0.1
  exact (kX8_clamp_b3 l D z (a 0) (a 1) (a 15) (a 18) (a 21) (a 25) (a 69) (p_hs P) (a 31) (a 6) (a 7) (a 8) (a 9) (a 10) (a 11) (p_s P) x y k (by first | assumption | omega) (by first | assumption | omega) (by first | assumption | omega) (by first | assumption | omega) (by first | assumption | omega) (by first | assumption | omega)).frameR [0, 6, 8, 9] [1, 2, 3, 4, 5, 7, 10, 11, 12, 13, 14, 15, 16, 17, 18, 19, 20, 21, 22, 23, 24, 25, 26, 27, 28, 29, 30, 31, 32, 33, 34, 35, 36, 37, 38, 39, 40, 41, 42, 43, 44, 45, 46, 47, 48, 49, 50, 51, 52, 53, 54, 55, 56, 57, 58, 59, 60, 61, 62, 63, 64, 65, 66, 67, 68, 69, 70, 71, 72, 73, 74, 75, 76, 77] rfl rfl rfl rfl rfl (fun r w1 hp => by
    obtain ⟨rfl, rfl⟩ := hp
    exact ⟨_, [74, 0, 1, 2, 3, 4, 75, 5, 76, 77, 6, 7, 8, 9, 10, 11, 12, 13, 14, 15, 16, 17, 18, 19, 20, 21, 22, 23, 24, 25, 26, 27, 28, 29, 30, 31, 32, 33, 34, 35, 36, 37, 38, 39, 40, 41, 42, 43, 44, 45, 46, 47, 48, 49, 50, 51, 52, 53, 54, 55, 56, 57, 58, 59, 60, 61, 62, 63, 64, 65, 66, 67, 68, 69, 70, 71, 72, 73], rfl, rfl, rfl, J, rfl⟩)
set_option maxRecDepth 100000 in
set_option maxHeartbeats 4000000 in
theorem M_clamp_b3 (l : Launch) (D : va_G) (z : Nat × Nat × Nat) (b : Nat → Nat) (P : PS) (x : Nat) (y : Nat) (k : Nat) (Q : QS) {Bd : Nat} (hi : IV Bd P) (hB : Bd < 1073741824) (hq : RQ Q P) (hx : x < 12) (hy : y < 12) (hb : sv_nc (p_s P) < 4) (hd : (fdB (fun j => decide (12 * sv_cr (p_s P) j + sv_cc (p_s P) j = 12 * y + x)) (sv_nc (p_s P))) = some k) : CM l yX9_clamp wsX9_clamp ({ frames := 2, cells := 0, slots := 0, locals := 43 } : Room) D z [.ref (b 0), .int (nI x), .int (nI y)] (wM D b P Q) (fun r w => r = some (.int (-5)) ∧ ∃ Q', RQ Q' P ∧ w = wM D b P Q') 0 0 := by
  have hi0 := hi
  obtain ⟨⟨hnc, hcc, hps, hpc, hla, hsm⟩, ho, hh, hsl, hsn, htl, htx⟩ := hi
  have hok := hi0.1
  have hM := hq.1
  exact (kX9_clamp_b3 l D z (b 0) (b 1) (b 2) (b 3) (b 4) (b 5) (b 6) (b 7) (b 8) (b 9) (b 10) (b 11) (p_hd P) (p_hs P) (p_tl P) (q_ta Q) (q_iw Q) (q_M Q) (p_s P) x y k (by first | assumption | omega) (by first | assumption | omega) (by first | assumption | omega) (by first | assumption | omega) (by first | assumption | omega) (by first | assumption | omega) (by first | assumption | omega)).frameR [0, 5] [1, 2, 3, 4, 6, 7, 8, 9, 10, 11] rfl rfl rfl rfl rfl (fun r w1 hp => by
    obtain ⟨rfl, rfl⟩ := hp
    exact ⟨_, [10, 0, 1, 2, 3, 11, 4, 5, 6, 7, 8, 9], rfl, rfl, rfl, Q, hq, rfl⟩)
set_option maxRecDepth 100000 in
set_option maxHeartbeats 4000000 in
theorem X_clamp_ok (l : Launch) (D : va_G) (z : Nat × Nat × Nat) (a : Nat → Nat) (P : PS) (x : Nat) (y : Nat) (J : JS) {Bd : Nat} (hi : IV Bd P) (hB : Bd < 1073741824) (hx : x < 12) (hy : y < 12) (hb : sv_nc (p_s P) < 4) : CM l yX8_clamp wsX8_clamp ({ frames := 5, cells := 0, slots := 0, locals := 109 } : Room) D z [.ref (a 0), .int (nI x), .int (nI y)] (wX D a P J) (fun r w => r = some (.int (nI (sv_nc (p_s P) + 1))) ∧ ∃ J', w = wX D a (recP P (mkS (sv_g (p_s P)) (upf (sv_cc (p_s P)) (sv_nc (p_s P)) x) (upf (sv_cr (p_s P)) (sv_nc (p_s P)) y) (sv_nc (p_s P) + 1) (sv_se (p_s P)) (sv_fs (p_s P)) (sv_fa (p_s P)) (sv_fk (p_s P)) (sv_ps (p_s P)) (sv_la (p_s P)) (sv_st (p_s P)) (sv_sw (p_s P)) (sv_fl (p_s P)) (sv_sk (p_s P)) (sv_mu (p_s P)))) J') 0 0 := by
  have hi0 := hi
  obtain ⟨⟨hnc, hcc, hps, hpc, hla, hsm⟩, ho, hh, hsl, hsn, htl, htx⟩ := hi
  have hok := hi0.1
  rcases (show rkN (p_o P) (p_hd P) = 0 ∨ rkN (p_o P) (p_hd P) = 1 ∨ rkN (p_o P) (p_hd P) = 2 ∨ rkN (p_o P) (p_hd P) = 3 by have := rkN_lt ho hh; omega) with hk | hk | hk | hk
  ·
    rw [recK_e hk]
    exact (kX8_clamp_ok l D z (a 0) (a 1) (a 15) (a 18) (a 21) (a 25) (a 69) (p_hs P) (a 31) (a 32) (a 33) (a 42) (a 51) (a 60) (a 33) (a 34) (a 35) (a 36) (a 37) (a 38) (a 39) (a 40) (a 41) (a 6) (a 7) (a 8) (a 9) (a 10) (a 11) (a 12) (a 13) (a 14) (p_o P) (p_hd P) (p_sl P 0) (p_s P) x y (by first | assumption | omega) (by first | assumption | omega) (by first | assumption | omega) (by first | assumption | omega) (by first | assumption | omega) (by first | assumption | omega) (by first | assumption | omega) (by first | assumption | omega) (by rw [hk]; rfl) (by first | assumption | omega)).frameR [0, 31, 32, 33, 34, 35, 36, 37, 38, 39, 40, 41, 6, 7, 8, 9, 10, 11, 12, 13, 14] [1, 2, 3, 4, 5, 15, 16, 17, 18, 19, 20, 21, 22, 23, 24, 25, 26, 27, 28, 29, 30, 42, 43, 44, 45, 46, 47, 48, 49, 50, 51, 52, 53, 54, 55, 56, 57, 58, 59, 60, 61, 62, 63, 64, 65, 66, 67, 68, 69, 70, 71, 72, 73, 74, 75, 76, 77] rfl rfl rfl rfl rfl (fun r w1 hp => by
      obtain ⟨rfl, rfl⟩ := hp
      exact ⟨_, [57, 0, 1, 2, 3, 4, 69, 70, 71, 72, 73, 74, 75, 76, 77, 5, 6, 7, 8, 9, 10, 11, 12, 13, 14, 15, 16, 17, 18, 19, 20, 58, 59, 60, 61, 62, 63, 64, 65, 66, 67, 68, 21, 22, 23, 24, 25, 26, 27, 28, 29, 30, 31, 32, 33, 34, 35, 36, 37, 38, 39, 40, 41, 42, 43, 44, 45, 46, 47, 48, 49, 50, 51, 52, 53, 54, 55, 56], rfl, rfl, rfl, J, rfl⟩)
  ·
    rw [recK_e hk]
    exact (kX8_clamp_ok l D z (a 0) (a 1) (a 15) (a 18) (a 21) (a 25) (a 69) (p_hs P) (a 31) (a 32) (a 33) (a 42) (a 51) (a 60) (a 42) (a 43) (a 44) (a 45) (a 46) (a 47) (a 48) (a 49) (a 50) (a 6) (a 7) (a 8) (a 9) (a 10) (a 11) (a 12) (a 13) (a 14) (p_o P) (p_hd P) (p_sl P 1) (p_s P) x y (by first | assumption | omega) (by first | assumption | omega) (by first | assumption | omega) (by first | assumption | omega) (by first | assumption | omega) (by first | assumption | omega) (by first | assumption | omega) (by first | assumption | omega) (by rw [hk]; rfl) (by first | assumption | omega)).frameR [0, 31, 32, 42, 43, 44, 45, 46, 47, 48, 49, 50, 6, 7, 8, 9, 10, 11, 12, 13, 14] [1, 2, 3, 4, 5, 15, 16, 17, 18, 19, 20, 21, 22, 23, 24, 25, 26, 27, 28, 29, 30, 33, 34, 35, 36, 37, 38, 39, 40, 41, 51, 52, 53, 54, 55, 56, 57, 58, 59, 60, 61, 62, 63, 64, 65, 66, 67, 68, 69, 70, 71, 72, 73, 74, 75, 76, 77] rfl rfl rfl rfl rfl (fun r w1 hp => by
      obtain ⟨rfl, rfl⟩ := hp
      exact ⟨_, [57, 0, 1, 2, 3, 4, 69, 70, 71, 72, 73, 74, 75, 76, 77, 5, 6, 7, 8, 9, 10, 11, 12, 13, 14, 15, 16, 17, 18, 19, 20, 58, 59, 21, 22, 23, 24, 25, 26, 27, 28, 29, 60, 61, 62, 63, 64, 65, 66, 67, 68, 30, 31, 32, 33, 34, 35, 36, 37, 38, 39, 40, 41, 42, 43, 44, 45, 46, 47, 48, 49, 50, 51, 52, 53, 54, 55, 56], rfl, rfl, rfl, J, rfl⟩)
  ·
    rw [recK_e hk]
    exact (kX8_clamp_ok l D z (a 0) (a 1) (a 15) (a 18) (a 21) (a 25) (a 69) (p_hs P) (a 31) (a 32) (a 33) (a 42) (a 51) (a 60) (a 51) (a 52) (a 53) (a 54) (a 55) (a 56) (a 57) (a 58) (a 59) (a 6) (a 7) (a 8) (a 9) (a 10) (a 11) (a 12) (a 13) (a 14) (p_o P) (p_hd P) (p_sl P 2) (p_s P) x y (by first | assumption | omega) (by first | assumption | omega) (by first | assumption | omega) (by first | assumption | omega) (by first | assumption | omega) (by first | assumption | omega) (by first | assumption | omega) (by first | assumption | omega) (by rw [hk]; rfl) (by first | assumption | omega)).frameR [0, 31, 32, 51, 52, 53, 54, 55, 56, 57, 58, 59, 6, 7, 8, 9, 10, 11, 12, 13, 14] [1, 2, 3, 4, 5, 15, 16, 17, 18, 19, 20, 21, 22, 23, 24, 25, 26, 27, 28, 29, 30, 33, 34, 35, 36, 37, 38, 39, 40, 41, 42, 43, 44, 45, 46, 47, 48, 49, 50, 60, 61, 62, 63, 64, 65, 66, 67, 68, 69, 70, 71, 72, 73, 74, 75, 76, 77] rfl rfl rfl rfl rfl (fun r w1 hp => by
      obtain ⟨rfl, rfl⟩ := hp
      exact ⟨_, [57, 0, 1, 2, 3, 4, 69, 70, 71, 72, 73, 74, 75, 76, 77, 5, 6, 7, 8, 9, 10, 11, 12, 13, 14, 15, 16, 17, 18, 19, 20, 58, 59, 21, 22, 23, 24, 25, 26, 27, 28, 29, 30, 31, 32, 33, 34, 35, 36, 37, 38, 60, 61, 62, 63, 64, 65, 66, 67, 68, 39, 40, 41, 42, 43, 44, 45, 46, 47, 48, 49, 50, 51, 52, 53, 54, 55, 56], rfl, rfl, rfl, J, rfl⟩)
  ·
    rw [recK_e hk]
    exact (kX8_clamp_ok l D z (a 0) (a 1) (a 15) (a 18) (a 21) (a 25) (a 69) (p_hs P) (a 31) (a 32) (a 33) (a 42) (a 51) (a 60) (a 60) (a 61) (a 62) (a 63) (a 64) (a 65) (a 66) (a 67) (a 68) (a 6) (a 7) (a 8) (a 9) (a 10) (a 11) (a 12) (a 13) (a 14) (p_o P) (p_hd P) (p_sl P 3) (p_s P) x y (by first | assumption | omega) (by first | assumption | omega) (by first | assumption | omega) (by first | assumption | omega) (by first | assumption | omega) (by first | assumption | omega) (by first | assumption | omega) (by first | assumption | omega) (by rw [hk]; rfl) (by first | assumption | omega)).frameR [0, 31, 32, 60, 61, 62, 63, 64, 65, 66, 67, 68, 6, 7, 8, 9, 10, 11, 12, 13, 14] [1, 2, 3, 4, 5, 15, 16, 17, 18, 19, 20, 21, 22, 23, 24, 25, 26, 27, 28, 29, 30, 33, 34, 35, 36, 37, 38, 39, 40, 41, 42, 43, 44, 45, 46, 47, 48, 49, 50, 51, 52, 53, 54, 55, 56, 57, 58, 59, 69, 70, 71, 72, 73, 74, 75, 76, 77] rfl rfl rfl rfl rfl (fun r w1 hp => by
      obtain ⟨rfl, rfl⟩ := hp
      exact ⟨_, [57, 0, 1, 2, 3, 4, 69, 70, 71, 72, 73, 74, 75, 76, 77, 5, 6, 7, 8, 9, 10, 11, 12, 13, 14, 15, 16, 17, 18, 19, 20, 58, 59, 21, 22, 23, 24, 25, 26, 27, 28, 29, 30, 31, 32, 33, 34, 35, 36, 37, 38, 39, 40, 41, 42, 43, 44, 45, 46, 47, 60, 61, 62, 63, 64, 65, 66, 67, 68, 48, 49, 50, 51, 52, 53, 54, 55, 56], rfl, rfl, rfl, J, rfl⟩)
set_option maxRecDepth 100000 in
set_option maxHeartbeats 4000000 in
theorem M_clamp_ok (l : Launch) (D : va_G) (z : Nat × Nat × Nat) (b : Nat → Nat) (P : PS) (x : Nat) (y : Nat) (Q : QS) {Bd : Nat} (hi : IV Bd P) (hB : Bd < 1073741824) (hq : RQ Q P) (hx : x < 12) (hy : y < 12) (hb : sv_nc (p_s P) < 4) (hd : (fdB (fun j => decide (12 * sv_cr (p_s P) j + sv_cc (p_s P) j = 12 * y + x)) (sv_nc (p_s P))) = none) : CM l yX9_clamp wsX9_clamp ({ frames := 2, cells := 0, slots := 0, locals := 43 } : Room) D z [.ref (b 0), .int (nI x), .int (nI y)] (wM D b P Q) (fun r w => r = some (.int (nI (sv_nc (p_s P) + 1))) ∧ ∃ Q', RQ Q' (recP P (mkS (sv_g (p_s P)) (upf (sv_cc (p_s P)) (sv_nc (p_s P)) x) (upf (sv_cr (p_s P)) (sv_nc (p_s P)) y) (sv_nc (p_s P) + 1) (sv_se (p_s P)) (sv_fs (p_s P)) (sv_fa (p_s P)) (sv_fk (p_s P)) (sv_ps (p_s P)) (sv_la (p_s P)) (sv_st (p_s P)) (sv_sw (p_s P)) (sv_fl (p_s P)) (sv_sk (p_s P)) (sv_mu (p_s P)))) ∧ w = wM D b (recP P (mkS (sv_g (p_s P)) (upf (sv_cc (p_s P)) (sv_nc (p_s P)) x) (upf (sv_cr (p_s P)) (sv_nc (p_s P)) y) (sv_nc (p_s P) + 1) (sv_se (p_s P)) (sv_fs (p_s P)) (sv_fa (p_s P)) (sv_fk (p_s P)) (sv_ps (p_s P)) (sv_la (p_s P)) (sv_st (p_s P)) (sv_sw (p_s P)) (sv_fl (p_s P)) (sv_sk (p_s P)) (sv_mu (p_s P)))) Q') 0 0 := by
  have hi0 := hi
  obtain ⟨⟨hnc, hcc, hps, hpc, hla, hsm⟩, ho, hh, hsl, hsn, htl, htx⟩ := hi
  have hok := hi0.1
  have hM := hq.1
  exact (kX9_clamp_ok l D z (b 0) (b 1) (b 2) (b 3) (b 4) (b 5) (b 6) (b 7) (b 8) (b 9) (b 10) (b 11) (p_hd P) (p_hs P) (p_tl P) (q_ta Q) (q_iw Q) (q_M Q) (q_B Q) (p_s P) x y (by first | assumption | omega) (by first | assumption | omega) (by first | assumption | omega) (by first | assumption | omega) (by first | assumption | omega) (by first | assumption | omega) (by first | assumption | omega) (by first | assumption | omega)).frameR [0, 5, 6] [1, 2, 3, 4, 7, 8, 9, 10, 11] rfl rfl rfl rfl rfl (fun r w1 hp => by
    obtain ⟨M9, hM9, rfl, rfl⟩ := hp
    exact ⟨_, [9, 0, 1, 2, 3, 10, 11, 4, 5, 6, 7, 8], rfl, rfl, rfl, (mkQ M9 (kwF (q_B Q) (q_M Q) (p_hd P)) (q_K Q) (q_Z Q) (q_me Q) (q_rw Q) (q_ta Q) (q_iw Q)), (RQ_rec hq hi0 hM9), rfl⟩)
set_option maxRecDepth 100000 in
set_option maxHeartbeats 4000000 in
theorem X_unclamp_b1 (l : Launch) (D : va_G) (z : Nat × Nat × Nat) (a : Nat → Nat) (P : PS) (x : Int32) (J : JS) {Bd : Nat} (hi : IV Bd P) (hB : Bd < 1073741824) (hb : rgB x (sv_nc (p_s P)) = false) : CM l yX8_unclamp wsX8_unclamp ({ frames := 5, cells := 0, slots := 0, locals := 109 } : Room) D z [.ref (a 0), .int x] (wX D a P J) (fun r w => r = some (.int (-1)) ∧ ∃ J', w = wX D a P J') 0 0 := by
  have hi0 := hi
  obtain ⟨⟨hnc, hcc, hps, hpc, hla, hsm⟩, ho, hh, hsl, hsn, htl, htx⟩ := hi
  have hok := hi0.1
  exact (kX8_unclamp_b1 l D z (a 0) (a 1) (a 15) (a 18) (a 21) (a 25) (a 69) (p_hs P) (a 31) (a 6) (a 7) (a 8) (a 9) (a 10) (a 11) (p_s P) x (by first | assumption | omega) (by first | assumption | omega)).frameR [0, 6] [1, 2, 3, 4, 5, 7, 8, 9, 10, 11, 12, 13, 14, 15, 16, 17, 18, 19, 20, 21, 22, 23, 24, 25, 26, 27, 28, 29, 30, 31, 32, 33, 34, 35, 36, 37, 38, 39, 40, 41, 42, 43, 44, 45, 46, 47, 48, 49, 50, 51, 52, 53, 54, 55, 56, 57, 58, 59, 60, 61, 62, 63, 64, 65, 66, 67, 68, 69, 70, 71, 72, 73, 74, 75, 76, 77] rfl rfl rfl rfl rfl (fun r w1 hp => by
    obtain ⟨rfl, rfl⟩ := hp
    exact ⟨_, [76, 0, 1, 2, 3, 4, 77, 5, 6, 7, 8, 9, 10, 11, 12, 13, 14, 15, 16, 17, 18, 19, 20, 21, 22, 23, 24, 25, 26, 27, 28, 29, 30, 31, 32, 33, 34, 35, 36, 37, 38, 39, 40, 41, 42, 43, 44, 45, 46, 47, 48, 49, 50, 51, 52, 53, 54, 55, 56, 57, 58, 59, 60, 61, 62, 63, 64, 65, 66, 67, 68, 69, 70, 71, 72, 73, 74, 75], rfl, rfl, rfl, J, rfl⟩)
set_option maxRecDepth 100000 in
set_option maxHeartbeats 4000000 in
theorem M_unclamp_b1 (l : Launch) (D : va_G) (z : Nat × Nat × Nat) (b : Nat → Nat) (P : PS) (x : Int32) (Q : QS) {Bd : Nat} (hi : IV Bd P) (hB : Bd < 1073741824) (hq : RQ Q P) (hb : rgB x (sv_nc (p_s P)) = false) : CM l yX9_unclamp wsX9_unclamp ({ frames := 1, cells := 0, slots := 0, locals := 22 } : Room) D z [.ref (b 0), .int x] (wM D b P Q) (fun r w => r = some (.int (-1)) ∧ ∃ Q', RQ Q' P ∧ w = wM D b P Q') 0 0 := by
  have hi0 := hi
  obtain ⟨⟨hnc, hcc, hps, hpc, hla, hsm⟩, ho, hh, hsl, hsn, htl, htx⟩ := hi
  have hok := hi0.1
  have hM := hq.1
  exact (kX9_unclamp_b1 l D z (b 0) (b 1) (b 2) (b 3) (b 4) (b 5) (b 6) (b 7) (b 8) (b 9) (b 10) (b 11) (p_hd P) (p_hs P) (p_tl P) (q_ta Q) (q_iw Q) (q_M Q) (p_s P) x (by first | assumption | omega) (by first | assumption | omega) (by first | assumption | omega)).frameR [0, 5] [1, 2, 3, 4, 6, 7, 8, 9, 10, 11] rfl rfl rfl rfl rfl (fun r w1 hp => by
    obtain ⟨rfl, rfl⟩ := hp
    exact ⟨_, [10, 0, 1, 2, 3, 11, 4, 5, 6, 7, 8, 9], rfl, rfl, rfl, Q, hq, rfl⟩)
set_option maxRecDepth 100000 in
set_option maxHeartbeats 4000000 in
theorem X_unclamp_ok (l : Launch) (D : va_G) (z : Nat × Nat × Nat) (a : Nat → Nat) (P : PS) (d : Nat) (J : JS) {Bd : Nat} (hi : IV Bd P) (hB : Bd < 1073741824)  : CM l yX8_unclamp wsX8_unclamp ({ frames := 5, cells := 0, slots := 0, locals := 109 } : Room) D z [.ref (a 0), .int (nI d)] (wX D a P J) (fun r w => r = some (.int (nI (sv_nc (p_s P) - 1))) ∧ ∃ J', w = wX D a (recP P (mkS (sv_g (p_s P)) (drf (sv_cc (p_s P)) d (sv_nc (p_s P) - 1 - d)) (drf (sv_cr (p_s P)) d (sv_nc (p_s P) - 1 - d)) (sv_nc (p_s P) - 1) (sv_se (p_s P)) (sv_fs (p_s P)) (sv_fa (p_s P)) (sv_fk (p_s P)) (sv_ps (p_s P)) (sv_la (p_s P)) (sv_st (p_s P)) (sv_sw (p_s P)) (sv_fl (p_s P)) (sv_sk (p_s P)) (sv_mu (p_s P)))) J') 0 0 := by
  have hi0 := hi
  obtain ⟨⟨hnc, hcc, hps, hpc, hla, hsm⟩, ho, hh, hsl, hsn, htl, htx⟩ := hi
  have hok := hi0.1
  rcases (show rkN (p_o P) (p_hd P) = 0 ∨ rkN (p_o P) (p_hd P) = 1 ∨ rkN (p_o P) (p_hd P) = 2 ∨ rkN (p_o P) (p_hd P) = 3 by have := rkN_lt ho hh; omega) with hk | hk | hk | hk
  ·
    rw [recK_e hk]
    exact (kX8_unclamp_ok l D z (a 0) (a 1) (a 15) (a 18) (a 21) (a 25) (a 69) (p_hs P) (a 31) (a 32) (a 33) (a 42) (a 51) (a 60) (a 33) (a 34) (a 35) (a 36) (a 37) (a 38) (a 39) (a 40) (a 41) (a 6) (a 7) (a 8) (a 9) (a 10) (a 11) (a 12) (a 13) (a 14) (p_o P) (p_hd P) (p_sl P 0) (p_s P) d (by first | assumption | omega) (by first | assumption | omega) (by first | assumption | omega) (by first | assumption | omega) (by rw [hk]; rfl) (by first | assumption | omega)).frameR [0, 31, 32, 33, 34, 35, 36, 37, 38, 39, 40, 41, 6, 7, 8, 9, 10, 11, 12, 13, 14] [1, 2, 3, 4, 5, 15, 16, 17, 18, 19, 20, 21, 22, 23, 24, 25, 26, 27, 28, 29, 30, 42, 43, 44, 45, 46, 47, 48, 49, 50, 51, 52, 53, 54, 55, 56, 57, 58, 59, 60, 61, 62, 63, 64, 65, 66, 67, 68, 69, 70, 71, 72, 73, 74, 75, 76, 77] rfl rfl rfl rfl rfl (fun r w1 hp => by
      obtain ⟨rfl, rfl⟩ := hp
      exact ⟨_, [57, 0, 1, 2, 3, 4, 69, 70, 71, 72, 73, 74, 75, 76, 77, 5, 6, 7, 8, 9, 10, 11, 12, 13, 14, 15, 16, 17, 18, 19, 20, 58, 59, 60, 61, 62, 63, 64, 65, 66, 67, 68, 21, 22, 23, 24, 25, 26, 27, 28, 29, 30, 31, 32, 33, 34, 35, 36, 37, 38, 39, 40, 41, 42, 43, 44, 45, 46, 47, 48, 49, 50, 51, 52, 53, 54, 55, 56], rfl, rfl, rfl, J, rfl⟩)
  ·
    rw [recK_e hk]
    exact (kX8_unclamp_ok l D z (a 0) (a 1) (a 15) (a 18) (a 21) (a 25) (a 69) (p_hs P) (a 31) (a 32) (a 33) (a 42) (a 51) (a 60) (a 42) (a 43) (a 44) (a 45) (a 46) (a 47) (a 48) (a 49) (a 50) (a 6) (a 7) (a 8) (a 9) (a 10) (a 11) (a 12) (a 13) (a 14) (p_o P) (p_hd P) (p_sl P 1) (p_s P) d (by first | assumption | omega) (by first | assumption | omega) (by first | assumption | omega) (by first | assumption | omega) (by rw [hk]; rfl) (by first | assumption | omega)).frameR [0, 31, 32, 42, 43, 44, 45, 46, 47, 48, 49, 50, 6, 7, 8, 9, 10, 11, 12, 13, 14] [1, 2, 3, 4, 5, 15, 16, 17, 18, 19, 20, 21, 22, 23, 24, 25, 26, 27, 28, 29, 30, 33, 34, 35, 36, 37, 38, 39, 40, 41, 51, 52, 53, 54, 55, 56, 57, 58, 59, 60, 61, 62, 63, 64, 65, 66, 67, 68, 69, 70, 71, 72, 73, 74, 75, 76, 77] rfl rfl rfl rfl rfl (fun r w1 hp => by
      obtain ⟨rfl, rfl⟩ := hp
      exact ⟨_, [57, 0, 1, 2, 3, 4, 69, 70, 71, 72, 73, 74, 75, 76, 77, 5, 6, 7, 8, 9, 10, 11, 12, 13, 14, 15, 16, 17, 18, 19, 20, 58, 59, 21, 22, 23, 24, 25, 26, 27, 28, 29, 60, 61, 62, 63, 64, 65, 66, 67, 68, 30, 31, 32, 33, 34, 35, 36, 37, 38, 39, 40, 41, 42, 43, 44, 45, 46, 47, 48, 49, 50, 51, 52, 53, 54, 55, 56], rfl, rfl, rfl, J, rfl⟩)
  ·
    rw [recK_e hk]
    exact (kX8_unclamp_ok l D z (a 0) (a 1) (a 15) (a 18) (a 21) (a 25) (a 69) (p_hs P) (a 31) (a 32) (a 33) (a 42) (a 51) (a 60) (a 51) (a 52) (a 53) (a 54) (a 55) (a 56) (a 57) (a 58) (a 59) (a 6) (a 7) (a 8) (a 9) (a 10) (a 11) (a 12) (a 13) (a 14) (p_o P) (p_hd P) (p_sl P 2) (p_s P) d (by first | assumption | omega) (by first | assumption | omega) (by first | assumption | omega) (by first | assumption | omega) (by rw [hk]; rfl) (by first | assumption | omega)).frameR [0, 31, 32, 51, 52, 53, 54, 55, 56, 57, 58, 59, 6, 7, 8, 9, 10, 11, 12, 13, 14] [1, 2, 3, 4, 5, 15, 16, 17, 18, 19, 20, 21, 22, 23, 24, 25, 26, 27, 28, 29, 30, 33, 34, 35, 36, 37, 38, 39, 40, 41, 42, 43, 44, 45, 46, 47, 48, 49, 50, 60, 61, 62, 63, 64, 65, 66, 67, 68, 69, 70, 71, 72, 73, 74, 75, 76, 77] rfl rfl rfl rfl rfl (fun r w1 hp => by
      obtain ⟨rfl, rfl⟩ := hp
      exact ⟨_, [57, 0, 1, 2, 3, 4, 69, 70, 71, 72, 73, 74, 75, 76, 77, 5, 6, 7, 8, 9, 10, 11, 12, 13, 14, 15, 16, 17, 18, 19, 20, 58, 59, 21, 22, 23, 24, 25, 26, 27, 28, 29, 30, 31, 32, 33, 34, 35, 36, 37, 38, 60, 61, 62, 63, 64, 65, 66, 67, 68, 39, 40, 41, 42, 43, 44, 45, 46, 47, 48, 49, 50, 51, 52, 53, 54, 55, 56], rfl, rfl, rfl, J, rfl⟩)
  ·
    rw [recK_e hk]
    exact (kX8_unclamp_ok l D z (a 0) (a 1) (a 15) (a 18) (a 21) (a 25) (a 69) (p_hs P) (a 31) (a 32) (a 33) (a 42) (a 51) (a 60) (a 60) (a 61) (a 62) (a 63) (a 64) (a 65) (a 66) (a 67) (a 68) (a 6) (a 7) (a 8) (a 9) (a 10) (a 11) (a 12) (a 13) (a 14) (p_o P) (p_hd P) (p_sl P 3) (p_s P) d (by first | assumption | omega) (by first | assumption | omega) (by first | assumption | omega) (by first | assumption | omega) (by rw [hk]; rfl) (by first | assumption | omega)).frameR [0, 31, 32, 60, 61, 62, 63, 64, 65, 66, 67, 68, 6, 7, 8, 9, 10, 11, 12, 13, 14] [1, 2, 3, 4, 5, 15, 16, 17, 18, 19, 20, 21, 22, 23, 24, 25, 26, 27, 28, 29, 30, 33, 34, 35, 36, 37, 38, 39, 40, 41, 42, 43, 44, 45, 46, 47, 48, 49, 50, 51, 52, 53, 54, 55, 56, 57, 58, 59, 69, 70, 71, 72, 73, 74, 75, 76, 77] rfl rfl rfl rfl rfl (fun r w1 hp => by
      obtain ⟨rfl, rfl⟩ := hp
      exact ⟨_, [57, 0, 1, 2, 3, 4, 69, 70, 71, 72, 73, 74, 75, 76, 77, 5, 6, 7, 8, 9, 10, 11, 12, 13, 14, 15, 16, 17, 18, 19, 20, 58, 59, 21, 22, 23, 24, 25, 26, 27, 28, 29, 30, 31, 32, 33, 34, 35, 36, 37, 38, 39, 40, 41, 42, 43, 44, 45, 46, 47, 60, 61, 62, 63, 64, 65, 66, 67, 68, 48, 49, 50, 51, 52, 53, 54, 55, 56], rfl, rfl, rfl, J, rfl⟩)
set_option maxRecDepth 100000 in
set_option maxHeartbeats 4000000 in
theorem M_unclamp_ok (l : Launch) (D : va_G) (z : Nat × Nat × Nat) (b : Nat → Nat) (P : PS) (d : Nat) (Q : QS) {Bd : Nat} (hi : IV Bd P) (hB : Bd < 1073741824) (hq : RQ Q P) (hd : d < sv_nc (p_s P)) : CM l yX9_unclamp wsX9_unclamp ({ frames := 1, cells := 0, slots := 0, locals := 22 } : Room) D z [.ref (b 0), .int (nI d)] (wM D b P Q) (fun r w => r = some (.int (nI (sv_nc (p_s P) - 1))) ∧ ∃ Q', RQ Q' (recP P (mkS (sv_g (p_s P)) (drf (sv_cc (p_s P)) d (sv_nc (p_s P) - 1 - d)) (drf (sv_cr (p_s P)) d (sv_nc (p_s P) - 1 - d)) (sv_nc (p_s P) - 1) (sv_se (p_s P)) (sv_fs (p_s P)) (sv_fa (p_s P)) (sv_fk (p_s P)) (sv_ps (p_s P)) (sv_la (p_s P)) (sv_st (p_s P)) (sv_sw (p_s P)) (sv_fl (p_s P)) (sv_sk (p_s P)) (sv_mu (p_s P)))) ∧ w = wM D b (recP P (mkS (sv_g (p_s P)) (drf (sv_cc (p_s P)) d (sv_nc (p_s P) - 1 - d)) (drf (sv_cr (p_s P)) d (sv_nc (p_s P) - 1 - d)) (sv_nc (p_s P) - 1) (sv_se (p_s P)) (sv_fs (p_s P)) (sv_fa (p_s P)) (sv_fk (p_s P)) (sv_ps (p_s P)) (sv_la (p_s P)) (sv_st (p_s P)) (sv_sw (p_s P)) (sv_fl (p_s P)) (sv_sk (p_s P)) (sv_mu (p_s P)))) Q') 0 0 := by
  have hi0 := hi
  obtain ⟨⟨hnc, hcc, hps, hpc, hla, hsm⟩, ho, hh, hsl, hsn, htl, htx⟩ := hi
  have hok := hi0.1
  have hM := hq.1
  exact (kX9_unclamp_ok l D z (b 0) (b 1) (b 2) (b 3) (b 4) (b 5) (b 6) (b 7) (b 8) (b 9) (b 10) (b 11) (p_hd P) (p_hs P) (p_tl P) (q_ta Q) (q_iw Q) (q_M Q) (q_B Q) (p_s P) d (by first | assumption | omega) (by first | assumption | omega) (by first | assumption | omega) (by first | assumption | omega)).frameR [0, 5, 6] [1, 2, 3, 4, 7, 8, 9, 10, 11] rfl rfl rfl rfl rfl (fun r w1 hp => by
    obtain ⟨M9, hM9, rfl, rfl⟩ := hp
    exact ⟨_, [9, 0, 1, 2, 3, 10, 11, 4, 5, 6, 7, 8], rfl, rfl, rfl, (mkQ M9 (kwF (q_B Q) (q_M Q) (p_hd P)) (q_K Q) (q_Z Q) (q_me Q) (q_rw Q) (q_ta Q) (q_iw Q)), (RQ_rec hq hi0 hM9), rfl⟩)
set_option maxRecDepth 100000 in
set_option maxHeartbeats 4000000 in
theorem X_set_b1 (l : Launch) (D : va_G) (z : Nat × Nat × Nat) (a : Nat → Nat) (P : PS) (w : Int32) (x : Int32) (J : JS) {Bd : Nat} (hi : IV Bd P) (hB : Bd < 1073741824) (hb : w < 0 ∨ nI 4 ≤ w) : CM l yX8_set wsX8_set ({ frames := 5, cells := 0, slots := 0, locals := 109 } : Room) D z [.ref (a 0), .int w, .int x] (wX D a P J) (fun r w => r = some (.int (-2)) ∧ ∃ J', w = wX D a P J') 0 0 := by
  have hi0 := hi
  obtain ⟨⟨hnc, hcc, hps, hpc, hla, hsm⟩, ho, hh, hsl, hsn, htl, htx⟩ := hi
  have hok := hi0.1
  exact (kX8_set_b1 l D z (a 0) (a 1) (a 15) (a 18) (a 21) (a 25) (a 69) (p_hs P) (a 31) (a 6) w x (by first | assumption | omega)).frameR [0] [1, 2, 3, 4, 5, 6, 7, 8, 9, 10, 11, 12, 13, 14, 15, 16, 17, 18, 19, 20, 21, 22, 23, 24, 25, 26, 27, 28, 29, 30, 31, 32, 33, 34, 35, 36, 37, 38, 39, 40, 41, 42, 43, 44, 45, 46, 47, 48, 49, 50, 51, 52, 53, 54, 55, 56, 57, 58, 59, 60, 61, 62, 63, 64, 65, 66, 67, 68, 69, 70, 71, 72, 73, 74, 75, 76, 77] rfl rfl rfl rfl rfl (fun r w1 hp => by
    obtain ⟨rfl, rfl⟩ := hp
    exact ⟨_, [77, 0, 1, 2, 3, 4, 5, 6, 7, 8, 9, 10, 11, 12, 13, 14, 15, 16, 17, 18, 19, 20, 21, 22, 23, 24, 25, 26, 27, 28, 29, 30, 31, 32, 33, 34, 35, 36, 37, 38, 39, 40, 41, 42, 43, 44, 45, 46, 47, 48, 49, 50, 51, 52, 53, 54, 55, 56, 57, 58, 59, 60, 61, 62, 63, 64, 65, 66, 67, 68, 69, 70, 71, 72, 73, 74, 75, 76], rfl, rfl, rfl, J, rfl⟩)
set_option maxRecDepth 100000 in
set_option maxHeartbeats 4000000 in
theorem M_set_b1 (l : Launch) (D : va_G) (z : Nat × Nat × Nat) (b : Nat → Nat) (P : PS) (w : Int32) (x : Int32) (Q : QS) {Bd : Nat} (hi : IV Bd P) (hB : Bd < 1073741824) (hq : RQ Q P) (hb : rgB w 4 = false) : CM l yX9_set wsX9_set ({ frames := 1, cells := 0, slots := 0, locals := 22 } : Room) D z [.ref (b 0), .int w, .int x] (wM D b P Q) (fun r w => r = some (.int (-2)) ∧ ∃ Q', RQ Q' P ∧ w = wM D b P Q') 0 0 := by
  have hi0 := hi
  obtain ⟨⟨hnc, hcc, hps, hpc, hla, hsm⟩, ho, hh, hsl, hsn, htl, htx⟩ := hi
  have hok := hi0.1
  have hM := hq.1
  exact (kX9_set_b1 l D z (b 0) (b 1) (b 2) (b 3) (b 4) (b 5) (b 6) (b 7) (b 8) (b 9) (b 10) (b 11) (p_hd P) (p_hs P) (p_tl P) (q_ta Q) (q_iw Q) w x (by first | assumption | omega)).frameR [0] [1, 2, 3, 4, 5, 6, 7, 8, 9, 10, 11] rfl rfl rfl rfl rfl (fun r w1 hp => by
    obtain ⟨rfl, rfl⟩ := hp
    exact ⟨_, [11, 0, 1, 2, 3, 4, 5, 6, 7, 8, 9, 10], rfl, rfl, rfl, Q, hq, rfl⟩)
set_option maxRecDepth 100000 in
set_option maxHeartbeats 4000000 in
theorem X_set_b2 (l : Launch) (D : va_G) (z : Nat × Nat × Nat) (a : Nat → Nat) (P : PS) (w : Nat) (x : Int32) (J : JS) {Bd : Nat} (hi : IV Bd P) (hB : Bd < 1073741824) (hw : w < 4) (hb : x < zL w ∨ zM w < x) : CM l yX8_set wsX8_set ({ frames := 5, cells := 0, slots := 0, locals := 109 } : Room) D z [.ref (a 0), .int (nI w), .int x] (wX D a P J) (fun r w => r = some (.int (-2)) ∧ ∃ J', w = wX D a P J') 0 0 := by
  have hi0 := hi
  obtain ⟨⟨hnc, hcc, hps, hpc, hla, hsm⟩, ho, hh, hsl, hsn, htl, htx⟩ := hi
  have hok := hi0.1
  exact (kX8_set_b2 l D z (a 0) (a 1) (a 15) (a 18) (a 21) (a 25) (a 69) (p_hs P) (a 31) (a 6) w x (by first | assumption | omega) (by first | assumption | omega)).frameR [0] [1, 2, 3, 4, 5, 6, 7, 8, 9, 10, 11, 12, 13, 14, 15, 16, 17, 18, 19, 20, 21, 22, 23, 24, 25, 26, 27, 28, 29, 30, 31, 32, 33, 34, 35, 36, 37, 38, 39, 40, 41, 42, 43, 44, 45, 46, 47, 48, 49, 50, 51, 52, 53, 54, 55, 56, 57, 58, 59, 60, 61, 62, 63, 64, 65, 66, 67, 68, 69, 70, 71, 72, 73, 74, 75, 76, 77] rfl rfl rfl rfl rfl (fun r w1 hp => by
    obtain ⟨rfl, rfl⟩ := hp
    exact ⟨_, [77, 0, 1, 2, 3, 4, 5, 6, 7, 8, 9, 10, 11, 12, 13, 14, 15, 16, 17, 18, 19, 20, 21, 22, 23, 24, 25, 26, 27, 28, 29, 30, 31, 32, 33, 34, 35, 36, 37, 38, 39, 40, 41, 42, 43, 44, 45, 46, 47, 48, 49, 50, 51, 52, 53, 54, 55, 56, 57, 58, 59, 60, 61, 62, 63, 64, 65, 66, 67, 68, 69, 70, 71, 72, 73, 74, 75, 76], rfl, rfl, rfl, J, rfl⟩)
set_option maxRecDepth 100000 in
set_option maxHeartbeats 4000000 in
theorem M_set_b2 (l : Launch) (D : va_G) (z : Nat × Nat × Nat) (b : Nat → Nat) (P : PS) (w : Nat) (x : Int32) (Q : QS) {Bd : Nat} (hi : IV Bd P) (hB : Bd < 1073741824) (hq : RQ Q P) (hw : w < 4) (hb : x < zL w ∨ zM w < x) : CM l yX9_set wsX9_set ({ frames := 1, cells := 0, slots := 0, locals := 22 } : Room) D z [.ref (b 0), .int (nI w), .int x] (wM D b P Q) (fun r w => r = some (.int (-2)) ∧ ∃ Q', RQ Q' P ∧ w = wM D b P Q') 0 0 := by
  have hi0 := hi
  obtain ⟨⟨hnc, hcc, hps, hpc, hla, hsm⟩, ho, hh, hsl, hsn, htl, htx⟩ := hi
  have hok := hi0.1
  have hM := hq.1
  exact (kX9_set_b2 l D z (b 0) (b 1) (b 2) (b 3) (b 4) (b 5) (b 6) (b 7) (b 8) (b 9) (b 10) (b 11) (p_hd P) (p_hs P) (p_tl P) (q_ta Q) (q_iw Q) w x (by first | assumption | omega) (by first | assumption | omega)).frameR [0] [1, 2, 3, 4, 5, 6, 7, 8, 9, 10, 11] rfl rfl rfl rfl rfl (fun r w1 hp => by
    obtain ⟨rfl, rfl⟩ := hp
    exact ⟨_, [11, 0, 1, 2, 3, 4, 5, 6, 7, 8, 9, 10], rfl, rfl, rfl, Q, hq, rfl⟩)
set_option maxRecDepth 100000 in
set_option maxHeartbeats 4000000 in
theorem X_set_b3 (l : Launch) (D : va_G) (z : Nat × Nat × Nat) (a : Nat → Nat) (P : PS) (w : Nat) (x : Int32) (J : JS) {Bd : Nat} (hi : IV Bd P) (hB : Bd < 1073741824) (hw : w < 4) (hb : x = sv_se (p_s P) w) : CM l yX8_set wsX8_set ({ frames := 5, cells := 0, slots := 0, locals := 109 } : Room) D z [.ref (a 0), .int (nI w), .int x] (wX D a P J) (fun r w => r = some (.int (-5)) ∧ ∃ J', w = wX D a P J') 0 0 := by
  have hi0 := hi
  obtain ⟨⟨hnc, hcc, hps, hpc, hla, hsm⟩, ho, hh, hsl, hsn, htl, htx⟩ := hi
  have hok := hi0.1
  exact (kX8_set_b3 l D z (a 0) (a 1) (a 15) (a 18) (a 21) (a 25) (a 69) (p_hs P) (a 31) (a 6) (a 7) (a 8) (a 9) (a 10) (a 11) (p_s P) w x (by first | assumption | omega) (by first | assumption | omega) (by first | assumption | omega) (by first | assumption | omega)).frameR [0, 6, 10] [1, 2, 3, 4, 5, 7, 8, 9, 11, 12, 13, 14, 15, 16, 17, 18, 19, 20, 21, 22, 23, 24, 25, 26, 27, 28, 29, 30, 31, 32, 33, 34, 35, 36, 37, 38, 39, 40, 41, 42, 43, 44, 45, 46, 47, 48, 49, 50, 51, 52, 53, 54, 55, 56, 57, 58, 59, 60, 61, 62, 63, 64, 65, 66, 67, 68, 69, 70, 71, 72, 73, 74, 75, 76, 77] rfl rfl rfl rfl rfl (fun r w1 hp => by
    obtain ⟨rfl, rfl⟩ := hp
    exact ⟨_, [75, 0, 1, 2, 3, 4, 76, 5, 6, 7, 77, 8, 9, 10, 11, 12, 13, 14, 15, 16, 17, 18, 19, 20, 21, 22, 23, 24, 25, 26, 27, 28, 29, 30, 31, 32, 33, 34, 35, 36, 37, 38, 39, 40, 41, 42, 43, 44, 45, 46, 47, 48, 49, 50, 51, 52, 53, 54, 55, 56, 57, 58, 59, 60, 61, 62, 63, 64, 65, 66, 67, 68, 69, 70, 71, 72, 73, 74], rfl, rfl, rfl, J, rfl⟩)
set_option maxRecDepth 100000 in
set_option maxHeartbeats 4000000 in
theorem M_set_b3 (l : Launch) (D : va_G) (z : Nat × Nat × Nat) (b : Nat → Nat) (P : PS) (w : Nat) (x : Int32) (Q : QS) {Bd : Nat} (hi : IV Bd P) (hB : Bd < 1073741824) (hq : RQ Q P) (hw : w < 4) (hb : x = sv_se (p_s P) w) : CM l yX9_set wsX9_set ({ frames := 1, cells := 0, slots := 0, locals := 22 } : Room) D z [.ref (b 0), .int (nI w), .int x] (wM D b P Q) (fun r w => r = some (.int (-5)) ∧ ∃ Q', RQ Q' P ∧ w = wM D b P Q') 0 0 := by
  have hi0 := hi
  obtain ⟨⟨hnc, hcc, hps, hpc, hla, hsm⟩, ho, hh, hsl, hsn, htl, htx⟩ := hi
  have hok := hi0.1
  have hM := hq.1
  exact (kX9_set_b3 l D z (b 0) (b 1) (b 2) (b 3) (b 4) (b 5) (b 6) (b 7) (b 8) (b 9) (b 10) (b 11) (p_hd P) (p_hs P) (p_tl P) (q_ta Q) (q_iw Q) (q_M Q) (p_s P) w x (by first | assumption | omega) (by first | assumption | omega) (by first | assumption | omega) (by first | assumption | omega) (by first | assumption | omega)).frameR [0, 5] [1, 2, 3, 4, 6, 7, 8, 9, 10, 11] rfl rfl rfl rfl rfl (fun r w1 hp => by
    obtain ⟨rfl, rfl⟩ := hp
    exact ⟨_, [10, 0, 1, 2, 3, 11, 4, 5, 6, 7, 8, 9], rfl, rfl, rfl, Q, hq, rfl⟩)
set_option maxRecDepth 100000 in
set_option maxHeartbeats 4000000 in
theorem X_set_ok (l : Launch) (D : va_G) (z : Nat × Nat × Nat) (a : Nat → Nat) (P : PS) (w : Nat) (x : Int32) (J : JS) {Bd : Nat} (hi : IV Bd P) (hB : Bd < 1073741824) (hw : w < 4) (hb : ¬ x = sv_se (p_s P) w) : CM l yX8_set wsX8_set ({ frames := 5, cells := 0, slots := 0, locals := 109 } : Room) D z [.ref (a 0), .int (nI w), .int x] (wX D a P J) (fun r w => r = some (.int (sv_se (p_s P) w)) ∧ ∃ J', w = wX D a (recP P (mkS (sv_g (p_s P)) (sv_cc (p_s P)) (sv_cr (p_s P)) (sv_nc (p_s P)) (upd (sv_se (p_s P)) w x) (sv_fs (p_s P)) (sv_fa (p_s P)) (sv_fk (p_s P)) (sv_ps (p_s P)) (sv_la (p_s P)) (sv_st (p_s P)) (sv_sw (p_s P)) (sv_fl (p_s P)) (sv_sk (p_s P)) (sv_mu (p_s P)))) J') 0 0 := by
  have hi0 := hi
  obtain ⟨⟨hnc, hcc, hps, hpc, hla, hsm⟩, ho, hh, hsl, hsn, htl, htx⟩ := hi
  have hok := hi0.1
  rcases (show rkN (p_o P) (p_hd P) = 0 ∨ rkN (p_o P) (p_hd P) = 1 ∨ rkN (p_o P) (p_hd P) = 2 ∨ rkN (p_o P) (p_hd P) = 3 by have := rkN_lt ho hh; omega) with hk | hk | hk | hk
  ·
    rw [recK_e hk]
    exact (kX8_set_ok l D z (a 0) (a 1) (a 15) (a 18) (a 21) (a 25) (a 69) (p_hs P) (a 31) (a 32) (a 33) (a 42) (a 51) (a 60) (a 33) (a 34) (a 35) (a 36) (a 37) (a 38) (a 39) (a 40) (a 41) (a 6) (a 7) (a 8) (a 9) (a 10) (a 11) (a 12) (a 13) (a 14) (p_o P) (p_hd P) (p_sl P 0) (p_s P) w x (by first | assumption | omega) (by first | assumption | omega) (by first | assumption | omega) (by first | assumption | omega) (by first | assumption | omega) (by first | assumption | omega) (by rw [hk]; rfl) (by first | assumption | omega)).frameR [0, 31, 32, 33, 34, 35, 36, 37, 38, 39, 40, 41, 6, 7, 8, 9, 10, 11, 12, 13, 14] [1, 2, 3, 4, 5, 15, 16, 17, 18, 19, 20, 21, 22, 23, 24, 25, 26, 27, 28, 29, 30, 42, 43, 44, 45, 46, 47, 48, 49, 50, 51, 52, 53, 54, 55, 56, 57, 58, 59, 60, 61, 62, 63, 64, 65, 66, 67, 68, 69, 70, 71, 72, 73, 74, 75, 76, 77] rfl rfl rfl rfl rfl (fun r w1 hp => by
      obtain ⟨rfl, rfl⟩ := hp
      exact ⟨_, [57, 0, 1, 2, 3, 4, 69, 70, 71, 72, 73, 74, 75, 76, 77, 5, 6, 7, 8, 9, 10, 11, 12, 13, 14, 15, 16, 17, 18, 19, 20, 58, 59, 60, 61, 62, 63, 64, 65, 66, 67, 68, 21, 22, 23, 24, 25, 26, 27, 28, 29, 30, 31, 32, 33, 34, 35, 36, 37, 38, 39, 40, 41, 42, 43, 44, 45, 46, 47, 48, 49, 50, 51, 52, 53, 54, 55, 56], rfl, rfl, rfl, J, rfl⟩)
  ·
    rw [recK_e hk]
    exact (kX8_set_ok l D z (a 0) (a 1) (a 15) (a 18) (a 21) (a 25) (a 69) (p_hs P) (a 31) (a 32) (a 33) (a 42) (a 51) (a 60) (a 42) (a 43) (a 44) (a 45) (a 46) (a 47) (a 48) (a 49) (a 50) (a 6) (a 7) (a 8) (a 9) (a 10) (a 11) (a 12) (a 13) (a 14) (p_o P) (p_hd P) (p_sl P 1) (p_s P) w x (by first | assumption | omega) (by first | assumption | omega) (by first | assumption | omega) (by first | assumption | omega) (by first | assumption | omega) (by first | assumption | omega) (by rw [hk]; rfl) (by first | assumption | omega)).frameR [0, 31, 32, 42, 43, 44, 45, 46, 47, 48, 49, 50, 6, 7, 8, 9, 10, 11, 12, 13, 14] [1, 2, 3, 4, 5, 15, 16, 17, 18, 19, 20, 21, 22, 23, 24, 25, 26, 27, 28, 29, 30, 33, 34, 35, 36, 37, 38, 39, 40, 41, 51, 52, 53, 54, 55, 56, 57, 58, 59, 60, 61, 62, 63, 64, 65, 66, 67, 68, 69, 70, 71, 72, 73, 74, 75, 76, 77] rfl rfl rfl rfl rfl (fun r w1 hp => by
      obtain ⟨rfl, rfl⟩ := hp
      exact ⟨_, [57, 0, 1, 2, 3, 4, 69, 70, 71, 72, 73, 74, 75, 76, 77, 5, 6, 7, 8, 9, 10, 11, 12, 13, 14, 15, 16, 17, 18, 19, 20, 58, 59, 21, 22, 23, 24, 25, 26, 27, 28, 29, 60, 61, 62, 63, 64, 65, 66, 67, 68, 30, 31, 32, 33, 34, 35, 36, 37, 38, 39, 40, 41, 42, 43, 44, 45, 46, 47, 48, 49, 50, 51, 52, 53, 54, 55, 56], rfl, rfl, rfl, J, rfl⟩)
  ·
    rw [recK_e hk]
    exact (kX8_set_ok l D z (a 0) (a 1) (a 15) (a 18) (a 21) (a 25) (a 69) (p_hs P) (a 31) (a 32) (a 33) (a 42) (a 51) (a 60) (a 51) (a 52) (a 53) (a 54) (a 55) (a 56) (a 57) (a 58) (a 59) (a 6) (a 7) (a 8) (a 9) (a 10) (a 11) (a 12) (a 13) (a 14) (p_o P) (p_hd P) (p_sl P 2) (p_s P) w x (by first | assumption | omega) (by first | assumption | omega) (by first | assumption | omega) (by first | assumption | omega) (by first | assumption | omega) (by first | assumption | omega) (by rw [hk]; rfl) (by first | assumption | omega)).frameR [0, 31, 32, 51, 52, 53, 54, 55, 56, 57, 58, 59, 6, 7, 8, 9, 10, 11, 12, 13, 14] [1, 2, 3, 4, 5, 15, 16, 17, 18, 19, 20, 21, 22, 23, 24, 25, 26, 27, 28, 29, 30, 33, 34, 35, 36, 37, 38, 39, 40, 41, 42, 43, 44, 45, 46, 47, 48, 49, 50, 60, 61, 62, 63, 64, 65, 66, 67, 68, 69, 70, 71, 72, 73, 74, 75, 76, 77] rfl rfl rfl rfl rfl (fun r w1 hp => by
      obtain ⟨rfl, rfl⟩ := hp
      exact ⟨_, [57, 0, 1, 2, 3, 4, 69, 70, 71, 72, 73, 74, 75, 76, 77, 5, 6, 7, 8, 9, 10, 11, 12, 13, 14, 15, 16, 17, 18, 19, 20, 58, 59, 21, 22, 23, 24, 25, 26, 27, 28, 29, 30, 31, 32, 33, 34, 35, 36, 37, 38, 60, 61, 62, 63, 64, 65, 66, 67, 68, 39, 40, 41, 42, 43, 44, 45, 46, 47, 48, 49, 50, 51, 52, 53, 54, 55, 56], rfl, rfl, rfl, J, rfl⟩)
  ·
    rw [recK_e hk]
    exact (kX8_set_ok l D z (a 0) (a 1) (a 15) (a 18) (a 21) (a 25) (a 69) (p_hs P) (a 31) (a 32) (a 33) (a 42) (a 51) (a 60) (a 60) (a 61) (a 62) (a 63) (a 64) (a 65) (a 66) (a 67) (a 68) (a 6) (a 7) (a 8) (a 9) (a 10) (a 11) (a 12) (a 13) (a 14) (p_o P) (p_hd P) (p_sl P 3) (p_s P) w x (by first | assumption | omega) (by first | assumption | omega) (by first | assumption | omega) (by first | assumption | omega) (by first | assumption | omega) (by first | assumption | omega) (by rw [hk]; rfl) (by first | assumption | omega)).frameR [0, 31, 32, 60, 61, 62, 63, 64, 65, 66, 67, 68, 6, 7, 8, 9, 10, 11, 12, 13, 14] [1, 2, 3, 4, 5, 15, 16, 17, 18, 19, 20, 21, 22, 23, 24, 25, 26, 27, 28, 29, 30, 33, 34, 35, 36, 37, 38, 39, 40, 41, 42, 43, 44, 45, 46, 47, 48, 49, 50, 51, 52, 53, 54, 55, 56, 57, 58, 59, 69, 70, 71, 72, 73, 74, 75, 76, 77] rfl rfl rfl rfl rfl (fun r w1 hp => by
      obtain ⟨rfl, rfl⟩ := hp
      exact ⟨_, [57, 0, 1, 2, 3, 4, 69, 70, 71, 72, 73, 74, 75, 76, 77, 5, 6, 7, 8, 9, 10, 11, 12, 13, 14, 15, 16, 17, 18, 19, 20, 58, 59, 21, 22, 23, 24, 25, 26, 27, 28, 29, 30, 31, 32, 33, 34, 35, 36, 37, 38, 39, 40, 41, 42, 43, 44, 45, 46, 47, 60, 61, 62, 63, 64, 65, 66, 67, 68, 48, 49, 50, 51, 52, 53, 54, 55, 56], rfl, rfl, rfl, J, rfl⟩)
set_option maxRecDepth 100000 in
set_option maxHeartbeats 4000000 in
theorem M_set_ok (l : Launch) (D : va_G) (z : Nat × Nat × Nat) (b : Nat → Nat) (P : PS) (w : Nat) (x : Int32) (Q : QS) {Bd : Nat} (hi : IV Bd P) (hB : Bd < 1073741824) (hq : RQ Q P) (hw : w < 4) (hb : ¬ x = sv_se (p_s P) w) : CM l yX9_set wsX9_set ({ frames := 1, cells := 0, slots := 0, locals := 22 } : Room) D z [.ref (b 0), .int (nI w), .int x] (wM D b P Q) (fun r w => r = some (.int (sv_se (p_s P) w)) ∧ ∃ Q', RQ Q' (recP P (mkS (sv_g (p_s P)) (sv_cc (p_s P)) (sv_cr (p_s P)) (sv_nc (p_s P)) (upd (sv_se (p_s P)) w x) (sv_fs (p_s P)) (sv_fa (p_s P)) (sv_fk (p_s P)) (sv_ps (p_s P)) (sv_la (p_s P)) (sv_st (p_s P)) (sv_sw (p_s P)) (sv_fl (p_s P)) (sv_sk (p_s P)) (sv_mu (p_s P)))) ∧ w = wM D b (recP P (mkS (sv_g (p_s P)) (sv_cc (p_s P)) (sv_cr (p_s P)) (sv_nc (p_s P)) (upd (sv_se (p_s P)) w x) (sv_fs (p_s P)) (sv_fa (p_s P)) (sv_fk (p_s P)) (sv_ps (p_s P)) (sv_la (p_s P)) (sv_st (p_s P)) (sv_sw (p_s P)) (sv_fl (p_s P)) (sv_sk (p_s P)) (sv_mu (p_s P)))) Q') 0 0 := by
  have hi0 := hi
  obtain ⟨⟨hnc, hcc, hps, hpc, hla, hsm⟩, ho, hh, hsl, hsn, htl, htx⟩ := hi
  have hok := hi0.1
  have hM := hq.1
  exact (kX9_set_ok l D z (b 0) (b 1) (b 2) (b 3) (b 4) (b 5) (b 6) (b 7) (b 8) (b 9) (b 10) (b 11) (p_hd P) (p_hs P) (p_tl P) (q_ta Q) (q_iw Q) (q_M Q) (q_B Q) (p_s P) w x (by first | assumption | omega) (by first | assumption | omega) (by first | assumption | omega) (by first | assumption | omega) (by first | assumption | omega) (by first | assumption | omega)).frameR [0, 5, 6] [1, 2, 3, 4, 7, 8, 9, 10, 11] rfl rfl rfl rfl rfl (fun r w1 hp => by
    obtain ⟨M9, hM9, rfl, rfl⟩ := hp
    exact ⟨_, [9, 0, 1, 2, 3, 10, 11, 4, 5, 6, 7, 8], rfl, rfl, rfl, (mkQ M9 (kwF (q_B Q) (q_M Q) (p_hd P)) (q_K Q) (q_Z Q) (q_me Q) (q_rw Q) (q_ta Q) (q_iw Q)), (RQ_rec hq hi0 hM9), rfl⟩)
set_option maxRecDepth 100000 in
set_option maxHeartbeats 4000000 in
theorem X_bow_b1 (l : Launch) (D : va_G) (z : Nat × Nat × Nat) (a : Nat → Nat) (P : PS) (x : Int32) (y : Int32) (k : Int32) (J : JS) {Bd : Nat} (hi : IV Bd P) (hB : Bd < 1073741824) (hb : (rgB x 4 && rgB y 12) = false) : CM l yX8_bow wsX8_bow ({ frames := 5, cells := 0, slots := 0, locals := 109 } : Room) D z [.ref (a 0), .int x, .int y, .int k] (wX D a P J) (fun r w => r = some (.int (-1)) ∧ ∃ J', w = wX D a P J') 0 0 := by
  have hi0 := hi
  obtain ⟨⟨hnc, hcc, hps, hpc, hla, hsm⟩, ho, hh, hsl, hsn, htl, htx⟩ := hi
  have hok := hi0.1
  exact (kX8_bow_b1 l D z (a 0) (a 1) (a 15) (a 18) (a 21) (a 25) (a 69) (p_hs P) (a 31) (a 6) x y k (by first | assumption | omega)).frameR [0] [1, 2, 3, 4, 5, 6, 7, 8, 9, 10, 11, 12, 13, 14, 15, 16, 17, 18, 19, 20, 21, 22, 23, 24, 25, 26, 27, 28, 29, 30, 31, 32, 33, 34, 35, 36, 37, 38, 39, 40, 41, 42, 43, 44, 45, 46, 47, 48, 49, 50, 51, 52, 53, 54, 55, 56, 57, 58, 59, 60, 61, 62, 63, 64, 65, 66, 67, 68, 69, 70, 71, 72, 73, 74, 75, 76, 77] rfl rfl rfl rfl rfl (fun r w1 hp => by
    obtain ⟨rfl, rfl⟩ := hp
    exact ⟨_, [77, 0, 1, 2, 3, 4, 5, 6, 7, 8, 9, 10, 11, 12, 13, 14, 15, 16, 17, 18, 19, 20, 21, 22, 23, 24, 25, 26, 27, 28, 29, 30, 31, 32, 33, 34, 35, 36, 37, 38, 39, 40, 41, 42, 43, 44, 45, 46, 47, 48, 49, 50, 51, 52, 53, 54, 55, 56, 57, 58, 59, 60, 61, 62, 63, 64, 65, 66, 67, 68, 69, 70, 71, 72, 73, 74, 75, 76], rfl, rfl, rfl, J, rfl⟩)
set_option maxRecDepth 100000 in
set_option maxHeartbeats 4000000 in
theorem M_bow_b1 (l : Launch) (D : va_G) (z : Nat × Nat × Nat) (b : Nat → Nat) (P : PS) (x : Int32) (y : Int32) (k : Int32) (Q : QS) {Bd : Nat} (hi : IV Bd P) (hB : Bd < 1073741824) (hq : RQ Q P) (hb : (rgB x 4 && rgB y 12) = false) : CM l yX9_bow wsX9_bow ({ frames := 2, cells := 0, slots := 0, locals := 43 } : Room) D z [.ref (b 0), .int x, .int y, .int k] (wM D b P Q) (fun r w => r = some (.int (-1)) ∧ ∃ Q', RQ Q' P ∧ w = wM D b P Q') 0 0 := by
  have hi0 := hi
  obtain ⟨⟨hnc, hcc, hps, hpc, hla, hsm⟩, ho, hh, hsl, hsn, htl, htx⟩ := hi
  have hok := hi0.1
  have hM := hq.1
  exact (kX9_bow_b1 l D z (b 0) (b 1) (b 2) (b 3) (b 4) (b 5) (b 6) (b 7) (b 8) (b 9) (b 10) (b 11) (p_hd P) (p_hs P) (p_tl P) (q_ta Q) (q_iw Q) x y k (by first | assumption | omega)).frameR [0] [1, 2, 3, 4, 5, 6, 7, 8, 9, 10, 11] rfl rfl rfl rfl rfl (fun r w1 hp => by
    obtain ⟨rfl, rfl⟩ := hp
    exact ⟨_, [11, 0, 1, 2, 3, 4, 5, 6, 7, 8, 9, 10], rfl, rfl, rfl, Q, hq, rfl⟩)
set_option maxRecDepth 100000 in
set_option maxHeartbeats 4000000 in
theorem X_bow_b2 (l : Launch) (D : va_G) (z : Nat × Nat × Nat) (a : Nat → Nat) (P : PS) (x : Nat) (y : Nat) (k : Int32) (J : JS) {Bd : Nat} (hi : IV Bd P) (hB : Bd < 1073741824) (hx : x < 4) (hy : y < 12) (hb : k < nI 1 ∨ nI 20 < k) : CM l yX8_bow wsX8_bow ({ frames := 5, cells := 0, slots := 0, locals := 109 } : Room) D z [.ref (a 0), .int (nI x), .int (nI y), .int k] (wX D a P J) (fun r w => r = some (.int (-2)) ∧ ∃ J', w = wX D a P J') 0 0 := by
  have hi0 := hi
  obtain ⟨⟨hnc, hcc, hps, hpc, hla, hsm⟩, ho, hh, hsl, hsn, htl, htx⟩ := hi
  have hok := hi0.1
  exact (kX8_bow_b2 l D z (a 0) (a 1) (a 15) (a 18) (a 21) (a 25) (a 69) (p_hs P) (a 31) (a 6) x y k (by first | assumption | omega) (by first | assumption | omega) (by first | assumption | omega)).frameR [0] [1, 2, 3, 4, 5, 6, 7, 8, 9, 10, 11, 12, 13, 14, 15, 16, 17, 18, 19, 20, 21, 22, 23, 24, 25, 26, 27, 28, 29, 30, 31, 32, 33, 34, 35, 36, 37, 38, 39, 40, 41, 42, 43, 44, 45, 46, 47, 48, 49, 50, 51, 52, 53, 54, 55, 56, 57, 58, 59, 60, 61, 62, 63, 64, 65, 66, 67, 68, 69, 70, 71, 72, 73, 74, 75, 76, 77] rfl rfl rfl rfl rfl (fun r w1 hp => by
    obtain ⟨rfl, rfl⟩ := hp
    exact ⟨_, [77, 0, 1, 2, 3, 4, 5, 6, 7, 8, 9, 10, 11, 12, 13, 14, 15, 16, 17, 18, 19, 20, 21, 22, 23, 24, 25, 26, 27, 28, 29, 30, 31, 32, 33, 34, 35, 36, 37, 38, 39, 40, 41, 42, 43, 44, 45, 46, 47, 48, 49, 50, 51, 52, 53, 54, 55, 56, 57, 58, 59, 60, 61, 62, 63, 64, 65, 66, 67, 68, 69, 70, 71, 72, 73, 74, 75, 76], rfl, rfl, rfl, J, rfl⟩)
set_option maxRecDepth 100000 in
set_option maxHeartbeats 4000000 in
theorem M_bow_b2 (l : Launch) (D : va_G) (z : Nat × Nat × Nat) (b : Nat → Nat) (P : PS) (x : Nat) (y : Nat) (k : Int32) (Q : QS) {Bd : Nat} (hi : IV Bd P) (hB : Bd < 1073741824) (hq : RQ Q P) (hx : x < 4) (hy : y < 12) (hb : k < nI 1 ∨ nI 20 < k) : CM l yX9_bow wsX9_bow ({ frames := 2, cells := 0, slots := 0, locals := 43 } : Room) D z [.ref (b 0), .int (nI x), .int (nI y), .int k] (wM D b P Q) (fun r w => r = some (.int (-2)) ∧ ∃ Q', RQ Q' P ∧ w = wM D b P Q') 0 0 := by
  have hi0 := hi
  obtain ⟨⟨hnc, hcc, hps, hpc, hla, hsm⟩, ho, hh, hsl, hsn, htl, htx⟩ := hi
  have hok := hi0.1
  have hM := hq.1
  exact (kX9_bow_b2 l D z (b 0) (b 1) (b 2) (b 3) (b 4) (b 5) (b 6) (b 7) (b 8) (b 9) (b 10) (b 11) (p_hd P) (p_hs P) (p_tl P) (q_ta Q) (q_iw Q) x y k (by first | assumption | omega) (by first | assumption | omega) (by first | assumption | omega)).frameR [0] [1, 2, 3, 4, 5, 6, 7, 8, 9, 10, 11] rfl rfl rfl rfl rfl (fun r w1 hp => by
    obtain ⟨rfl, rfl⟩ := hp
    exact ⟨_, [11, 0, 1, 2, 3, 4, 5, 6, 7, 8, 9, 10], rfl, rfl, rfl, Q, hq, rfl⟩)
set_option maxRecDepth 100000 in
set_option maxHeartbeats 4000000 in
theorem X_bow_b3 (l : Launch) (D : va_G) (z : Nat × Nat × Nat) (a : Nat → Nat) (P : PS) (x : Nat) (y : Nat) (k : Nat) (J : JS) {Bd : Nat} (hi : IV Bd P) (hB : Bd < 1073741824) (hx : x < 4) (hy : y < 12) (hk1 : 1 ≤ k) (hk2 : k ≤ 20) (hb : 16 ≤ sv_ps (p_s P)) : CM l yX8_bow wsX8_bow ({ frames := 5, cells := 0, slots := 0, locals := 109 } : Room) D z [.ref (a 0), .int (nI x), .int (nI y), .int (nI k)] (wX D a P J) (fun r w => r = some (.int (-3)) ∧ ∃ J', w = wX D a P J') 0 0 := by
  have hi0 := hi
  obtain ⟨⟨hnc, hcc, hps, hpc, hla, hsm⟩, ho, hh, hsl, hsn, htl, htx⟩ := hi
  have hok := hi0.1
  exact (kX8_bow_b3 l D z (a 0) (a 1) (a 15) (a 18) (a 21) (a 25) (a 69) (p_hs P) (a 31) (a 6) (a 7) (a 8) (a 9) (a 10) (a 11) (a 12) (a 13) (a 14) (p_s P) x y k (by first | assumption | omega) (by first | assumption | omega) (by first | assumption | omega) (by first | assumption | omega) (by first | assumption | omega) (by first | assumption | omega)).frameR [0, 6, 11, 12, 13, 14] [1, 2, 3, 4, 5, 7, 8, 9, 10, 15, 16, 17, 18, 19, 20, 21, 22, 23, 24, 25, 26, 27, 28, 29, 30, 31, 32, 33, 34, 35, 36, 37, 38, 39, 40, 41, 42, 43, 44, 45, 46, 47, 48, 49, 50, 51, 52, 53, 54, 55, 56, 57, 58, 59, 60, 61, 62, 63, 64, 65, 66, 67, 68, 69, 70, 71, 72, 73, 74, 75, 76, 77] rfl rfl rfl rfl rfl (fun r w1 hp => by
    obtain ⟨rfl, rfl⟩ := hp
    exact ⟨_, [72, 0, 1, 2, 3, 4, 73, 5, 6, 7, 8, 74, 75, 76, 77, 9, 10, 11, 12, 13, 14, 15, 16, 17, 18, 19, 20, 21, 22, 23, 24, 25, 26, 27, 28, 29, 30, 31, 32, 33, 34, 35, 36, 37, 38, 39, 40, 41, 42, 43, 44, 45, 46, 47, 48, 49, 50, 51, 52, 53, 54, 55, 56, 57, 58, 59, 60, 61, 62, 63, 64, 65, 66, 67, 68, 69, 70, 71], rfl, rfl, rfl, J, rfl⟩)
set_option maxRecDepth 100000 in
set_option maxHeartbeats 4000000 in
theorem M_bow_b3 (l : Launch) (D : va_G) (z : Nat × Nat × Nat) (b : Nat → Nat) (P : PS) (x : Nat) (y : Nat) (k : Nat) (Q : QS) {Bd : Nat} (hi : IV Bd P) (hB : Bd < 1073741824) (hq : RQ Q P) (hx : x < 4) (hy : y < 12) (hk1 : 1 ≤ k) (hk2 : k ≤ 20) (hb : sv_ps (p_s P) = 16) : CM l yX9_bow wsX9_bow ({ frames := 2, cells := 0, slots := 0, locals := 43 } : Room) D z [.ref (b 0), .int (nI x), .int (nI y), .int (nI k)] (wM D b P Q) (fun r w => r = some (.int (-3)) ∧ ∃ Q', RQ Q' P ∧ w = wM D b P Q') 0 0 := by
  have hi0 := hi
  obtain ⟨⟨hnc, hcc, hps, hpc, hla, hsm⟩, ho, hh, hsl, hsn, htl, htx⟩ := hi
  have hok := hi0.1
  have hM := hq.1
  exact (kX9_bow_b3 l D z (b 0) (b 1) (b 2) (b 3) (b 4) (b 5) (b 6) (b 7) (b 8) (b 9) (b 10) (b 11) (p_hd P) (p_hs P) (p_tl P) (q_ta Q) (q_iw Q) (q_M Q) (p_s P) x y k (by first | assumption | omega) (by first | assumption | omega) (by first | assumption | omega) (by first | assumption | omega) (by first | assumption | omega) (by first | assumption | omega)).frameR [0, 5] [1, 2, 3, 4, 6, 7, 8, 9, 10, 11] rfl rfl rfl rfl rfl (fun r w1 hp => by
    obtain ⟨rfl, rfl⟩ := hp
    exact ⟨_, [10, 0, 1, 2, 3, 11, 4, 5, 6, 7, 8, 9], rfl, rfl, rfl, Q, hq, rfl⟩)
set_option maxRecDepth 100000 in
set_option maxHeartbeats 4000000 in
theorem X_bow_ok (l : Launch) (D : va_G) (z : Nat × Nat × Nat) (a : Nat → Nat) (P : PS) (x : Nat) (y : Nat) (k : Nat) (J : JS) {Bd : Nat} (hi : IV Bd P) (hB : Bd < 1073741824) (hx : x < 4) (hy : y < 12) (hk1 : 1 ≤ k) (hk2 : k ≤ 20) (hb : sv_ps (p_s P) < 16) : CM l yX8_bow wsX8_bow ({ frames := 5, cells := 0, slots := 0, locals := 109 } : Room) D z [.ref (a 0), .int (nI x), .int (nI y), .int (nI k)] (wX D a P J) (fun r w => r = some (.int (nI (sv_ps (p_s P) + 1))) ∧ ∃ J', w = wX D a (recP P (mkS (sv_g (p_s P)) (sv_cc (p_s P)) (sv_cr (p_s P)) (sv_nc (p_s P)) (sv_se (p_s P)) (upf (sv_fs (p_s P)) (sv_ps (p_s P)) x) (upf (sv_fa (p_s P)) (sv_ps (p_s P)) y) (upf (sv_fk (p_s P)) (sv_ps (p_s P)) k) (sv_ps (p_s P) + 1) (sv_la (p_s P)) (sv_st (p_s P)) (sv_sw (p_s P)) (sv_fl (p_s P)) (sv_sk (p_s P)) (sv_mu (p_s P)))) J') 0 0 := by
  have hi0 := hi
  obtain ⟨⟨hnc, hcc, hps, hpc, hla, hsm⟩, ho, hh, hsl, hsn, htl, htx⟩ := hi
  have hok := hi0.1
  rcases (show rkN (p_o P) (p_hd P) = 0 ∨ rkN (p_o P) (p_hd P) = 1 ∨ rkN (p_o P) (p_hd P) = 2 ∨ rkN (p_o P) (p_hd P) = 3 by have := rkN_lt ho hh; omega) with hk | hk | hk | hk
  ·
    rw [recK_e hk]
    exact (kX8_bow_ok l D z (a 0) (a 1) (a 15) (a 18) (a 21) (a 25) (a 69) (p_hs P) (a 31) (a 32) (a 33) (a 42) (a 51) (a 60) (a 33) (a 34) (a 35) (a 36) (a 37) (a 38) (a 39) (a 40) (a 41) (a 6) (a 7) (a 8) (a 9) (a 10) (a 11) (a 12) (a 13) (a 14) (p_o P) (p_hd P) (p_sl P 0) (p_s P) x y k (by first | assumption | omega) (by first | assumption | omega) (by first | assumption | omega) (by first | assumption | omega) (by first | assumption | omega) (by first | assumption | omega) (by first | assumption | omega) (by rw [hk]; rfl) (by first | assumption | omega)).frameR [0, 31, 32, 33, 34, 35, 36, 37, 38, 39, 40, 41, 6, 7, 8, 9, 10, 11, 12, 13, 14] [1, 2, 3, 4, 5, 15, 16, 17, 18, 19, 20, 21, 22, 23, 24, 25, 26, 27, 28, 29, 30, 42, 43, 44, 45, 46, 47, 48, 49, 50, 51, 52, 53, 54, 55, 56, 57, 58, 59, 60, 61, 62, 63, 64, 65, 66, 67, 68, 69, 70, 71, 72, 73, 74, 75, 76, 77] rfl rfl rfl rfl rfl (fun r w1 hp => by
      obtain ⟨rfl, rfl⟩ := hp
      exact ⟨_, [57, 0, 1, 2, 3, 4, 69, 70, 71, 72, 73, 74, 75, 76, 77, 5, 6, 7, 8, 9, 10, 11, 12, 13, 14, 15, 16, 17, 18, 19, 20, 58, 59, 60, 61, 62, 63, 64, 65, 66, 67, 68, 21, 22, 23, 24, 25, 26, 27, 28, 29, 30, 31, 32, 33, 34, 35, 36, 37, 38, 39, 40, 41, 42, 43, 44, 45, 46, 47, 48, 49, 50, 51, 52, 53, 54, 55, 56], rfl, rfl, rfl, J, rfl⟩)
  ·
    rw [recK_e hk]
    exact (kX8_bow_ok l D z (a 0) (a 1) (a 15) (a 18) (a 21) (a 25) (a 69) (p_hs P) (a 31) (a 32) (a 33) (a 42) (a 51) (a 60) (a 42) (a 43) (a 44) (a 45) (a 46) (a 47) (a 48) (a 49) (a 50) (a 6) (a 7) (a 8) (a 9) (a 10) (a 11) (a 12) (a 13) (a 14) (p_o P) (p_hd P) (p_sl P 1) (p_s P) x y k (by first | assumption | omega) (by first | assumption | omega) (by first | assumption | omega) (by first | assumption | omega) (by first | assumption | omega) (by first | assumption | omega) (by first | assumption | omega) (by rw [hk]; rfl) (by first | assumption | omega)).frameR [0, 31, 32, 42, 43, 44, 45, 46, 47, 48, 49, 50, 6, 7, 8, 9, 10, 11, 12, 13, 14] [1, 2, 3, 4, 5, 15, 16, 17, 18, 19, 20, 21, 22, 23, 24, 25, 26, 27, 28, 29, 30, 33, 34, 35, 36, 37, 38, 39, 40, 41, 51, 52, 53, 54, 55, 56, 57, 58, 59, 60, 61, 62, 63, 64, 65, 66, 67, 68, 69, 70, 71, 72, 73, 74, 75, 76, 77] rfl rfl rfl rfl rfl (fun r w1 hp => by
      obtain ⟨rfl, rfl⟩ := hp
      exact ⟨_, [57, 0, 1, 2, 3, 4, 69, 70, 71, 72, 73, 74, 75, 76, 77, 5, 6, 7, 8, 9, 10, 11, 12, 13, 14, 15, 16, 17, 18, 19, 20, 58, 59, 21, 22, 23, 24, 25, 26, 27, 28, 29, 60, 61, 62, 63, 64, 65, 66, 67, 68, 30, 31, 32, 33, 34, 35, 36, 37, 38, 39, 40, 41, 42, 43, 44, 45, 46, 47, 48, 49, 50, 51, 52, 53, 54, 55, 56], rfl, rfl, rfl, J, rfl⟩)
  ·
    rw [recK_e hk]
    exact (kX8_bow_ok l D z (a 0) (a 1) (a 15) (a 18) (a 21) (a 25) (a 69) (p_hs P) (a 31) (a 32) (a 33) (a 42) (a 51) (a 60) (a 51) (a 52) (a 53) (a 54) (a 55) (a 56) (a 57) (a 58) (a 59) (a 6) (a 7) (a 8) (a 9) (a 10) (a 11) (a 12) (a 13) (a 14) (p_o P) (p_hd P) (p_sl P 2) (p_s P) x y k (by first | assumption | omega) (by first | assumption | omega) (by first | assumption | omega) (by first | assumption | omega) (by first | assumption | omega) (by first | assumption | omega) (by first | assumption | omega) (by rw [hk]; rfl) (by first | assumption | omega)).frameR [0, 31, 32, 51, 52, 53, 54, 55, 56, 57, 58, 59, 6, 7, 8, 9, 10, 11, 12, 13, 14] [1, 2, 3, 4, 5, 15, 16, 17, 18, 19, 20, 21, 22, 23, 24, 25, 26, 27, 28, 29, 30, 33, 34, 35, 36, 37, 38, 39, 40, 41, 42, 43, 44, 45, 46, 47, 48, 49, 50, 60, 61, 62, 63, 64, 65, 66, 67, 68, 69, 70, 71, 72, 73, 74, 75, 76, 77] rfl rfl rfl rfl rfl (fun r w1 hp => by
      obtain ⟨rfl, rfl⟩ := hp
      exact ⟨_, [57, 0, 1, 2, 3, 4, 69, 70, 71, 72, 73, 74, 75, 76, 77, 5, 6, 7, 8, 9, 10, 11, 12, 13, 14, 15, 16, 17, 18, 19, 20, 58, 59, 21, 22, 23, 24, 25, 26, 27, 28, 29, 30, 31, 32, 33, 34, 35, 36, 37, 38, 60, 61, 62, 63, 64, 65, 66, 67, 68, 39, 40, 41, 42, 43, 44, 45, 46, 47, 48, 49, 50, 51, 52, 53, 54, 55, 56], rfl, rfl, rfl, J, rfl⟩)
  ·
    rw [recK_e hk]
    exact (kX8_bow_ok l D z (a 0) (a 1) (a 15) (a 18) (a 21) (a 25) (a 69) (p_hs P) (a 31) (a 32) (a 33) (a 42) (a 51) (a 60) (a 60) (a 61) (a 62) (a 63) (a 64) (a 65) (a 66) (a 67) (a 68) (a 6) (a 7) (a 8) (a 9) (a 10) (a 11) (a 12) (a 13) (a 14) (p_o P) (p_hd P) (p_sl P 3) (p_s P) x y k (by first | assumption | omega) (by first | assumption | omega) (by first | assumption | omega) (by first | assumption | omega) (by first | assumption | omega) (by first | assumption | omega) (by first | assumption | omega) (by rw [hk]; rfl) (by first | assumption | omega)).frameR [0, 31, 32, 60, 61, 62, 63, 64, 65, 66, 67, 68, 6, 7, 8, 9, 10, 11, 12, 13, 14] [1, 2, 3, 4, 5, 15, 16, 17, 18, 19, 20, 21, 22, 23, 24, 25, 26, 27, 28, 29, 30, 33, 34, 35, 36, 37, 38, 39, 40, 41, 42, 43, 44, 45, 46, 47, 48, 49, 50, 51, 52, 53, 54, 55, 56, 57, 58, 59, 69, 70, 71, 72, 73, 74, 75, 76, 77] rfl rfl rfl rfl rfl (fun r w1 hp => by
      obtain ⟨rfl, rfl⟩ := hp
      exact ⟨_, [57, 0, 1, 2, 3, 4, 69, 70, 71, 72, 73, 74, 75, 76, 77, 5, 6, 7, 8, 9, 10, 11, 12, 13, 14, 15, 16, 17, 18, 19, 20, 58, 59, 21, 22, 23, 24, 25, 26, 27, 28, 29, 30, 31, 32, 33, 34, 35, 36, 37, 38, 39, 40, 41, 42, 43, 44, 45, 46, 47, 60, 61, 62, 63, 64, 65, 66, 67, 68, 48, 49, 50, 51, 52, 53, 54, 55, 56], rfl, rfl, rfl, J, rfl⟩)
set_option maxRecDepth 100000 in
set_option maxHeartbeats 4000000 in
theorem M_bow_ok (l : Launch) (D : va_G) (z : Nat × Nat × Nat) (b : Nat → Nat) (P : PS) (x : Nat) (y : Nat) (k : Nat) (Q : QS) {Bd : Nat} (hi : IV Bd P) (hB : Bd < 1073741824) (hq : RQ Q P) (hx : x < 4) (hy : y < 12) (hk1 : 1 ≤ k) (hk2 : k ≤ 20) (hb : sv_ps (p_s P) < 16) : CM l yX9_bow wsX9_bow ({ frames := 2, cells := 0, slots := 0, locals := 43 } : Room) D z [.ref (b 0), .int (nI x), .int (nI y), .int (nI k)] (wM D b P Q) (fun r w => r = some (.int (nI (sv_ps (p_s P) + 1))) ∧ ∃ Q', RQ Q' (recP P (mkS (sv_g (p_s P)) (sv_cc (p_s P)) (sv_cr (p_s P)) (sv_nc (p_s P)) (sv_se (p_s P)) (upf (sv_fs (p_s P)) (sv_ps (p_s P)) x) (upf (sv_fa (p_s P)) (sv_ps (p_s P)) y) (upf (sv_fk (p_s P)) (sv_ps (p_s P)) k) (sv_ps (p_s P) + 1) (sv_la (p_s P)) (sv_st (p_s P)) (sv_sw (p_s P)) (sv_fl (p_s P)) (sv_sk (p_s P)) (sv_mu (p_s P)))) ∧ w = wM D b (recP P (mkS (sv_g (p_s P)) (sv_cc (p_s P)) (sv_cr (p_s P)) (sv_nc (p_s P)) (sv_se (p_s P)) (upf (sv_fs (p_s P)) (sv_ps (p_s P)) x) (upf (sv_fa (p_s P)) (sv_ps (p_s P)) y) (upf (sv_fk (p_s P)) (sv_ps (p_s P)) k) (sv_ps (p_s P) + 1) (sv_la (p_s P)) (sv_st (p_s P)) (sv_sw (p_s P)) (sv_fl (p_s P)) (sv_sk (p_s P)) (sv_mu (p_s P)))) Q') 0 0 := by
  have hi0 := hi
  obtain ⟨⟨hnc, hcc, hps, hpc, hla, hsm⟩, ho, hh, hsl, hsn, htl, htx⟩ := hi
  have hok := hi0.1
  have hM := hq.1
  exact (kX9_bow_ok l D z (b 0) (b 1) (b 2) (b 3) (b 4) (b 5) (b 6) (b 7) (b 8) (b 9) (b 10) (b 11) (p_hd P) (p_hs P) (p_tl P) (q_ta Q) (q_iw Q) (q_M Q) (q_B Q) (p_s P) x y k (by first | assumption | omega) (by first | assumption | omega) (by first | assumption | omega) (by first | assumption | omega) (by first | assumption | omega) (by first | assumption | omega) (by first | assumption | omega) (by first | assumption | omega)).frameR [0, 5, 6] [1, 2, 3, 4, 7, 8, 9, 10, 11] rfl rfl rfl rfl rfl (fun r w1 hp => by
    obtain ⟨M9, hM9, rfl, rfl⟩ := hp
    exact ⟨_, [9, 0, 1, 2, 3, 10, 11, 4, 5, 6, 7, 8], rfl, rfl, rfl, (mkQ M9 (kwF (q_B Q) (q_M Q) (p_hd P)) (q_K Q) (q_Z Q) (q_me Q) (q_rw Q) (q_ta Q) (q_iw Q)), (RQ_rec hq hi0 hM9), rfl⟩)
set_option maxRecDepth 100000 in
set_option maxHeartbeats 4000000 in
theorem X_strike_b1 (l : Launch) (D : va_G) (z : Nat × Nat × Nat) (a : Nat → Nat) (P : PS) (x : Int32) (J : JS) {Bd : Nat} (hi : IV Bd P) (hB : Bd < 1073741824) (hb : x < 0 ∨ nI 4 ≤ x) : CM l yX8_strike wsX8_strike ({ frames := 5, cells := 0, slots := 0, locals := 109 } : Room) D z [.ref (a 0), .int x] (wX D a P J) (fun r w => r = some (.int (-1)) ∧ ∃ J', w = wX D a P J') 0 0 := by
  have hi0 := hi
  obtain ⟨⟨hnc, hcc, hps, hpc, hla, hsm⟩, ho, hh, hsl, hsn, htl, htx⟩ := hi
  have hok := hi0.1
  exact (kX8_strike_b1 l D z (a 0) (a 1) (a 15) (a 18) (a 21) (a 25) (a 69) (p_hs P) (a 31) (a 6) x (by first | assumption | omega)).frameR [0] [1, 2, 3, 4, 5, 6, 7, 8, 9, 10, 11, 12, 13, 14, 15, 16, 17, 18, 19, 20, 21, 22, 23, 24, 25, 26, 27, 28, 29, 30, 31, 32, 33, 34, 35, 36, 37, 38, 39, 40, 41, 42, 43, 44, 45, 46, 47, 48, 49, 50, 51, 52, 53, 54, 55, 56, 57, 58, 59, 60, 61, 62, 63, 64, 65, 66, 67, 68, 69, 70, 71, 72, 73, 74, 75, 76, 77] rfl rfl rfl rfl rfl (fun r w1 hp => by
    obtain ⟨rfl, rfl⟩ := hp
    exact ⟨_, [77, 0, 1, 2, 3, 4, 5, 6, 7, 8, 9, 10, 11, 12, 13, 14, 15, 16, 17, 18, 19, 20, 21, 22, 23, 24, 25, 26, 27, 28, 29, 30, 31, 32, 33, 34, 35, 36, 37, 38, 39, 40, 41, 42, 43, 44, 45, 46, 47, 48, 49, 50, 51, 52, 53, 54, 55, 56, 57, 58, 59, 60, 61, 62, 63, 64, 65, 66, 67, 68, 69, 70, 71, 72, 73, 74, 75, 76], rfl, rfl, rfl, J, rfl⟩)
set_option maxRecDepth 100000 in
set_option maxHeartbeats 4000000 in
theorem M_strike_b1 (l : Launch) (D : va_G) (z : Nat × Nat × Nat) (b : Nat → Nat) (P : PS) (x : Int32) (Q : QS) {Bd : Nat} (hi : IV Bd P) (hB : Bd < 1073741824) (hq : RQ Q P) (hb : rgB x 4 = false) : CM l yX9_strike wsX9_strike ({ frames := 1, cells := 0, slots := 0, locals := 22 } : Room) D z [.ref (b 0), .int x] (wM D b P Q) (fun r w => r = some (.int (-1)) ∧ ∃ Q', RQ Q' P ∧ w = wM D b P Q') 0 0 := by
  have hi0 := hi
  obtain ⟨⟨hnc, hcc, hps, hpc, hla, hsm⟩, ho, hh, hsl, hsn, htl, htx⟩ := hi
  have hok := hi0.1
  have hM := hq.1
  exact (kX9_strike_b1 l D z (b 0) (b 1) (b 2) (b 3) (b 4) (b 5) (b 6) (b 7) (b 8) (b 9) (b 10) (b 11) (p_hd P) (p_hs P) (p_tl P) (q_ta Q) (q_iw Q) x (by first | assumption | omega)).frameR [0] [1, 2, 3, 4, 5, 6, 7, 8, 9, 10, 11] rfl rfl rfl rfl rfl (fun r w1 hp => by
    obtain ⟨rfl, rfl⟩ := hp
    exact ⟨_, [11, 0, 1, 2, 3, 4, 5, 6, 7, 8, 9, 10], rfl, rfl, rfl, Q, hq, rfl⟩)
set_option maxRecDepth 100000 in
set_option maxHeartbeats 4000000 in
theorem X_strike_b2 (l : Launch) (D : va_G) (z : Nat × Nat × Nat) (a : Nat → Nat) (P : PS) (x : Nat) (J : JS) {Bd : Nat} (hi : IV Bd P) (hB : Bd < 1073741824) (hx : x < 4) (hb : cntB (isB (sv_fs (p_s P)) x) (sv_ps (p_s P)) = 0) : CM l yX8_strike wsX8_strike ({ frames := 5, cells := 0, slots := 0, locals := 109 } : Room) D z [.ref (a 0), .int (nI x)] (wX D a P J) (fun r w => r = some (.int (-5)) ∧ ∃ J', w = wX D a P J') 0 0 := by
  have hi0 := hi
  obtain ⟨⟨hnc, hcc, hps, hpc, hla, hsm⟩, ho, hh, hsl, hsn, htl, htx⟩ := hi
  have hok := hi0.1
  exact (kX8_strike_b2 l D z (a 0) (a 1) (a 15) (a 18) (a 21) (a 25) (a 69) (p_hs P) (a 31) (a 6) (a 7) (a 8) (a 9) (a 10) (a 11) (a 12) (a 13) (a 14) (p_s P) x (by first | assumption | omega) (by first | assumption | omega) (by first | assumption | omega) (by first | assumption | omega)).frameR [0, 6, 11, 12, 13, 14] [1, 2, 3, 4, 5, 7, 8, 9, 10, 15, 16, 17, 18, 19, 20, 21, 22, 23, 24, 25, 26, 27, 28, 29, 30, 31, 32, 33, 34, 35, 36, 37, 38, 39, 40, 41, 42, 43, 44, 45, 46, 47, 48, 49, 50, 51, 52, 53, 54, 55, 56, 57, 58, 59, 60, 61, 62, 63, 64, 65, 66, 67, 68, 69, 70, 71, 72, 73, 74, 75, 76, 77] rfl rfl rfl rfl rfl (fun r w1 hp => by
    obtain ⟨rfl, rfl⟩ := hp
    exact ⟨_, [72, 0, 1, 2, 3, 4, 73, 5, 6, 7, 8, 74, 75, 76, 77, 9, 10, 11, 12, 13, 14, 15, 16, 17, 18, 19, 20, 21, 22, 23, 24, 25, 26, 27, 28, 29, 30, 31, 32, 33, 34, 35, 36, 37, 38, 39, 40, 41, 42, 43, 44, 45, 46, 47, 48, 49, 50, 51, 52, 53, 54, 55, 56, 57, 58, 59, 60, 61, 62, 63, 64, 65, 66, 67, 68, 69, 70, 71], rfl, rfl, rfl, J, rfl⟩)
set_option maxRecDepth 100000 in
set_option maxHeartbeats 4000000 in
theorem M_strike_b2 (l : Launch) (D : va_G) (z : Nat × Nat × Nat) (b : Nat → Nat) (P : PS) (x : Nat) (Q : QS) {Bd : Nat} (hi : IV Bd P) (hB : Bd < 1073741824) (hq : RQ Q P) (hx : x < 4) (hb : cntB (isB (sv_fs (p_s P)) x) (sv_ps (p_s P)) = 0) : CM l yX9_strike wsX9_strike ({ frames := 1, cells := 0, slots := 0, locals := 22 } : Room) D z [.ref (b 0), .int (nI x)] (wM D b P Q) (fun r w => r = some (.int (-5)) ∧ ∃ Q', RQ Q' P ∧ w = wM D b P Q') 0 0 := by
  have hi0 := hi
  obtain ⟨⟨hnc, hcc, hps, hpc, hla, hsm⟩, ho, hh, hsl, hsn, htl, htx⟩ := hi
  have hok := hi0.1
  have hM := hq.1
  exact (kX9_strike_b2 l D z (b 0) (b 1) (b 2) (b 3) (b 4) (b 5) (b 6) (b 7) (b 8) (b 9) (b 10) (b 11) (p_hd P) (p_hs P) (p_tl P) (q_ta Q) (q_iw Q) (q_M Q) (p_s P) x (by first | assumption | omega) (by first | assumption | omega) (by first | assumption | omega) (by first | assumption | omega) (by first | assumption | omega)).frameR [0, 5] [1, 2, 3, 4, 6, 7, 8, 9, 10, 11] rfl rfl rfl rfl rfl (fun r w1 hp => by
    obtain ⟨rfl, rfl⟩ := hp
    exact ⟨_, [10, 0, 1, 2, 3, 11, 4, 5, 6, 7, 8, 9], rfl, rfl, rfl, Q, hq, rfl⟩)
set_option maxRecDepth 100000 in
set_option maxHeartbeats 4000000 in
theorem X_strike_ok (l : Launch) (D : va_G) (z : Nat × Nat × Nat) (a : Nat → Nat) (P : PS) (x : Nat) (J : JS) {Bd : Nat} (hi : IV Bd P) (hB : Bd < 1073741824) (hx : x < 4) (hb : 0 < cntB (isB (sv_fs (p_s P)) x) (sv_ps (p_s P))) : CM l yX8_strike wsX8_strike ({ frames := 5, cells := 0, slots := 0, locals := 109 } : Room) D z [.ref (a 0), .int (nI x)] (wX D a P J) (fun r w => r = some (.int (nI (sv_ps (p_s P) - cntB (isN (sv_fs (p_s P)) x) (sv_ps (p_s P))))) ∧ ∃ J', w = wX D a (recP P (mkS (sv_g (p_s P)) (sv_cc (p_s P)) (sv_cr (p_s P)) (sv_nc (p_s P)) (sv_se (p_s P)) (flt (sv_fs (p_s P)) (isN (sv_fs (p_s P)) x) (sv_ps (p_s P))) (flt (sv_fa (p_s P)) (isN (sv_fs (p_s P)) x) (sv_ps (p_s P))) (flt (sv_fk (p_s P)) (isN (sv_fs (p_s P)) x) (sv_ps (p_s P))) (cntB (isN (sv_fs (p_s P)) x) (sv_ps (p_s P))) (sv_la (p_s P)) (sv_st (p_s P)) (sv_sw (p_s P)) (sv_fl (p_s P)) (sv_sk (p_s P)) (sv_mu (p_s P)))) J') 0 0 := by
  have hi0 := hi
  obtain ⟨⟨hnc, hcc, hps, hpc, hla, hsm⟩, ho, hh, hsl, hsn, htl, htx⟩ := hi
  have hok := hi0.1
  rcases (show rkN (p_o P) (p_hd P) = 0 ∨ rkN (p_o P) (p_hd P) = 1 ∨ rkN (p_o P) (p_hd P) = 2 ∨ rkN (p_o P) (p_hd P) = 3 by have := rkN_lt ho hh; omega) with hk | hk | hk | hk
  ·
    rw [recK_e hk]
    exact (kX8_strike_ok l D z (a 0) (a 1) (a 15) (a 18) (a 21) (a 25) (a 69) (p_hs P) (a 31) (a 32) (a 33) (a 42) (a 51) (a 60) (a 33) (a 34) (a 35) (a 36) (a 37) (a 38) (a 39) (a 40) (a 41) (a 6) (a 7) (a 8) (a 9) (a 10) (a 11) (a 12) (a 13) (a 14) (p_o P) (p_hd P) (p_sl P 0) (p_s P) x (by first | assumption | omega) (by first | assumption | omega) (by first | assumption | omega) (by first | assumption | omega) (by first | assumption | omega) (by rw [hk]; rfl) (by first | assumption | omega)).frameR [0, 31, 32, 33, 34, 35, 36, 37, 38, 39, 40, 41, 6, 7, 8, 9, 10, 11, 12, 13, 14] [1, 2, 3, 4, 5, 15, 16, 17, 18, 19, 20, 21, 22, 23, 24, 25, 26, 27, 28, 29, 30, 42, 43, 44, 45, 46, 47, 48, 49, 50, 51, 52, 53, 54, 55, 56, 57, 58, 59, 60, 61, 62, 63, 64, 65, 66, 67, 68, 69, 70, 71, 72, 73, 74, 75, 76, 77] rfl rfl rfl rfl rfl (fun r w1 hp => by
      obtain ⟨rfl, rfl⟩ := hp
      exact ⟨_, [57, 0, 1, 2, 3, 4, 69, 70, 71, 72, 73, 74, 75, 76, 77, 5, 6, 7, 8, 9, 10, 11, 12, 13, 14, 15, 16, 17, 18, 19, 20, 58, 59, 60, 61, 62, 63, 64, 65, 66, 67, 68, 21, 22, 23, 24, 25, 26, 27, 28, 29, 30, 31, 32, 33, 34, 35, 36, 37, 38, 39, 40, 41, 42, 43, 44, 45, 46, 47, 48, 49, 50, 51, 52, 53, 54, 55, 56], rfl, rfl, rfl, J, rfl⟩)
  ·
    rw [recK_e hk]
    exact (kX8_strike_ok l D z (a 0) (a 1) (a 15) (a 18) (a 21) (a 25) (a 69) (p_hs P) (a 31) (a 32) (a 33) (a 42) (a 51) (a 60) (a 42) (a 43) (a 44) (a 45) (a 46) (a 47) (a 48) (a 49) (a 50) (a 6) (a 7) (a 8) (a 9) (a 10) (a 11) (a 12) (a 13) (a 14) (p_o P) (p_hd P) (p_sl P 1) (p_s P) x (by first | assumption | omega) (by first | assumption | omega) (by first | assumption | omega) (by first | assumption | omega) (by first | assumption | omega) (by rw [hk]; rfl) (by first | assumption | omega)).frameR [0, 31, 32, 42, 43, 44, 45, 46, 47, 48, 49, 50, 6, 7, 8, 9, 10, 11, 12, 13, 14] [1, 2, 3, 4, 5, 15, 16, 17, 18, 19, 20, 21, 22, 23, 24, 25, 26, 27, 28, 29, 30, 33, 34, 35, 36, 37, 38, 39, 40, 41, 51, 52, 53, 54, 55, 56, 57, 58, 59, 60, 61, 62, 63, 64, 65, 66, 67, 68, 69, 70, 71, 72, 73, 74, 75, 76, 77] rfl rfl rfl rfl rfl (fun r w1 hp => by
      obtain ⟨rfl, rfl⟩ := hp
      exact ⟨_, [57, 0, 1, 2, 3, 4, 69, 70, 71, 72, 73, 74, 75, 76, 77, 5, 6, 7, 8, 9, 10, 11, 12, 13, 14, 15, 16, 17, 18, 19, 20, 58, 59, 21, 22, 23, 24, 25, 26, 27, 28, 29, 60, 61, 62, 63, 64, 65, 66, 67, 68, 30, 31, 32, 33, 34, 35, 36, 37, 38, 39, 40, 41, 42, 43, 44, 45, 46, 47, 48, 49, 50, 51, 52, 53, 54, 55, 56], rfl, rfl, rfl, J, rfl⟩)
  ·
    rw [recK_e hk]
    exact (kX8_strike_ok l D z (a 0) (a 1) (a 15) (a 18) (a 21) (a 25) (a 69) (p_hs P) (a 31) (a 32) (a 33) (a 42) (a 51) (a 60) (a 51) (a 52) (a 53) (a 54) (a 55) (a 56) (a 57) (a 58) (a 59) (a 6) (a 7) (a 8) (a 9) (a 10) (a 11) (a 12) (a 13) (a 14) (p_o P) (p_hd P) (p_sl P 2) (p_s P) x (by first | assumption | omega) (by first | assumption | omega) (by first | assumption | omega) (by first | assumption | omega) (by first | assumption | omega) (by rw [hk]; rfl) (by first | assumption | omega)).frameR [0, 31, 32, 51, 52, 53, 54, 55, 56, 57, 58, 59, 6, 7, 8, 9, 10, 11, 12, 13, 14] [1, 2, 3, 4, 5, 15, 16, 17, 18, 19, 20, 21, 22, 23, 24, 25, 26, 27, 28, 29, 30, 33, 34, 35, 36, 37, 38, 39, 40, 41, 42, 43, 44, 45, 46, 47, 48, 49, 50, 60, 61, 62, 63, 64, 65, 66, 67, 68, 69, 70, 71, 72, 73, 74, 75, 76, 77] rfl rfl rfl rfl rfl (fun r w1 hp => by
      obtain ⟨rfl, rfl⟩ := hp
      exact ⟨_, [57, 0, 1, 2, 3, 4, 69, 70, 71, 72, 73, 74, 75, 76, 77, 5, 6, 7, 8, 9, 10, 11, 12, 13, 14, 15, 16, 17, 18, 19, 20, 58, 59, 21, 22, 23, 24, 25, 26, 27, 28, 29, 30, 31, 32, 33, 34, 35, 36, 37, 38, 60, 61, 62, 63, 64, 65, 66, 67, 68, 39, 40, 41, 42, 43, 44, 45, 46, 47, 48, 49, 50, 51, 52, 53, 54, 55, 56], rfl, rfl, rfl, J, rfl⟩)
  ·
    rw [recK_e hk]
    exact (kX8_strike_ok l D z (a 0) (a 1) (a 15) (a 18) (a 21) (a 25) (a 69) (p_hs P) (a 31) (a 32) (a 33) (a 42) (a 51) (a 60) (a 60) (a 61) (a 62) (a 63) (a 64) (a 65) (a 66) (a 67) (a 68) (a 6) (a 7) (a 8) (a 9) (a 10) (a 11) (a 12) (a 13) (a 14) (p_o P) (p_hd P) (p_sl P 3) (p_s P) x (by first | assumption | omega) (by first | assumption | omega) (by first | assumption | omega) (by first | assumption | omega) (by first | assumption | omega) (by rw [hk]; rfl) (by first | assumption | omega)).frameR [0, 31, 32, 60, 61, 62, 63, 64, 65, 66, 67, 68, 6, 7, 8, 9, 10, 11, 12, 13, 14] [1, 2, 3, 4, 5, 15, 16, 17, 18, 19, 20, 21, 22, 23, 24, 25, 26, 27, 28, 29, 30, 33, 34, 35, 36, 37, 38, 39, 40, 41, 42, 43, 44, 45, 46, 47, 48, 49, 50, 51, 52, 53, 54, 55, 56, 57, 58, 59, 69, 70, 71, 72, 73, 74, 75, 76, 77] rfl rfl rfl rfl rfl (fun r w1 hp => by
      obtain ⟨rfl, rfl⟩ := hp
      exact ⟨_, [57, 0, 1, 2, 3, 4, 69, 70, 71, 72, 73, 74, 75, 76, 77, 5, 6, 7, 8, 9, 10, 11, 12, 13, 14, 15, 16, 17, 18, 19, 20, 58, 59, 21, 22, 23, 24, 25, 26, 27, 28, 29, 30, 31, 32, 33, 34, 35, 36, 37, 38, 39, 40, 41, 42, 43, 44, 45, 46, 47, 60, 61, 62, 63, 64, 65, 66, 67, 68, 48, 49, 50, 51, 52, 53, 54, 55, 56], rfl, rfl, rfl, J, rfl⟩)
set_option maxRecDepth 100000 in
set_option maxHeartbeats 4000000 in
theorem M_strike_ok (l : Launch) (D : va_G) (z : Nat × Nat × Nat) (b : Nat → Nat) (P : PS) (x : Nat) (Q : QS) {Bd : Nat} (hi : IV Bd P) (hB : Bd < 1073741824) (hq : RQ Q P) (hx : x < 4) (hb : 0 < cntB (isB (sv_fs (p_s P)) x) (sv_ps (p_s P))) : CM l yX9_strike wsX9_strike ({ frames := 1, cells := 0, slots := 0, locals := 22 } : Room) D z [.ref (b 0), .int (nI x)] (wM D b P Q) (fun r w => r = some (.int (nI (cntB (isB (sv_fs (p_s P)) x) (sv_ps (p_s P))))) ∧ ∃ Q', RQ Q' (recP P (mkS (sv_g (p_s P)) (sv_cc (p_s P)) (sv_cr (p_s P)) (sv_nc (p_s P)) (sv_se (p_s P)) (flt (sv_fs (p_s P)) (isN (sv_fs (p_s P)) x) (sv_ps (p_s P))) (flt (sv_fa (p_s P)) (isN (sv_fs (p_s P)) x) (sv_ps (p_s P))) (flt (sv_fk (p_s P)) (isN (sv_fs (p_s P)) x) (sv_ps (p_s P))) (cntB (isN (sv_fs (p_s P)) x) (sv_ps (p_s P))) (sv_la (p_s P)) (sv_st (p_s P)) (sv_sw (p_s P)) (sv_fl (p_s P)) (sv_sk (p_s P)) (sv_mu (p_s P)))) ∧ w = wM D b (recP P (mkS (sv_g (p_s P)) (sv_cc (p_s P)) (sv_cr (p_s P)) (sv_nc (p_s P)) (sv_se (p_s P)) (flt (sv_fs (p_s P)) (isN (sv_fs (p_s P)) x) (sv_ps (p_s P))) (flt (sv_fa (p_s P)) (isN (sv_fs (p_s P)) x) (sv_ps (p_s P))) (flt (sv_fk (p_s P)) (isN (sv_fs (p_s P)) x) (sv_ps (p_s P))) (cntB (isN (sv_fs (p_s P)) x) (sv_ps (p_s P))) (sv_la (p_s P)) (sv_st (p_s P)) (sv_sw (p_s P)) (sv_fl (p_s P)) (sv_sk (p_s P)) (sv_mu (p_s P)))) Q') 0 0 := by
  have hi0 := hi
  obtain ⟨⟨hnc, hcc, hps, hpc, hla, hsm⟩, ho, hh, hsl, hsn, htl, htx⟩ := hi
  have hok := hi0.1
  have hM := hq.1
  exact (kX9_strike_ok l D z (b 0) (b 1) (b 2) (b 3) (b 4) (b 5) (b 6) (b 7) (b 8) (b 9) (b 10) (b 11) (p_hd P) (p_hs P) (p_tl P) (q_ta Q) (q_iw Q) (q_M Q) (q_B Q) (p_s P) x (by first | assumption | omega) (by first | assumption | omega) (by first | assumption | omega) (by first | assumption | omega) (by first | assumption | omega) (by first | assumption | omega) (by first | assumption | omega)).frameR [0, 5, 6] [1, 2, 3, 4, 7, 8, 9, 10, 11] rfl rfl rfl rfl rfl (fun r w1 hp => by
    obtain ⟨M9, hM9, rfl, rfl⟩ := hp
    exact ⟨_, [9, 0, 1, 2, 3, 10, 11, 4, 5, 6, 7, 8], rfl, rfl, rfl, (mkQ M9 (kwF (q_B Q) (q_M Q) (p_hd P)) (q_K Q) (q_Z Q) (q_me Q) (q_rw Q) (q_ta Q) (q_iw Q)), (RQ_rec hq hi0 (RM_SE hM9 (ds_SE _ _))), rfl⟩)
set_option maxRecDepth 100000 in
set_option maxHeartbeats 4000000 in
theorem X_play_b1 (l : Launch) (D : va_G) (z : Nat × Nat × Nat) (a : Nat → Nat) (P : PS) (k : Int32) (J : JS) {Bd : Nat} (hi : IV Bd P) (hB : Bd < 1073741824) (hb : k < nI 1 ∨ nI 16 < k) : CM l yX8_play wsX8_play ({ frames := 6, cells := 0, slots := 0, locals := 140 } : Room) D z [.ref (a 0), .int k] (wX D a P J) (fun r w => r = some (.int (-2)) ∧ ∃ J', w = wX D a P J') 0 0 := by
  have hi0 := hi
  obtain ⟨⟨hnc, hcc, hps, hpc, hla, hsm⟩, ho, hh, hsl, hsn, htl, htx⟩ := hi
  have hok := hi0.1
  exact (kX8_play_b1 l D z (a 0) (a 1) (a 15) (a 18) (a 21) (a 25) (a 69) (p_hs P) (a 31) (a 6) k (by first | assumption | omega)).frameR [0] [1, 2, 3, 4, 5, 6, 7, 8, 9, 10, 11, 12, 13, 14, 15, 16, 17, 18, 19, 20, 21, 22, 23, 24, 25, 26, 27, 28, 29, 30, 31, 32, 33, 34, 35, 36, 37, 38, 39, 40, 41, 42, 43, 44, 45, 46, 47, 48, 49, 50, 51, 52, 53, 54, 55, 56, 57, 58, 59, 60, 61, 62, 63, 64, 65, 66, 67, 68, 69, 70, 71, 72, 73, 74, 75, 76, 77] rfl rfl rfl rfl rfl (fun r w1 hp => by
    obtain ⟨rfl, rfl⟩ := hp
    exact ⟨_, [77, 0, 1, 2, 3, 4, 5, 6, 7, 8, 9, 10, 11, 12, 13, 14, 15, 16, 17, 18, 19, 20, 21, 22, 23, 24, 25, 26, 27, 28, 29, 30, 31, 32, 33, 34, 35, 36, 37, 38, 39, 40, 41, 42, 43, 44, 45, 46, 47, 48, 49, 50, 51, 52, 53, 54, 55, 56, 57, 58, 59, 60, 61, 62, 63, 64, 65, 66, 67, 68, 69, 70, 71, 72, 73, 74, 75, 76], rfl, rfl, rfl, J, rfl⟩)
set_option maxRecDepth 100000 in
set_option maxHeartbeats 4000000 in
theorem M_play_b1 (l : Launch) (D : va_G) (z : Nat × Nat × Nat) (b : Nat → Nat) (P : PS) (k : Int32) (Q : QS) {Bd : Nat} (hi : IV Bd P) (hB : Bd < 1073741824) (hq : RQ Q P) (hb : k < nI 1 ∨ nI 16 < k) : CM l yX9_play wsX9_play ({ frames := 4, cells := 0, slots := 0, locals := 96 } : Room) D z [.ref (b 0), .int k] (wM D b P Q) (fun r w => r = some (.int (-2)) ∧ ∃ Q', RQ Q' P ∧ w = wM D b P Q') 0 0 := by
  have hi0 := hi
  obtain ⟨⟨hnc, hcc, hps, hpc, hla, hsm⟩, ho, hh, hsl, hsn, htl, htx⟩ := hi
  have hok := hi0.1
  have hM := hq.1
  exact (kX9_play_b1 l D z (b 0) (b 1) (b 2) (b 3) (b 4) (b 5) (b 6) (b 7) (b 8) (b 9) (b 10) (b 11) (p_hd P) (p_hs P) (p_tl P) (q_ta Q) (q_iw Q) k (by first | assumption | omega)).frameR [0] [1, 2, 3, 4, 5, 6, 7, 8, 9, 10, 11] rfl rfl rfl rfl rfl (fun r w1 hp => by
    obtain ⟨rfl, rfl⟩ := hp
    exact ⟨_, [11, 0, 1, 2, 3, 4, 5, 6, 7, 8, 9, 10], rfl, rfl, rfl, Q, hq, rfl⟩)
set_option maxRecDepth 100000 in
set_option maxHeartbeats 4000000 in
theorem X_play_b2 (l : Launch) (D : va_G) (z : Nat × Nat × Nat) (a : Nat → Nat) (P : PS) (k : Nat) (J : JS) {Bd : Nat} (hi : IV Bd P) (hB : Bd < 1073741824) (hk1 : 1 ≤ k) (hk2 : k ≤ 16) (hb : sv_ps (p_s P) = 0) : CM l yX8_play wsX8_play ({ frames := 6, cells := 0, slots := 0, locals := 140 } : Room) D z [.ref (a 0), .int (nI k)] (wX D a P J) (fun r w => r = some (.int (-5)) ∧ ∃ J', w = wX D a P J') 0 0 := by
  have hi0 := hi
  obtain ⟨⟨hnc, hcc, hps, hpc, hla, hsm⟩, ho, hh, hsl, hsn, htl, htx⟩ := hi
  have hok := hi0.1
  exact (kX8_play_b2 l D z (a 0) (a 1) (a 15) (a 18) (a 21) (a 25) (a 69) (p_hs P) (a 31) (a 6) (a 7) (a 8) (a 9) (a 10) (a 11) (a 12) (a 13) (a 14) (p_s P) k (by first | assumption | omega) (by first | assumption | omega) (by first | assumption | omega)).frameR [0, 6, 11] [1, 2, 3, 4, 5, 7, 8, 9, 10, 12, 13, 14, 15, 16, 17, 18, 19, 20, 21, 22, 23, 24, 25, 26, 27, 28, 29, 30, 31, 32, 33, 34, 35, 36, 37, 38, 39, 40, 41, 42, 43, 44, 45, 46, 47, 48, 49, 50, 51, 52, 53, 54, 55, 56, 57, 58, 59, 60, 61, 62, 63, 64, 65, 66, 67, 68, 69, 70, 71, 72, 73, 74, 75, 76, 77] rfl rfl rfl rfl rfl (fun r w1 hp => by
    obtain ⟨rfl, rfl⟩ := hp
    exact ⟨_, [75, 0, 1, 2, 3, 4, 76, 5, 6, 7, 8, 77, 9, 10, 11, 12, 13, 14, 15, 16, 17, 18, 19, 20, 21, 22, 23, 24, 25, 26, 27, 28, 29, 30, 31, 32, 33, 34, 35, 36, 37, 38, 39, 40, 41, 42, 43, 44, 45, 46, 47, 48, 49, 50, 51, 52, 53, 54, 55, 56, 57, 58, 59, 60, 61, 62, 63, 64, 65, 66, 67, 68, 69, 70, 71, 72, 73, 74], rfl, rfl, rfl, J, rfl⟩)
set_option maxRecDepth 100000 in
set_option maxHeartbeats 4000000 in
theorem M_play_b2 (l : Launch) (D : va_G) (z : Nat × Nat × Nat) (b : Nat → Nat) (P : PS) (k : Nat) (Q : QS) {Bd : Nat} (hi : IV Bd P) (hB : Bd < 1073741824) (hq : RQ Q P) (hk1 : 1 ≤ k) (hk2 : k ≤ 16) (hb : sv_ps (p_s P) = 0) : CM l yX9_play wsX9_play ({ frames := 4, cells := 0, slots := 0, locals := 96 } : Room) D z [.ref (b 0), .int (nI k)] (wM D b P Q) (fun r w => r = some (.int (-5)) ∧ ∃ Q', RQ Q' P ∧ w = wM D b P Q') 0 0 := by
  have hi0 := hi
  obtain ⟨⟨hnc, hcc, hps, hpc, hla, hsm⟩, ho, hh, hsl, hsn, htl, htx⟩ := hi
  have hok := hi0.1
  have hM := hq.1
  exact (kX9_play_b2 l D z (b 0) (b 1) (b 2) (b 3) (b 4) (b 5) (b 6) (b 7) (b 8) (b 9) (b 10) (b 11) (p_hd P) (p_hs P) (p_tl P) (q_ta Q) (q_iw Q) (q_M Q) (p_s P) k (by first | assumption | omega) (by first | assumption | omega) (by first | assumption | omega) (by first | assumption | omega)).frameR [0, 5] [1, 2, 3, 4, 6, 7, 8, 9, 10, 11] rfl rfl rfl rfl rfl (fun r w1 hp => by
    obtain ⟨rfl, rfl⟩ := hp
    exact ⟨_, [10, 0, 1, 2, 3, 11, 4, 5, 6, 7, 8, 9], rfl, rfl, rfl, Q, hq, rfl⟩)
set_option maxRecDepth 100000 in
set_option maxHeartbeats 4000000 in
theorem X_play_ok (l : Launch) (D : va_G) (z : Nat × Nat × Nat) (a : Nat → Nat) (P : PS) (k : Nat) (J : JS) {Bd : Nat} (hi : IV Bd P) (hB : Bd < 1073741824) (hk1 : 1 ≤ k) (hk2 : k ≤ 16) (h0_ : 0 < sv_ps (p_s P)) : CM l yX8_play wsX8_play ({ frames := 6, cells := 0, slots := 0, locals := 140 } : Room) D z [.ref (a 0), .int (nI k)] (wX D a P J) (fun r w => r = some (.int (nI (plL (p_s P) (min k (sv_ps (p_s P)))))) ∧ ∃ J', w = wX D a (recP P (mkS (sv_g (plS (p_s P) (min k (sv_ps (p_s P))))) (sv_cc (plS (p_s P) (min k (sv_ps (p_s P))))) (sv_cr (plS (p_s P) (min k (sv_ps (p_s P))))) (sv_nc (plS (p_s P) (min k (sv_ps (p_s P))))) (sv_se (plS (p_s P) (min k (sv_ps (p_s P))))) (dff (sv_fs (plS (p_s P) (min k (sv_ps (p_s P))))) (min k (sv_ps (p_s P))) (sv_ps (plS (p_s P) (min k (sv_ps (p_s P)))) - (min k (sv_ps (p_s P))))) (dff (sv_fa (plS (p_s P) (min k (sv_ps (p_s P))))) (min k (sv_ps (p_s P))) (sv_ps (plS (p_s P) (min k (sv_ps (p_s P)))) - (min k (sv_ps (p_s P))))) (dff (sv_fk (plS (p_s P) (min k (sv_ps (p_s P))))) (min k (sv_ps (p_s P))) (sv_ps (plS (p_s P) (min k (sv_ps (p_s P)))) - (min k (sv_ps (p_s P))))) (sv_ps (plS (p_s P) (min k (sv_ps (p_s P)))) - (min k (sv_ps (p_s P)))) (sv_la (plS (p_s P) (min k (sv_ps (p_s P))))) (sv_st (plS (p_s P) (min k (sv_ps (p_s P))))) (sv_sw (plS (p_s P) (min k (sv_ps (p_s P))))) (sv_fl (plS (p_s P) (min k (sv_ps (p_s P))))) (sv_sk (plS (p_s P) (min k (sv_ps (p_s P))))) (sv_mu (plS (p_s P) (min k (sv_ps (p_s P))))))) J') 0 0 := by
  have hi0 := hi
  obtain ⟨⟨hnc, hcc, hps, hpc, hla, hsm⟩, ho, hh, hsl, hsn, htl, htx⟩ := hi
  have hok := hi0.1
  rcases (show rkN (p_o P) (p_hd P) = 0 ∨ rkN (p_o P) (p_hd P) = 1 ∨ rkN (p_o P) (p_hd P) = 2 ∨ rkN (p_o P) (p_hd P) = 3 by have := rkN_lt ho hh; omega) with hk | hk | hk | hk
  ·
    rw [recK_e hk]
    exact (kX8_play_ok l D z (a 0) (a 1) (a 15) (a 18) (a 21) (a 25) (a 69) (p_hs P) (a 31) (a 32) (a 33) (a 42) (a 51) (a 60) (a 33) (a 34) (a 35) (a 36) (a 37) (a 38) (a 39) (a 40) (a 41) (a 6) (a 7) (a 8) (a 9) (a 10) (a 11) (a 12) (a 13) (a 14) (p_o P) (p_hd P) (p_sl P 0) (p_s P) (a 16) (a 17) (j_pn J) (a 22) (a 23) (a 24) (a 2) (a 3) (a 4) (a 5) (j_sw J) (j_tg J) (j_ar J) k Bd (by first | assumption | omega) (by first | assumption | omega) (by first | assumption | omega) (by first | assumption | omega) (by first | assumption | omega) (by first | assumption | omega) (by first | assumption | omega) (by rw [hk]; rfl) (by first | assumption | omega)).frameR [0, 15, 21, 22, 23, 24, 1, 2, 3, 4, 5, 31, 32, 33, 34, 35, 36, 37, 38, 39, 40, 41, 6, 7, 8, 9, 10, 11, 12, 13, 14] [16, 17, 18, 19, 20, 25, 26, 27, 28, 29, 30, 42, 43, 44, 45, 46, 47, 48, 49, 50, 51, 52, 53, 54, 55, 56, 57, 58, 59, 60, 61, 62, 63, 64, 65, 66, 67, 68, 69, 70, 71, 72, 73, 74, 75, 76, 77] rfl rfl rfl rfl rfl (fun r w1 hp => by
      obtain ⟨sw9, tg9, ar9, rfl, rfl⟩ := hp
      exact ⟨_, [47, 53, 54, 55, 56, 57, 69, 70, 71, 72, 73, 74, 75, 76, 77, 48, 0, 1, 2, 3, 4, 49, 50, 51, 52, 5, 6, 7, 8, 9, 10, 58, 59, 60, 61, 62, 63, 64, 65, 66, 67, 68, 11, 12, 13, 14, 15, 16, 17, 18, 19, 20, 21, 22, 23, 24, 25, 26, 27, 28, 29, 30, 31, 32, 33, 34, 35, 36, 37, 38, 39, 40, 41, 42, 43, 44, 45, 46], rfl, rfl, rfl, (mkJ (j_pf J) (j_pn J) (j_tk J) (j_vt J) sw9 tg9 ar9), rfl⟩)
  ·
    rw [recK_e hk]
    exact (kX8_play_ok l D z (a 0) (a 1) (a 15) (a 18) (a 21) (a 25) (a 69) (p_hs P) (a 31) (a 32) (a 33) (a 42) (a 51) (a 60) (a 42) (a 43) (a 44) (a 45) (a 46) (a 47) (a 48) (a 49) (a 50) (a 6) (a 7) (a 8) (a 9) (a 10) (a 11) (a 12) (a 13) (a 14) (p_o P) (p_hd P) (p_sl P 1) (p_s P) (a 16) (a 17) (j_pn J) (a 22) (a 23) (a 24) (a 2) (a 3) (a 4) (a 5) (j_sw J) (j_tg J) (j_ar J) k Bd (by first | assumption | omega) (by first | assumption | omega) (by first | assumption | omega) (by first | assumption | omega) (by first | assumption | omega) (by first | assumption | omega) (by first | assumption | omega) (by rw [hk]; rfl) (by first | assumption | omega)).frameR [0, 15, 21, 22, 23, 24, 1, 2, 3, 4, 5, 31, 32, 42, 43, 44, 45, 46, 47, 48, 49, 50, 6, 7, 8, 9, 10, 11, 12, 13, 14] [16, 17, 18, 19, 20, 25, 26, 27, 28, 29, 30, 33, 34, 35, 36, 37, 38, 39, 40, 41, 51, 52, 53, 54, 55, 56, 57, 58, 59, 60, 61, 62, 63, 64, 65, 66, 67, 68, 69, 70, 71, 72, 73, 74, 75, 76, 77] rfl rfl rfl rfl rfl (fun r w1 hp => by
      obtain ⟨sw9, tg9, ar9, rfl, rfl⟩ := hp
      exact ⟨_, [47, 53, 54, 55, 56, 57, 69, 70, 71, 72, 73, 74, 75, 76, 77, 48, 0, 1, 2, 3, 4, 49, 50, 51, 52, 5, 6, 7, 8, 9, 10, 58, 59, 11, 12, 13, 14, 15, 16, 17, 18, 19, 60, 61, 62, 63, 64, 65, 66, 67, 68, 20, 21, 22, 23, 24, 25, 26, 27, 28, 29, 30, 31, 32, 33, 34, 35, 36, 37, 38, 39, 40, 41, 42, 43, 44, 45, 46], rfl, rfl, rfl, (mkJ (j_pf J) (j_pn J) (j_tk J) (j_vt J) sw9 tg9 ar9), rfl⟩)
  ·
    rw [recK_e hk]
    exact (kX8_play_ok l D z (a 0) (a 1) (a 15) (a 18) (a 21) (a 25) (a 69) (p_hs P) (a 31) (a 32) (a 33) (a 42) (a 51) (a 60) (a 51) (a 52) (a 53) (a 54) (a 55) (a 56) (a 57) (a 58) (a 59) (a 6) (a 7) (a 8) (a 9) (a 10) (a 11) (a 12) (a 13) (a 14) (p_o P) (p_hd P) (p_sl P 2) (p_s P) (a 16) (a 17) (j_pn J) (a 22) (a 23) (a 24) (a 2) (a 3) (a 4) (a 5) (j_sw J) (j_tg J) (j_ar J) k Bd (by first | assumption | omega) (by first | assumption | omega) (by first | assumption | omega) (by first | assumption | omega) (by first | assumption | omega) (by first | assumption | omega) (by first | assumption | omega) (by rw [hk]; rfl) (by first | assumption | omega)).frameR [0, 15, 21, 22, 23, 24, 1, 2, 3, 4, 5, 31, 32, 51, 52, 53, 54, 55, 56, 57, 58, 59, 6, 7, 8, 9, 10, 11, 12, 13, 14] [16, 17, 18, 19, 20, 25, 26, 27, 28, 29, 30, 33, 34, 35, 36, 37, 38, 39, 40, 41, 42, 43, 44, 45, 46, 47, 48, 49, 50, 60, 61, 62, 63, 64, 65, 66, 67, 68, 69, 70, 71, 72, 73, 74, 75, 76, 77] rfl rfl rfl rfl rfl (fun r w1 hp => by
      obtain ⟨sw9, tg9, ar9, rfl, rfl⟩ := hp
      exact ⟨_, [47, 53, 54, 55, 56, 57, 69, 70, 71, 72, 73, 74, 75, 76, 77, 48, 0, 1, 2, 3, 4, 49, 50, 51, 52, 5, 6, 7, 8, 9, 10, 58, 59, 11, 12, 13, 14, 15, 16, 17, 18, 19, 20, 21, 22, 23, 24, 25, 26, 27, 28, 60, 61, 62, 63, 64, 65, 66, 67, 68, 29, 30, 31, 32, 33, 34, 35, 36, 37, 38, 39, 40, 41, 42, 43, 44, 45, 46], rfl, rfl, rfl, (mkJ (j_pf J) (j_pn J) (j_tk J) (j_vt J) sw9 tg9 ar9), rfl⟩)
  ·
    rw [recK_e hk]
    exact (kX8_play_ok l D z (a 0) (a 1) (a 15) (a 18) (a 21) (a 25) (a 69) (p_hs P) (a 31) (a 32) (a 33) (a 42) (a 51) (a 60) (a 60) (a 61) (a 62) (a 63) (a 64) (a 65) (a 66) (a 67) (a 68) (a 6) (a 7) (a 8) (a 9) (a 10) (a 11) (a 12) (a 13) (a 14) (p_o P) (p_hd P) (p_sl P 3) (p_s P) (a 16) (a 17) (j_pn J) (a 22) (a 23) (a 24) (a 2) (a 3) (a 4) (a 5) (j_sw J) (j_tg J) (j_ar J) k Bd (by first | assumption | omega) (by first | assumption | omega) (by first | assumption | omega) (by first | assumption | omega) (by first | assumption | omega) (by first | assumption | omega) (by first | assumption | omega) (by rw [hk]; rfl) (by first | assumption | omega)).frameR [0, 15, 21, 22, 23, 24, 1, 2, 3, 4, 5, 31, 32, 60, 61, 62, 63, 64, 65, 66, 67, 68, 6, 7, 8, 9, 10, 11, 12, 13, 14] [16, 17, 18, 19, 20, 25, 26, 27, 28, 29, 30, 33, 34, 35, 36, 37, 38, 39, 40, 41, 42, 43, 44, 45, 46, 47, 48, 49, 50, 51, 52, 53, 54, 55, 56, 57, 58, 59, 69, 70, 71, 72, 73, 74, 75, 76, 77] rfl rfl rfl rfl rfl (fun r w1 hp => by
      obtain ⟨sw9, tg9, ar9, rfl, rfl⟩ := hp
      exact ⟨_, [47, 53, 54, 55, 56, 57, 69, 70, 71, 72, 73, 74, 75, 76, 77, 48, 0, 1, 2, 3, 4, 49, 50, 51, 52, 5, 6, 7, 8, 9, 10, 58, 59, 11, 12, 13, 14, 15, 16, 17, 18, 19, 20, 21, 22, 23, 24, 25, 26, 27, 28, 29, 30, 31, 32, 33, 34, 35, 36, 37, 60, 61, 62, 63, 64, 65, 66, 67, 68, 38, 39, 40, 41, 42, 43, 44, 45, 46], rfl, rfl, rfl, (mkJ (j_pf J) (j_pn J) (j_tk J) (j_vt J) sw9 tg9 ar9), rfl⟩)
set_option maxRecDepth 100000 in
set_option maxHeartbeats 4000000 in
theorem M_play_ok (l : Launch) (D : va_G) (z : Nat × Nat × Nat) (b : Nat → Nat) (P : PS) (k : Nat) (Q : QS) {Bd : Nat} (hi : IV Bd P) (hB : Bd < 1073741824) (hq : RQ Q P) (hk1 : 1 ≤ k) (hk2 : k ≤ 16) (h0_ : 0 < sv_ps (p_s P)) : CM l yX9_play wsX9_play ({ frames := 4, cells := 0, slots := 0, locals := 96 } : Room) D z [.ref (b 0), .int (nI k)] (wM D b P Q) (fun r w => r = some (.int (nI (plL (p_s P) (min k (sv_ps (p_s P)))))) ∧ ∃ Q', RQ Q' (recP P (mkS (sv_g (plS (p_s P) (min k (sv_ps (p_s P))))) (sv_cc (plS (p_s P) (min k (sv_ps (p_s P))))) (sv_cr (plS (p_s P) (min k (sv_ps (p_s P))))) (sv_nc (plS (p_s P) (min k (sv_ps (p_s P))))) (sv_se (plS (p_s P) (min k (sv_ps (p_s P))))) (dff (sv_fs (plS (p_s P) (min k (sv_ps (p_s P))))) (min k (sv_ps (p_s P))) (sv_ps (plS (p_s P) (min k (sv_ps (p_s P)))) - (min k (sv_ps (p_s P))))) (dff (sv_fa (plS (p_s P) (min k (sv_ps (p_s P))))) (min k (sv_ps (p_s P))) (sv_ps (plS (p_s P) (min k (sv_ps (p_s P)))) - (min k (sv_ps (p_s P))))) (dff (sv_fk (plS (p_s P) (min k (sv_ps (p_s P))))) (min k (sv_ps (p_s P))) (sv_ps (plS (p_s P) (min k (sv_ps (p_s P)))) - (min k (sv_ps (p_s P))))) (sv_ps (plS (p_s P) (min k (sv_ps (p_s P)))) - (min k (sv_ps (p_s P)))) (sv_la (plS (p_s P) (min k (sv_ps (p_s P))))) (sv_st (plS (p_s P) (min k (sv_ps (p_s P))))) (sv_sw (plS (p_s P) (min k (sv_ps (p_s P))))) (sv_fl (plS (p_s P) (min k (sv_ps (p_s P))))) (sv_sk (plS (p_s P) (min k (sv_ps (p_s P))))) (sv_mu (plS (p_s P) (min k (sv_ps (p_s P))))))) ∧ w = wM D b (recP P (mkS (sv_g (plS (p_s P) (min k (sv_ps (p_s P))))) (sv_cc (plS (p_s P) (min k (sv_ps (p_s P))))) (sv_cr (plS (p_s P) (min k (sv_ps (p_s P))))) (sv_nc (plS (p_s P) (min k (sv_ps (p_s P))))) (sv_se (plS (p_s P) (min k (sv_ps (p_s P))))) (dff (sv_fs (plS (p_s P) (min k (sv_ps (p_s P))))) (min k (sv_ps (p_s P))) (sv_ps (plS (p_s P) (min k (sv_ps (p_s P)))) - (min k (sv_ps (p_s P))))) (dff (sv_fa (plS (p_s P) (min k (sv_ps (p_s P))))) (min k (sv_ps (p_s P))) (sv_ps (plS (p_s P) (min k (sv_ps (p_s P)))) - (min k (sv_ps (p_s P))))) (dff (sv_fk (plS (p_s P) (min k (sv_ps (p_s P))))) (min k (sv_ps (p_s P))) (sv_ps (plS (p_s P) (min k (sv_ps (p_s P)))) - (min k (sv_ps (p_s P))))) (sv_ps (plS (p_s P) (min k (sv_ps (p_s P)))) - (min k (sv_ps (p_s P)))) (sv_la (plS (p_s P) (min k (sv_ps (p_s P))))) (sv_st (plS (p_s P) (min k (sv_ps (p_s P))))) (sv_sw (plS (p_s P) (min k (sv_ps (p_s P))))) (sv_fl (plS (p_s P) (min k (sv_ps (p_s P))))) (sv_sk (plS (p_s P) (min k (sv_ps (p_s P))))) (sv_mu (plS (p_s P) (min k (sv_ps (p_s P))))))) Q') 0 0 := by
  have hi0 := hi
  obtain ⟨⟨hnc, hcc, hps, hpc, hla, hsm⟩, ho, hh, hsl, hsn, htl, htx⟩ := hi
  have hok := hi0.1
  have hM := hq.1
  exact (kX9_play_ok l D z (b 0) (b 1) (b 2) (b 3) (b 4) (b 5) (b 6) (b 7) (b 8) (b 9) (b 10) (b 11) (p_hd P) (p_hs P) (p_tl P) (q_ta Q) (q_iw Q) (q_M Q) (q_B Q) (q_Z Q) (p_s P) k Bd (by first | assumption | omega) (by first | assumption | omega) (by first | assumption | omega) (by first | assumption | omega) (by first | assumption | omega) (by first | assumption | omega) (by first | assumption | omega)).frameR [0, 4, 5, 6, 9] [1, 2, 3, 7, 8, 10, 11] rfl rfl rfl rfl rfl (fun r w1 hp => by
    obtain ⟨M9, Mo9, hM9, rfl, rfl⟩ := hp
    exact ⟨_, [7, 0, 1, 2, 8, 9, 10, 3, 4, 11, 5, 6], rfl, rfl, rfl, (mkQ M9 (kwF (q_B Q) (q_M Q) (p_hd P)) (q_K Q) Mo9 (q_me Q) (q_rw Q) (q_ta Q) (q_iw Q)), (RQ_rec hq hi0 (RM_SE hM9 (mp_SE _))), rfl⟩)