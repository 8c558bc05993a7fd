set_option maxRecDepth 100000 in
set_option maxHeartbeats 4000000 in
theorem M_sweep_ok (l : Launch) (D : va_G) (z : Nat × Nat × Nat) (b : Nat → Nat) (P : PS) (k : Nat) (Q : QS) {Bd : Nat} (hi : IV Bd P) (hB : Bd < 1073741824) (hq : RQ Q P) (hk2 : k ≤ 99) : CM l yX9_sweep wsX9_sweep ({ frames := 1, cells := 0, slots := 0, locals := 22 } : Room) D z [.ref (b 0), .int (nI k)] (wM D b P Q) (fun r9_ w9_ => r9_ = some (.int (nI (smN (sv_g (p_s P)) 144))) ∧ ∃ Q', RQ Q' (recP P (mkS (cvf (sv_g (p_s P)) k 144) (sv_cc (p_s P)) (sv_cr (p_s P)) (sv_nc (p_s P)) (sv_se (p_s P)) (sv_fs (p_s P)) (sv_fa (p_s P)) (sv_fk (p_s P)) (sv_ps (p_s P)) (sv_la (p_s P)) (sv_st (p_s P) + nI (144 * k)) (sv_sw (p_s P) + nI (smN (sv_g (p_s P)) 144)) (sv_fl (p_s P)) (sv_sk (p_s P)) (sv_mu (p_s P)))) ∧ w9_ = wM D b (recP P (mkS (cvf (sv_g (p_s P)) k 144) (sv_cc (p_s P)) (sv_cr (p_s P)) (sv_nc (p_s P)) (sv_se (p_s P)) (sv_fs (p_s P)) (sv_fa (p_s P)) (sv_fk (p_s P)) (sv_ps (p_s P)) (sv_la (p_s P)) (sv_st (p_s P) + nI (144 * k)) (sv_sw (p_s P) + nI (smN (sv_g (p_s P)) 144)) (sv_fl (p_s P)) (sv_sk (p_s P)) (sv_mu (p_s P)))) Q') 0 0 := by
  have hi0 := hi
  obtain ⟨⟨hnc, hcc, hps, hpc, hla, hsm⟩, ho, hh, hsl, hsn, htl, htx⟩ := hi
  have hok := hi0.1
  have hM := hq.1
  exact (kX9_sweep_ok l D z (b 0) (b 1) (b 2) (b 3) (b 4) (b 5) (b 6) (b 7) (b 8) (b 9) (b 10) (b 11) (p_hd P) (p_hs P) (p_tl P) (q_ta Q) (q_iw Q) (q_M Q) (q_B Q) (p_s P) k (by first | assumption | omega) (by first | assumption | omega) (by first | assumption | omega)).mask [true, false, false, false, false, true, true, false, false, false, false, false] [0, 1, 2] rfl rfl (fun r w1 hp => by
    obtain ⟨M9, hM9, rfl, rfl⟩ := hp
    exact ⟨[0, 1, 2], rfl, rfl, rfl, (mkQ M9 (kwF (q_B Q) (q_M Q) (p_hd P)) (q_K Q) (q_Z Q) (q_me Q) (q_rw Q) (q_ta Q) (q_iw Q)), (RQ_rec hq hi0 hM9), rfl⟩)
set_option maxRecDepth 100000 in
set_option maxHeartbeats 4000000 in
theorem X_clamp_b1 (l : Launch) (D : va_G) (z : Nat × Nat × Nat) (a : Nat → Nat) (P : PS) (x : Int32) (y : Int32) (J : JS) {Bd : Nat} (hi : IV Bd P) (hB : Bd < 1073741824) (hb : (rgB x 12 && rgB y 12) = false) : CM l yX8_clamp wsX8_clamp ({ frames := 5, cells := 0, slots := 0, locals := 109 } : Room) D z [.ref (a 0), .int x, .int y] (wX D a P J) (fun r9_ w9_ => r9_ = some (.int (-1)) ∧ ∃ J', w9_ = wX D a P J') 0 0 := by
  have hi0 := hi
  obtain ⟨⟨hnc, hcc, hps, hpc, hla, hsm⟩, ho, hh, hsl, hsn, htl, htx⟩ := hi
  have hok := hi0.1
  exact (kX8_clamp_b1 l D z (a 0) (a 1) (a 15) (a 18) (a 21) (a 25) (a 69) (p_hs P) (a 31) (a 6) x y (by first | assumption | omega)).mask [true, false, false, false, false, false, false, false, false, false, false, false, false, false, false, false, false, false, false, false, false, false, false, false, false, false, false, false, false, false, false, false, false, false, false, false, false, false, false, false, false, false, false, false, false, false, false, false, false, false, false, false, false, false, false, false, false, false, false, false, false, false, false, false, false, false, false, false, false, false, false, false, false, false, false, false, false, false] [0] rfl rfl (fun r w1 hp => by
    obtain ⟨rfl, rfl⟩ := hp
    exact ⟨[0], rfl, rfl, rfl, J, rfl⟩)
set_option maxRecDepth 100000 in
set_option maxHeartbeats 4000000 in
theorem M_clamp_b1 (l : Launch) (D : va_G) (z : Nat × Nat × Nat) (b : Nat → Nat) (P : PS) (x : Int32) (y : Int32) (Q : QS) {Bd : Nat} (hi : IV Bd P) (hB : Bd < 1073741824) (hq : RQ Q P) (hb : (rgB x 12 && rgB y 12) = false) : CM l yX9_clamp wsX9_clamp ({ frames := 2, cells := 0, slots := 0, locals := 43 } : Room) D z [.ref (b 0), .int x, .int y] (wM D b P Q) (fun r9_ w9_ => r9_ = some (.int (-1)) ∧ ∃ Q', RQ Q' P ∧ w9_ = wM D b P Q') 0 0 := by
  have hi0 := hi
  obtain ⟨⟨hnc, hcc, hps, hpc, hla, hsm⟩, ho, hh, hsl, hsn, htl, htx⟩ := hi
  have hok := hi0.1
  have hM := hq.1
  exact (kX9_clamp_b1 l D z (b 0) (b 1) (b 2) (b 3) (b 4) (b 5) (b 6) (b 7) (b 8) (b 9) (b 10) (b 11) (p_hd P) (p_hs P) (p_tl P) (q_ta Q) (q_iw Q) x y (by first | assumption | omega)).mask [true, false, false, false, false, false, false, false, false, false, false, false] [0] rfl rfl (fun r w1 hp => by
    obtain ⟨rfl, rfl⟩ := hp
    exact ⟨[0], rfl, rfl, rfl, Q, hq, rfl⟩)
set_option maxRecDepth 100000 in
set_option maxHeartbeats 4000000 in
theorem X_clamp_b2 (l : Launch) (D : va_G) (z : Nat × Nat × Nat) (a : Nat → Nat) (P : PS) (x : Nat) (y : Nat) (J : JS) {Bd : Nat} (hi : IV Bd P) (hB : Bd < 1073741824) (hx : x < 12) (hy : y < 12) (hb : 4 ≤ sv_nc (p_s P)) : CM l yX8_clamp wsX8_clamp ({ frames := 5, cells := 0, slots := 0, locals := 109 } : Room) D z [.ref (a 0), .int (nI x), .int (nI y)] (wX D a P J) (fun r9_ w9_ => r9_ = some (.int (-3)) ∧ ∃ J', w9_ = wX D a P J') 0 0 := by
  have hi0 := hi
  obtain ⟨⟨hnc, hcc, hps, hpc, hla, hsm⟩, ho, hh, hsl, hsn, htl, htx⟩ := hi
  have hok := hi0.1
  exact (kX8_clamp_b2 l D z (a 0) (a 1) (a 15) (a 18) (a 21) (a 25) (a 69) (p_hs P) (a 31) (a 6) (a 7) (a 8) (a 9) (a 10) (a 11) (p_s P) x y (by first | assumption | omega) (by first | assumption | omega) (by first | assumption | omega) (by first | assumption | omega)).mask [true, false, false, false, false, false, true, false, false, false, false, false, false, false, false, false, false, false, false, false, false, false, false, false, false, false, false, false, false, false, false, false, false, false, false, false, false, false, false, false, false, false, false, false, false, false, false, false, false, false, false, false, false, false, false, false, false, false, false, false, false, false, false, false, false, false, false, false, false, false, false, false, false, false, false, false, false, false] [0, 1] rfl rfl (fun r w1 hp => by
    obtain ⟨rfl, rfl⟩ := hp
    exact ⟨[0, 1], rfl, rfl, rfl, J, rfl⟩)
set_option maxRecDepth 100000 in
set_option maxHeartbeats 4000000 in
theorem M_clamp_b2 (l : Launch) (D : va_G) (z : Nat × Nat × Nat) (b : Nat → Nat) (P : PS) (x : Nat) (y : Nat) (Q : QS) {Bd : Nat} (hi : IV Bd P) (hB : Bd < 1073741824) (hq : RQ Q P) (hx : x < 12) (hy : y < 12) (hb : sv_nc (p_s P) = 4) : CM l yX9_clamp wsX9_clamp ({ frames := 2, cells := 0, slots := 0, locals := 43 } : Room) D z [.ref (b 0), .int (nI x), .int (nI y)] (wM D b P Q) (fun r9_ w9_ => r9_ = some (.int (-3)) ∧ ∃ Q', RQ Q' P ∧ w9_ = wM D b P Q') 0 0 := by
  have hi0 := hi
  obtain ⟨⟨hnc, hcc, hps, hpc, hla, hsm⟩, ho, hh, hsl, hsn, htl, htx⟩ := hi
  have hok := hi0.1
  have hM := hq.1
  exact (kX9_clamp_b2 l D z (b 0) (b 1) (b 2) (b 3) (b 4) (b 5) (b 6) (b 7) (b 8) (b 9) (b 10) (b 11) (p_hd P) (p_hs P) (p_tl P) (q_ta Q) (q_iw Q) (q_M Q) (p_s P) x y (by first | assumption | omega) (by first | assumption | omega) (by first | assumption | omega) (by first | assumption | omega)).mask [true, false, false, false, false, true, false, false, false, false, false, false] [0, 1] rfl rfl (fun r w1 hp => by
    obtain ⟨rfl, rfl⟩ := hp
    exact ⟨[0, 1], rfl, rfl, rfl, Q, hq, rfl⟩)
set_option maxRecDepth 100000 in
set_option maxHeartbeats 4000000 in
theorem X_clamp_b3 (l : Launch) (D : va_G) (z : Nat × Nat × Nat) (a : Nat → Nat) (P : PS) (x : Nat) (y : Nat) (k : Nat) (J : JS) {Bd : Nat} (hi : IV Bd P) (hB : Bd < 1073741824) (hx : x < 12) (hy : y < 12) (hb : sv_nc (p_s P) < 4) (hd : (fdB (fun j => sv_cc (p_s P) j == x && sv_cr (p_s P) j == y) (sv_nc (p_s P))) = some k) : CM l yX8_clamp wsX8_clamp ({ frames := 5, cells := 0, slots := 0, locals := 109 } : Room) D z [.ref (a 0), .int (nI x), .int (nI y)] (wX D a P J) (fun r9_ w9_ => r9_ = some (.int (-5)) ∧ ∃ J', w9_ = wX D a P J') 0 0 := by
  have hi0 := hi
  obtain ⟨⟨hnc, hcc, hps, hpc, hla, hsm⟩, ho, hh, hsl, hsn, htl, htx⟩ := hi
  have hok := hi0.1
  exact (kX8_clamp_b3 l D z (a 0) (a 1) (a 15) (a 18) (a 21) (a 25) (a 69) (p_hs P) (a 31) (a 6) (a 7) (a 8) (a 9) (a 10) (a 11) (p_s P) x y k (by first | assumption | omega) (by first | assumption | omega) (by first | assumption | omega) (by first | assumption | omega) (by first | assumption | omega) (by first | assumption | omega)).mask [true, false, false, false, false, false, true, false, true, true, false, false, false, false, false, false, false, false, false, false, false, false, false, false, false, false, false, false, false, false, false, false, false, false, false, false, false, false, false, false, false, false, false, false, false, false, false, false, false, false, false, false, false, false, false, false, false, false, false, false, false, false, false, false, false, false, false, false, false, false, false, false, false, false, false, false, false, false] [0, 1, 2, 3] rfl rfl (fun r w1 hp => by
    obtain ⟨rfl, rfl⟩ := hp
    exact ⟨[0, 1, 2, 3], rfl, rfl, rfl, J, rfl⟩)
set_option maxRecDepth 100000 in
set_option maxHeartbeats 4000000 in
theorem M_clamp_b3 (l : Launch) (D : va_G) (z : Nat × Nat × Nat) (b : Nat → Nat) (P : PS) (x : Nat) (y : Nat) (k : Nat) (Q : QS) {Bd : Nat} (hi : IV Bd P) (hB : Bd < 1073741824) (hq : RQ Q P) (hx : x < 12) (hy : y < 12) (hb : sv_nc (p_s P) < 4) (hd : (fdB (fun j => decide (12 * sv_cr (p_s P) j + sv_cc (p_s P) j = 12 * y + x)) (sv_nc (p_s P))) = some k) : CM l yX9_clamp wsX9_clamp ({ frames := 2, cells := 0, slots := 0, locals := 43 } : Room) D z [.ref (b 0), .int (nI x), .int (nI y)] (wM D b P Q) (fun r9_ w9_ => r9_ = some (.int (-5)) ∧ ∃ Q', RQ Q' P ∧ w9_ = wM D b P Q') 0 0 := by
  have hi0 := hi
  obtain ⟨⟨hnc, hcc, hps, hpc, hla, hsm⟩, ho, hh, hsl, hsn, htl, htx⟩ := hi
  have hok := hi0.1
  have hM := hq.1
  exact (kX9_clamp_b3 l D z (b 0) (b 1) (b 2) (b 3) (b 4) (b 5) (b 6) (b 7) (b 8) (b 9) (b 10) (b 11) (p_hd P) (p_hs P) (p_tl P) (q_ta Q) (q_iw Q) (q_M Q) (p_s P) x y k (by first | assumption | omega) (by first | assumption | omega) (by first | assumption | omega) (by first | assumption | omega) (by first | assumption | omega) (by first | assumption | omega) (by first | assumption | omega)).mask [true, false, false, false, false, true, false, false, false, false, false, false] [0, 1] rfl rfl (fun r w1 hp => by
    obtain ⟨rfl, rfl⟩ := hp
    exact ⟨[0, 1], rfl, rfl, rfl, Q, hq, rfl⟩)