set_option maxRecDepth 100000 in
set_option maxHeartbeats 4000000 in
theorem M_clampAt_ok (l : Launch) (D : va_G) (z : Nat × Nat × Nat) (b : Nat → Nat) (P : PS) (x : Nat) (r : Bool) (Q : QS) {Bd : Nat} (hi : IV Bd P) (hB : Bd < 1073741824) (hq : RQ Q P) (hx : x < sv_nc (p_s P)) : CM l yX9_clampAt wsX9_clampAt ({ frames := 1, cells := 0, slots := 0, locals := 22 } : Room) D z [.ref (b 0), .int (nI x), .int (bB r)] (wM D b P Q) (fun r9_ w9_ => r9_ = some (.int (nI (if r = true then sv_cr (p_s P) x else sv_cc (p_s P) x))) ∧ ∃ Q', RQ Q' P ∧ w9_ = wM D b P Q') 0 0 := by
  have hi0 := hi
  obtain ⟨⟨hnc, hcc, hps, hpc, hla, hsm⟩, ho, hh, hsl, hsn, htl, htx⟩ := hi
  have hok := hi0.1
  have hM := hq.1
  exact (kX9_clampAt_ok l D z (b 0) (b 1) (b 2) (b 3) (b 4) (b 5) (b 6) (b 7) (b 8) (b 9) (b 10) (b 11) (p_hd P) (p_hs P) (p_tl P) (q_ta Q) (q_iw Q) (q_M Q) (p_s P) x r (by first | assumption | omega) (by first | assumption | omega) (by first | assumption | omega) (by first | assumption | omega)).mask [true, false, false, false, false, true, false, false, false, false, false, false] [0, 1] rfl rfl (fun r w1 hp => by
    obtain ⟨rfl, rfl⟩ := hp
    exact ⟨[0, 1], rfl, rfl, rfl, Q, hq, rfl⟩)