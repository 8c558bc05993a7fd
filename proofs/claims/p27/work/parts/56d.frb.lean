set_option maxRecDepth 100000 in
set_option maxHeartbeats 4000000 in
theorem X_undo_b1 (l : Launch) (D : va_G) (z : Nat × Nat × Nat) (a : Nat → Nat) (s_ : SV) (sl_ : Nat → SV) (o_ : Nat) (sn_ : SV) (hs_ : Bool) (tx_ : Nat → Nat) (tl_ : Nat) (tc_ : Nat) (tf_ : Nat → Nat) (ta_ : Nat → Nat) (tk_ : Nat → Nat) (tn_ : Nat) (J : JS) {Bd : Nat} (hi : IV Bd (mkP s_ sl_ o_ 0 sn_ hs_ tx_ tl_ tc_ tf_ ta_ tk_ tn_)) (hB : Bd < 1073741824)  : CM l yX8_undo wsX8_undo ({ frames := 5, cells := 0, slots := 0, locals := 109 } : Room) D z [.ref (a 0)] (wX D a (mkP s_ sl_ o_ 0 sn_ hs_ tx_ tl_ tc_ tf_ ta_ tk_ tn_) J) (fun r9_ w9_ => r9_ = some (.int (-5)) ∧ ∃ J', w9_ = wX D a (mkP s_ sl_ o_ 0 sn_ hs_ tx_ tl_ tc_ tf_ ta_ tk_ tn_) J') 0 0 := by
  have hi0 := hi
  obtain ⟨⟨hnc, hcc, hps, hpc, hla, hsm⟩, ho, hh, hsl, hsn, htl, htx⟩ := hi
  have hok := hi0.1
  exact (kX8_undo_b1 l D z (a 0) (a 1) (a 15) (a 18) (a 21) (a 25) (a 69) (p_hs (mkP s_ sl_ o_ 0 sn_ hs_ tx_ tl_ tc_ tf_ ta_ tk_ tn_)) (a 31) (a 6) (a 32) (p_o (mkP s_ sl_ o_ 0 sn_ hs_ tx_ tl_ tc_ tf_ ta_ tk_ tn_)) ).mask [true, false, false, false, false, false, false, false, false, false, false, false, false, false, false, false, false, false, false, false, false, false, false, false, false, false, false, false, false, false, false, true, false, false, false, false, false, false, false, false, false, false, false, false, false, false, false, false, false, false, false, false, false, false, false, false, false, false, false, false, false, false, false, false, false, false, false, false, false, false, false, false, false, false, false, false, false, false] [0, 1] rfl rfl (fun r w1 hp => by
    obtain ⟨rfl, rfl⟩ := hp
    exact ⟨[0, 1], rfl, rfl, rfl, J, rfl⟩)
