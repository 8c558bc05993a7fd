set_option maxRecDepth 100000 in
set_option maxHeartbeats 4000000 in
theorem ST_place (l : Launch) (D : va_G) (z : Nat × Nat × Nat) {P : PS} {Bd : Nat} (hi : IV Bd P) (hB : Bd < 1073741824) (x y k : Int32) : ST l D z yX8_place yX9_place wsX8_place wsX9_place ({ frames := 3, cells := 0, slots := 0, locals := 71 } : Room) ({ frames := 2, cells := 0, slots := 0, locals := 44 } : Room) Bd P [.int x, .int y, .int k] := by
  have hok := hi.1
  by_cases h1 : (rgB x 12 && rgB y 12) = true
  · obtain ⟨i, j, hx, hy, rfl, rfl⟩ := xy_in (by decide) (by decide) h1
    rcases ix_c k (n := 4) (by decide) with hsw | ⟨q, hq4, rfl⟩
    · exact ST_mk (fun a J => X_place_b2 l D z a P i j k J hi hB hx hy hsw) (fun b Q hq => M_place_b2 l D z b P i j k Q hi hB hq hx hy hsw) (IV_up hi (Nat.le_add_right _ _))
    · rcases (show q = 0 ∨ q = 1 ∨ q = 2 ∨ q = 3 by omega) with rfl | rfl | rfl | rfl
      · exact ST_mk (fun a J => X_place_0 l D z a P i j J hi hB hx hy) (fun b Q hq => M_place_0 l D z b P i j Q hi hB hq hx hy) (IV_up hi (Nat.le_add_right _ _))
      · exact ST_mk (fun a J => X_place_1 l D z a P i j J hi hB hx hy) (fun b Q hq => M_place_1 l D z b P i j Q hi hB hq hx hy) (IV_up hi (Nat.le_add_right _ _))
      · exact ST_mk (fun a J => X_place_2 l D z a P i j J hi hB hx hy) (fun b Q hq => M_place_2 l D z b P i j Q hi hB hq hx hy) (IV_up hi (Nat.le_add_right _ _))
      · exact ST_mk (fun a J => X_place_3 l D z a P i j J hi hB hx hy) (fun b Q hq => (M_place_3 l D z b P i j Q hi hB hq hx hy).post (fun r w h => ⟨by rw [laM_o (fun k hk => Nat.lt_of_lt_of_le (fdB_some.mp hk).1 (Nat.le_trans hok.1 (by decide))), cl_eq hx hok.2.1]; exact h.1, h.2⟩)) (IV_up hi (Nat.le_add_right _ _))
  · exact ST_mk (fun a J => X_place_b1 l D z a P x y k J hi hB (bf_of h1)) (fun b Q hq => M_place_b1 l D z b P x y k Q hi hB hq (bf_of h1)) (IV_up hi (Nat.le_add_right _ _))
set_option maxRecDepth 100000 in
set_option maxHeartbeats 4000000 in
theorem ST_way (l : Launch) (D : va_G) (z : Nat × Nat × Nat) {P : PS} {Bd : Nat} (hi : IV Bd P) (hB : Bd < 1073741824) (w k : Int32) : ST l D z yX8_way yX9_way wsX8_way wsX9_way ({ frames := 4, cells := 0, slots := 0, locals := 94 } : Room) ({ frames := 4, cells := 0, slots := 0, locals := 92 } : Room) Bd P [.int w, .int k] := by
  have hok := hi.1
  by_cases h1 : rgB w 48 = true
  · obtain ⟨i, hw, rfl⟩ := (rgB_iff (by decide)).mp h1
    rcases ix_c k (n := 8) (by decide) with hsw | ⟨q, hq8, rfl⟩
    · exact ST_mk (fun a J => X_way_b2 l D z a P i k J hi hB hw hsw) (fun b Q hq => M_way_b2 l D z b P i k Q hi hB hq hw hsw) (IV_up hi (Nat.le_add_right _ _))
    · rcases (show q = 0 ∨ q = 1 ∨ q = 2 ∨ q = 3 ∨ q = 4 ∨ q = 5 ∨ q = 6 ∨ q = 7 by omega) with rfl | rfl | rfl | rfl | rfl | rfl | rfl | rfl
      · exact ST_mk (fun a J => X_way_0 l D z a P i J hi hB hw) (fun b Q hq => M_way_0 l D z b P i Q hi hB hq hw) (IV_up hi (Nat.le_add_right _ _))
      · exact ST_mk (fun a J => X_way_1 l D z a P i J hi hB hw) (fun b Q hq => M_way_1 l D z b P i Q hi hB hq hw) (IV_up hi (Nat.le_add_right _ _))
      · exact ST_mk (fun a J => X_way_2 l D z a P i J hi hB hw) (fun b Q hq => M_way_2 l D z b P i Q hi hB hq hw) (IV_up hi (Nat.le_add_right _ _))
      · exact ST_mk (fun a J => X_way_3 l D z a P i J hi hB hw) (fun b Q hq => M_way_3 l D z b P i Q hi hB hq hw) (IV_up hi (Nat.le_add_right _ _))
      · exact ST_mk (fun a J => X_way_4 l D z a P i J hi hB hw) (fun b Q hq => M_way_4 l D z b P i Q hi hB hq hw) (IV_up hi (Nat.le_add_right _ _))
      · exact ST_mk (ans := nI (lnF (p_s P) i (fun _ => 0) 0 144).2) (P' := P) (fun a J => (X_way_5 l D z a P i J hi hB hw).post (fun r w h => ⟨by rw [(lnF_i (p_s P) i (fun _ => 0) (vR (j_vt J)) 0 (vC (j_vt J)) 144).2]; exact h.1, h.2⟩)) (fun b Q hq => (M_way_5 l D z b P i Q hi hB hq hw).post (fun r w h => ⟨by rw [(lnF_i (p_s P) i (fun _ => 0) (q_rw Q) 0 0 144).2]; exact h.1, h.2⟩)) (IV_up hi (Nat.le_add_right _ _))
      · exact ST_mk (fun a J => X_way_6 l D z a P i J hi hB hw) (fun b Q hq => M_way_6 l D z b P i Q hi hB hq hw) (IV_up hi (Nat.le_add_right _ _))
      · exact ST_mk (fun a J => X_way_7 l D z a P i J hi hB hw) (fun b Q hq => M_way_7 l D z b P i Q hi hB hq hw) (IV_up hi (Nat.le_add_right _ _))
  · exact ST_mk (fun a J => X_way_b1 l D z a P w k J hi hB (bf_of h1)) (fun b Q hq => M_way_b1 l D z b P w k Q hi hB hq (bf_of h1)) (IV_up hi (Nat.le_add_right _ _))
set_option maxRecDepth 100000 in
set_option maxHeartbeats 4000000 in
theorem ST_swing (l : Launch) (D : va_G) (z : Nat × Nat × Nat) {P : PS} {Bd : Nat} (hi : IV Bd P) (hB : Bd < 1073741824) (w x y : Int32) : ST l D z yX8_swing yX9_swing wsX8_swing wsX9_swing ({ frames := 2, cells := 0, slots := 0, locals := 48 } : Room) ({ frames := 2, cells := 0, slots := 0, locals := 43 } : Room) Bd P [.int w, .int x, .int y] := by
  by_cases h1 : rgB w 48 = true
  · obtain ⟨q, hw, rfl⟩ := (rgB_iff (by decide)).mp h1
    by_cases h2 : (rgB x 12 && rgB y 12) = true
    · obtain ⟨i, j, hx, hy, rfl, rfl⟩ := xy_in (by decide) (by decide) h2
      exact ST_mk (fun a J => X_swing_ok l D z a P q i j J hi hB hw hx hy) (fun b Q hq => M_swing_ok l D z b P q i j Q hi hB hq hw hx hy) (IV_up hi (Nat.le_add_right _ _))
    · exact ST_mk (fun a J => X_swing_b2 l D z a P q x y J hi hB hw (bf_of h2)) (fun b Q hq => M_swing_b2 l D z b P q x y Q hi hB hq hw (bf_of h2)) (IV_up hi (Nat.le_add_right _ _))
  · exact ST_mk (fun a J => X_swing_b1 l D z a P w x y J hi hB (bf_of h1)) (fun b Q hq => M_swing_b1 l D z b P w x y Q hi hB hq (bf_of h1)) (IV_up hi (Nat.le_add_right _ _))
set_option maxRecDepth 100000 in
set_option maxHeartbeats 4000000 in
theorem ST_sounds (l : Launch) (D : va_G) (z : Nat × Nat × Nat) {P : PS} {Bd : Nat} (hi : IV Bd P) (hB : Bd < 1073741824) (x y : Int32) : ST l D z yX8_sounds yX9_sounds wsX8_sounds wsX9_sounds ({ frames := 5, cells := 0, slots := 0, locals := 117 } : Room) ({ frames := 4, cells := 0, slots := 0, locals := 89 } : Room) Bd P [.int x, .int y] := by
  by_cases h2 : (rgB x 4 && rgB y 12) = true
  · obtain ⟨i, j, hx, hy, rfl, rfl⟩ := xy_in (by decide) (by decide) h2
    exact ST_mk (fun a J => X_sounds_ok l D z a P i j J hi hB hx hy) (fun b Q hq => (M_sounds_ok l D z b P i j Q hi hB hq hx hy).post (fun r w h => ⟨by rw [laM_o wy_lt]; exact h.1, h.2⟩)) (IV_up hi (Nat.le_add_right _ _))
  · exact ST_mk (fun a J => X_sounds_b1 l D z a P x y J hi hB (bf_of h2)) (fun b Q hq => M_sounds_b1 l D z b P x y Q hi hB hq (bf_of h2)) (IV_up hi (Nat.le_add_right _ _))
set_option maxRecDepth 100000 in
set_option maxHeartbeats 4000000 in
theorem ST_why (l : Launch) (D : va_G) (z : Nat × Nat × Nat) {P : PS} {Bd : Nat} (hi : IV Bd P) (hB : Bd < 1073741824) (w x y : Int32) : ST l D z yX8_why yX9_why wsX8_why wsX9_why ({ frames := 6, cells := 0, slots := 0, locals := 140 } : Room) ({ frames := 4, cells := 0, slots := 0, locals := 89 } : Room) Bd P [.int w, .int x, .int y] := by
  by_cases h1 : rgB w 48 = true
  · obtain ⟨q, hw, rfl⟩ := (rgB_iff (by decide)).mp h1
    by_cases h2 : (rgB x 4 && rgB y 12) = true
    · obtain ⟨i, j, hx, hy, rfl, rfl⟩ := xy_in (by decide) (by decide) h2
      exact ST_mk (fun a J => X_why_ok l D z a P q i j J hi hB hw hx hy) (fun b Q hq => M_why_ok l D z b P q i j Q hi hB hq hw hx hy) (IV_up hi (Nat.le_add_right _ _))
    · exact ST_mk (fun a J => X_why_b2 l D z a P q x y J hi hB hw (bf_of h2)) (fun b Q hq => M_why_b2 l D z b P q x y Q hi hB hq hw (bf_of h2)) (IV_up hi (Nat.le_add_right _ _))
  · exact ST_mk (fun a J => X_why_b1 l D z a P w x y J hi hB (bf_of h1)) (fun b Q hq => M_why_b1 l D z b P w x y Q hi hB hq (bf_of h1)) (IV_up hi (Nat.le_add_right _ _))
set_option maxRecDepth 100000 in
set_option maxHeartbeats 4000000 in
theorem ST_possible (l : Launch) (D : va_G) (z : Nat × Nat × Nat) {P : PS} {Bd : Nat} (hi : IV Bd P) (hB : Bd < 1073741824) (k : Int32) : ST l D z yX8_possible yX9_possible wsX8_possible wsX9_possible ({ frames := 6, cells := 0, slots := 0, locals := 138 } : Room) ({ frames := 5, cells := 0, slots := 0, locals := 112 } : Room) Bd P [.int k] := by
  rcases ix_c k (n := 2147483647) (by decide) with (h | h) | ⟨j, hj, rfl⟩
  · exact ST_mk (fun a J => X_possible_b1 l D z a P k J hi hB h) (fun b Q hq => M_possible_b1 l D z b P k Q hi hB hq h) (IV_up hi (Nat.le_add_right _ _))
  · have hk : k = nI 2147483647 := by
      have h2 := Int32.le_iff_toInt_le.mp h
      rw [nI_toInt (by decide)] at h2
      have h3 := Int32.toInt_lt k
      exact Int32.toInt_inj.mp (by rw [nI_toInt (by decide)]; omega)
    subst hk
    have hc : cntB (fpP (p_s P)) 48 ≤ 2147483647 := Nat.le_trans (cntB_le _ _) (by decide)
    exact ST_mk (fun a J => X_possible_b2 l D z a P 2147483647 J hi hB (by decide) hc) (fun b Q hq => (M_possible_ok l D z b P 2147483647 Q hi hB hq (by decide)).post (fun r w h => ⟨by rw [h.1, pos_no _ hc]; rfl, h.2⟩)) (IV_up hi (Nat.le_add_right _ _))
  · by_cases hc : cntB (fpP (p_s P)) 48 ≤ j
    · exact ST_mk (fun a J => X_possible_b2 l D z a P j J hi hB (by omega) hc) (fun b Q hq => (M_possible_ok l D z b P j Q hi hB hq (by omega)).post (fun r w h => ⟨by rw [h.1, pos_no _ hc]; rfl, h.2⟩)) (IV_up hi (Nat.le_add_right _ _))
    · exact ST_mk (fun a J => (X_possible_ok l D z a P j J hi hB (by omega)).post (fun r w h => ⟨by rw [pos_ok (p_s P) (j_pf J) (by omega : j < cntB (fpP (p_s P)) 48)]; exact h.1, h.2⟩)) (fun b Q hq => M_possible_ok l D z b P j Q hi hB hq (by omega)) (IV_up hi (Nat.le_add_right _ _))
set_option maxRecDepth 100000 in
set_option maxHeartbeats 4000000 in
theorem ST_waiting (l : Launch) (D : va_G) (z : Nat × Nat × Nat) {P : PS} {Bd : Nat} (hi : IV Bd P) (hB : Bd < 1073741824) (j k : Int32) : ST l D z yX8_waiting yX9_waiting wsX8_waiting wsX9_waiting ({ frames := 5, cells := 0, slots := 0, locals := 117 } : Room) ({ frames := 4, cells := 0, slots := 0, locals := 89 } : Room) Bd P [.int j, .int k] := by
  have hok := hi.1
  by_cases h1 : j < 0 ∨ k < 0 ∨ nI 3 < k
  · exact ST_mk (fun a J => X_waiting_b1 l D z a P j k J hi hB h1) (fun b Q hq => M_waiting_b1 l D z b P j k Q hi hB hq h1) (IV_up hi (Nat.le_add_right _ _))
  · obtain ⟨q, hq3, rfl⟩ := rng0 (k := k) (by decide) (fun h => h1 (Or.inr h))
    have hj0 : ¬ j < 0 := fun h => h1 (Or.inl h)
    obtain ⟨i, hi31, rfl⟩ := nI_of hj0
    by_cases h2 : sv_ps (p_s P) ≤ i
    · exact ST_mk (fun a J => X_waiting_b2 l D z a P i q J hi hB hi31 (by omega) h2) (fun b Q hq => M_waiting_b2 l D z b P i q Q hi hB hq hi31 (by omega) h2) (IV_up hi (Nat.le_add_right _ _))
    · have h3 : i < sv_ps (p_s P) := by omega
      rcases (show q = 0 ∨ q = 1 ∨ q = 2 ∨ q = 3 by omega) with rfl | rfl | rfl | rfl
      · exact ST_mk (fun a J => X_waiting_0 l D z a P i J hi hB h3) (fun b Q hq => M_waiting_0 l D z b P i Q hi hB hq h3) (IV_up hi (Nat.le_add_right _ _))
      · exact ST_mk (fun a J => X_waiting_1 l D z a P i J hi hB h3) (fun b Q hq => M_waiting_1 l D z b P i Q hi hB hq h3) (IV_up hi (Nat.le_add_right _ _))
      · exact ST_mk (fun a J => X_waiting_2 l D z a P i J hi hB h3) (fun b Q hq => M_waiting_2 l D z b P i Q hi hB hq h3) (IV_up hi (Nat.le_add_right _ _))
      · exact ST_mk (fun a J => X_waiting_3 l D z a P i J hi hB h3) (fun b Q hq => (M_waiting_3 l D z b P i Q hi hB hq h3).post (fun r w h => ⟨by rw [laM_o wy_lt]; exact h.1, h.2⟩)) (IV_up hi (Nat.le_add_right _ _))
set_option maxRecDepth 100000 in
set_option maxHeartbeats 4000000 in
theorem ST_sand (l : Launch) (D : va_G) (z : Nat × Nat × Nat) {P : PS} {Bd : Nat} (hi : IV Bd P) (hB : Bd < 1073741824) (r : Bool) (x : Int32) : ST l D z yX8_sand yX9_sand wsX8_sand wsX9_sand ({ frames := 1, cells := 0, slots := 0, locals := 21 } : Room) ({ frames := 1, cells := 0, slots := 0, locals := 22 } : Room) Bd P [.int (bB r), .int x] := by
  by_cases h1 : rgB x 12 = true
  · obtain ⟨i, hx, rfl⟩ := (rgB_iff (by decide)).mp h1
    cases r with
    | true => exact ST_mk (fun a J => X_sand_row l D z a P i J hi hB hx) (fun b Q hq => (M_sand_row l D z b P i Q hi hB hq hx).post (fun r w h => ⟨by rw [← sand_row _ hx]; exact h.1, h.2⟩)) (IV_up hi (Nat.le_add_right _ _))
    | false => exact ST_mk (fun a J => X_sand_col l D z a P i J hi hB hx) (fun b Q hq => (M_sand_col l D z b P i Q hi hB hq hx).post (fun r w h => ⟨by rw [← sand_col _ hx]; exact h.1, h.2⟩)) (IV_up hi (Nat.le_add_right _ _))
  · exact ST_mk (fun a J => X_sand_b1 l D z a P r x J hi hB (bf_of h1)) (fun b Q hq => M_sand_b1 l D z b P r x Q hi hB hq (bf_of h1)) (IV_up hi (Nat.le_add_right _ _))
set_option maxRecDepth 100000 in
set_option maxHeartbeats 4000000 in
theorem ST_count (l : Launch) (D : va_G) (z : Nat × Nat × Nat) {P : PS} {Bd : Nat} (hi : IV Bd P) (hB : Bd < 1073741824) (k : Int32) : ST l D z yX8_count yX9_count wsX8_count wsX9_count ({ frames := 6, cells := 0, slots := 0, locals := 138 } : Room) ({ frames := 6, cells := 0, slots := 0, locals := 134 } : Room) Bd P [.int k] := by
  rcases ix_c k (n := 17) (by decide) with hsw | ⟨q, hq17, rfl⟩
  · exact ST_mk (fun a J => X_count_b1 l D z a P k J hi hB hsw) (fun b Q hq => M_count_b1 l D z b P k Q hi hB hq hsw) (IV_up hi (Nat.le_add_right _ _))
  · rcases (show q = 0 ∨ q = 1 ∨ q = 2 ∨ q = 3 ∨ q = 4 ∨ q = 5 ∨ q = 6 ∨ q = 7 ∨ q = 8 ∨ q = 9 ∨ q = 10 ∨ q = 11 ∨ q = 12 ∨ q = 13 ∨ q = 14 ∨ q = 15 ∨ q = 16 by omega) with rfl | rfl | rfl | rfl | rfl | rfl | rfl | rfl | rfl | rfl | rfl | rfl | rfl | rfl | rfl | rfl | rfl
    · exact ST_mk (fun a J => X_count_0 l D z a P J hi hB ) (fun b Q hq => M_count_0 l D z b P Q hi hB hq ) (IV_up hi (Nat.le_add_right _ _))
    · exact ST_mk (fun a J => X_count_1 l D z a P J hi hB ) (fun b Q hq => M_count_1 l D z b P Q hi hB hq ) (IV_up hi (Nat.le_add_right _ _))
    · exact ST_mk (fun a J => X_count_2 l D z a P J hi hB ) (fun b Q hq => M_count_2 l D z b P Q hi hB hq ) (IV_up hi (Nat.le_add_right _ _))
    · exact ST_mk (fun a J => X_count_3 l D z a P J hi hB ) (fun b Q hq => M_count_3 l D z b P Q hi hB hq ) (IV_up hi (Nat.le_add_right _ _))
    · exact ST_mk (fun a J => X_count_4 l D z a P J hi hB ) (fun b Q hq => M_count_4 l D z b P Q hi hB hq ) (IV_up hi (Nat.le_add_right _ _))
    · exact ST_mk (fun a J => X_count_5 l D z a P J hi hB ) (fun b Q hq => M_count_5 l D z b P Q hi hB hq ) (IV_up hi (Nat.le_add_right _ _))
    · exact ST_mk (fun a J => X_count_6 l D z a P J hi hB ) (fun b Q hq => M_count_6 l D z b P Q hi hB hq ) (IV_up hi (Nat.le_add_right _ _))
    · exact ST_mk (fun a J => X_count_7 l D z a P J hi hB ) (fun b Q hq => M_count_7 l D z b P Q hi hB hq ) (IV_up hi (Nat.le_add_right _ _))
    · exact ST_mk (fun a J => X_count_8 l D z a P J hi hB ) (fun b Q hq => M_count_8 l D z b P Q hi hB hq ) (IV_up hi (Nat.le_add_right _ _))
    · exact ST_mk (fun a J => X_count_9 l D z a P J hi hB) (fun b Q hq => (M_count_9 l D z b P Q hi hB hq).post (fun r w h => ⟨by rw [cnt_ps _ (Nat.le_refl _)]; exact h.1, h.2⟩)) (IV_up hi (Nat.le_add_right _ _))
    · exact ST_mk (fun a J => X_count_10 l D z a P J hi hB ) (fun b Q hq => M_count_10 l D z b P Q hi hB hq ) (IV_up hi (Nat.le_add_right _ _))
    · exact ST_mk (fun a J => X_count_11 l D z a P J hi hB ) (fun b Q hq => M_count_11 l D z b P Q hi hB hq ) (IV_up hi (Nat.le_add_right _ _))
    · exact ST_mk (fun a J => X_count_12 l D z a P J hi hB ) (fun b Q hq => M_count_12 l D z b P Q hi hB hq ) (IV_up hi (Nat.le_add_right _ _))
    · exact ST_mk (fun a J => X_count_13 l D z a P J hi hB ) (fun b Q hq => M_count_13 l D z b P Q hi hB hq ) (IV_up hi (Nat.le_add_right _ _))
    · exact ST_mk (fun a J => X_count_14 l D z a P J hi hB ) (fun b Q hq => M_count_14 l D z b P Q hi hB hq ) (IV_up hi (Nat.le_add_right _ _))
    · exact ST_mk (fun a J => X_count_15 l D z a P J hi hB ) (fun b Q hq => M_count_15 l D z b P Q hi hB hq ) (IV_up hi (Nat.le_add_right _ _))
    · exact ST_mk (fun a J => X_count_16 l D z a P J hi hB ) (fun b Q hq => M_count_16 l D z b P Q hi hB hq ) (IV_up hi (Nat.le_add_right _ _))
set_option maxRecDepth 100000 in
set_option maxHeartbeats 4000000 in
theorem ST_clampAt (l : Launch) (D : va_G) (z : Nat × Nat × Nat) {P : PS} {Bd : Nat} (hi : IV Bd P) (hB : Bd < 1073741824) (x : Int32) (r : Bool) : ST l D z yX8_clampAt yX9_clampAt wsX8_clampAt wsX9_clampAt ({ frames := 1, cells := 0, slots := 0, locals := 21 } : Room) ({ frames := 1, cells := 0, slots := 0, locals := 22 } : Room) Bd P [.int x, .int (bB r)] := by
  have hok := hi.1
  by_cases h1 : rgB x (sv_nc (p_s P)) = true
  · obtain ⟨d, hd, rfl⟩ := (rgB_iff (by have := hok.1; omega)).mp h1
    exact ST_mk (fun a J => X_clampAt_ok l D z a P d r J hi hB hd) (fun b Q hq => M_clampAt_ok l D z b P d r Q hi hB hq hd) (IV_up hi (Nat.le_add_right _ _))
  · exact ST_mk (fun a J => X_clampAt_b1 l D z a P x r J hi hB (bf_of h1)) (fun b Q hq => M_clampAt_b1 l D z b P x r Q hi hB hq (bf_of h1)) (IV_up hi (Nat.le_add_right _ _))