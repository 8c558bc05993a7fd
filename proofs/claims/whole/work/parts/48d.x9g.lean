set_option maxHeartbeats 2000000 in
set_option maxRecDepth 100000 in
theorem kX9_swing_b2 (l : Launch) (D : va_G) (z : Nat × Nat × Nat) (u0 : Nat) (u1 : Nat) (u2 : Nat) (u3 : Nat) (u4 : Nat) (u5 : Nat) (u6 : Nat) (u7 : Nat) (u8 : Nat) (u9 : Nat) (u10 : Nat) (u11 : Nat) (kn : Nat) (ik : Bool) (ty : Nat) (ta : Nat) (iw : Bool) (w : Nat) (x : Int32) (y : Int32) (hw : w < 48) (hb : (rgB x 12 && rgB y 12) = false) : CM l yX9_swing wsX9_swing ({ frames := 2, cells := 0, slots := 0, locals := 43 } : Room) D z [.ref u0, .int (nI w), .int x, .int y] [(u0, .inr (9, [.ref u1, .ref u2, .ref u3, .ref u4, .ref u5, .ref u6, .int (nI kn), .ref u7, .int (bB ik), .ref u8, .int (nI ty), .ref u9, .int (nI ta), .int (bB iw), .ref u10, .ref u11]))] (fun r_ w_ => r_ = some (.int (-1)) ∧ w_ = [(u0, .inr (9, [.ref u1, .ref u2, .ref u3, .ref u4, .ref u5, .ref u6, .int (nI kn), .ref u7, .int (bB ik), .ref u8, .int (nI ty), .ref u9, .int (nI ta), .int (bB iw), .ref u10, .ref u11]))]) 0 0 := by
  refine CM_int (own := RX9) (cc := cX9_swing) (maxL := 4) (L0 := [(0, .ref u0), (1, .int (nI w)), (2, .int x), (3, .int y)]) (by decide) rfl rfl (Nat.le_of_ble_eq_true rfl) rfl (fun X O E => ?_)
  refine g_iload_n O dX9_swing_0 1 rfl rfl ?_
  refine g_callS (As := [.int (nI w)]) (wr := [(u0, .inr (9, [.ref u1, .ref u2, .ref u3, .ref u4, .ref u5, .ref u6, .int (nI kn), .ref u7, .int (bB ik), .ref u8, .int (nI ty), .ref u9, .int (nI ta), .int (bB iw), .ref u10, .ref u11]))]) O (kX9_isWay l D z (nI w) ) gX9_swing_X9_isWay rfl rfl rfl 1 (by decide +kernel) (by decide) (by decide) [] [0] rfl (by decide) rfl (by decide) (by decide) rfl rfl (Nat.le_of_ble_eq_true rfl) dX9_swing_1 (fun r_1 w_2 hp => ?_)
  obtain ⟨rfl, rfl⟩ := hp
  refine g_eq (st' := [.int (bB (rgB (nI w) 48))]) (ws' := [(u0, .inr (9, [.ref u1, .ref u2, .ref u3, .ref u4, .ref u5, .ref u6, .int (nI kn), .ref u7, .int (bB ik), .ref u8, .int (nI ty), .ref u9, .int (nI ta), .int (bB iw), .ref u10, .ref u11]))]) rfl rfl rfl ?_
  refine g_if_eqB (tgt := 29) O dX9_swing_4 (by decide) (fun c_3 => absurd c_3 (by rw [rgB_t hw (by decide)]; decide)) (fun c_3 => ?_)
  refine g_iload_n O dX9_swing_7 2 rfl rfl ?_
  refine g_iload_n O dX9_swing_8 3 rfl rfl ?_
  refine g_callS (As := [.int x, .int y]) (wr := [(u0, .inr (9, [.ref u1, .ref u2, .ref u3, .ref u4, .ref u5, .ref u6, .int (nI kn), .ref u7, .int (bB ik), .ref u8, .int (nI ty), .ref u9, .int (nI ta), .int (bB iw), .ref u10, .ref u11]))]) O (kX9_isOn l D z x y ) gX9_swing_X9_isOn rfl rfl rfl 2 (by decide +kernel) (by decide) (by decide) [] [0] rfl (by decide) rfl (by decide) (by decide) rfl rfl (Nat.le_of_ble_eq_true rfl) dX9_swing_9 (fun r_4 w_5 hp => ?_)
  obtain ⟨rfl, rfl⟩ := hp
  refine g_eq (st' := [.int (bB (rgB x 12 && rgB y 12))]) (ws' := [(u0, .inr (9, [.ref u1, .ref u2, .ref u3, .ref u4, .ref u5, .ref u6, .int (nI kn), .ref u7, .int (bB ik), .ref u8, .int (nI ty), .ref u9, .int (nI ta), .int (bB iw), .ref u10, .ref u11]))]) rfl rfl rfl ?_
  refine g_if_eqB (tgt := 29) O dX9_swing_12 (by decide) (fun c_6 => ?_) (fun c_6 => absurd c_6 (by rw [hb]; decide))
  refine g_iconst (x := (-1)) O dX9_swing_29 (by decide +kernel) ?_
  exact E 30 _ (-1) _ dX9_swing_30 ⟨rfl, rfl⟩

set_option maxHeartbeats 2000000 in
set_option maxRecDepth 100000 in
theorem kX9_swing_ok (l : Launch) (D : va_G) (z : Nat × Nat × Nat) (u0 : Nat) (u1 : Nat) (u2 : Nat) (u3 : Nat) (u4 : Nat) (u5 : Nat) (u6 : Nat) (u7 : Nat) (u8 : Nat) (u9 : Nat) (u10 : Nat) (u11 : Nat) (kn : Nat) (ik : Bool) (ty : Nat) (ta : Nat) (iw : Bool) (w : Nat) (x : Nat) (y : Nat) (hw : w < 48) (hx : x < 12) (hy : y < 12) : CM l yX9_swing wsX9_swing ({ frames := 2, cells := 0, slots := 0, locals := 43 } : Room) D z [.ref u0, .int (nI w), .int (nI x), .int (nI y)] [(u0, .inr (9, [.ref u1, .ref u2, .ref u3, .ref u4, .ref u5, .ref u6, .int (nI kn), .ref u7, .int (bB ik), .ref u8, .int (nI ty), .ref u9, .int (nI ta), .int (bB iw), .ref u10, .ref u11])), (u4, .inl (tyI D, 6912, .inl SWT))] (fun r_ w_ => r_ = some (.int (SW w (12 * y + x))) ∧ w_ = [(u0, .inr (9, [.ref u1, .ref u2, .ref u3, .ref u4, .ref u5, .ref u6, .int (nI kn), .ref u7, .int (bB ik), .ref u8, .int (nI ty), .ref u9, .int (nI ta), .int (bB iw), .ref u10, .ref u11])), (u4, .inl (tyI D, 6912, .inl SWT))]) 0 0 := by
  refine CM_int (own := RX9) (cc := cX9_swing) (maxL := 4) (L0 := [(0, .ref u0), (1, .int (nI w)), (2, .int (nI x)), (3, .int (nI y))]) (by decide) rfl rfl (Nat.le_of_ble_eq_true rfl) rfl (fun X O E => ?_)
  refine g_iload_n O dX9_swing_0 1 rfl rfl ?_
  refine g_callS (As := [.int (nI w)]) (wr := [(u0, .inr (9, [.ref u1, .ref u2, .ref u3, .ref u4, .ref u5, .ref u6, .int (nI kn), .ref u7, .int (bB ik), .ref u8, .int (nI ty), .ref u9, .int (nI ta), .int (bB iw), .ref u10, .ref u11])), (u4, .inl (tyI D, 6912, .inl SWT))]) O (kX9_isWay l D z (nI w) ) gX9_swing_X9_isWay rfl rfl rfl 1 (by decide +kernel) (by decide) (by decide) [] [0, 1] rfl (by decide) rfl (by decide) (by decide) rfl rfl (Nat.le_of_ble_eq_true rfl) dX9_swing_1 (fun r_1 w_2 hp => ?_)
  obtain ⟨rfl, rfl⟩ := hp
  refine g_eq (st' := [.int (bB (rgB (nI w) 48))]) (ws' := [(u0, .inr (9, [.ref u1, .ref u2, .ref u3, .ref u4, .ref u5, .ref u6, .int (nI kn), .ref u7, .int (bB ik), .ref u8, .int (nI ty), .ref u9, .int (nI ta), .int (bB iw), .ref u10, .ref u11])), (u4, .inl (tyI D, 6912, .inl SWT))]) rfl rfl rfl ?_
  refine g_if_eqB (tgt := 29) O dX9_swing_4 (by decide) (fun c_3 => absurd c_3 (by rw [rgB_t hw (by decide)]; decide)) (fun c_3 => ?_)
  refine g_iload_n O dX9_swing_7 2 rfl rfl ?_
  refine g_iload_n O dX9_swing_8 3 rfl rfl ?_
  refine g_callS (As := [.int (nI x), .int (nI y)]) (wr := [(u0, .inr (9, [.ref u1, .ref u2, .ref u3, .ref u4, .ref u5, .ref u6, .int (nI kn), .ref u7, .int (bB ik), .ref u8, .int (nI ty), .ref u9, .int (nI ta), .int (bB iw), .ref u10, .ref u11])), (u4, .inl (tyI D, 6912, .inl SWT))]) O (kX9_isOn l D z (nI x) (nI y) ) gX9_swing_X9_isOn rfl rfl rfl 2 (by decide +kernel) (by decide) (by decide) [] [0, 1] rfl (by decide) rfl (by decide) (by decide) rfl rfl (Nat.le_of_ble_eq_true rfl) dX9_swing_9 (fun r_4 w_5 hp => ?_)
  obtain ⟨rfl, rfl⟩ := hp
  refine g_eq (st' := [.int (bB (rgB (nI x) 12 && rgB (nI y) 12))]) (ws' := [(u0, .inr (9, [.ref u1, .ref u2, .ref u3, .ref u4, .ref u5, .ref u6, .int (nI kn), .ref u7, .int (bB ik), .ref u8, .int (nI ty), .ref u9, .int (nI ta), .int (bB iw), .ref u10, .ref u11])), (u4, .inl (tyI D, 6912, .inl SWT))]) rfl rfl rfl ?_
  refine g_if_eqB (tgt := 29) O dX9_swing_12 (by decide) (fun c_6 => absurd c_6 (by rw [rgB_t hx (by decide), rgB_t hy (by decide)]; decide)) (fun c_6 => ?_)
  refine g_aload_n O dX9_swing_15 0 rfl rfl ?_
  refine g_iload_n O dX9_swing_16 1 rfl rfl ?_
  refine g_bipush (x := (nI 12)) O dX9_swing_17 (by decide +kernel) ?_
  refine g_iload_n O dX9_swing_19 3 rfl rfl ?_
  refine g_imulN O dX9_swing_20 ?_
  refine g_iload_n O dX9_swing_21 2 rfl rfl ?_
  refine g_iaddN O dX9_swing_22 ?_
  refine g_callV (As := [.int (nI w), .int (nI ((12 * y) + x))]) (wr := []) O (kX9_swingAt l D z u0 u1 u2 u3 u4 u5 u6 u7 u8 u9 u10 u11 kn ik ty ta iw w ((12 * y) + x) (by first | assumption | omega) (by first | assumption | omega)) gX9_swing_X9_swingAt rfl rfl rfl 2 (by decide +kernel) (by decide) (by decide) (q0 := 0) rfl rfl rfl [0, 1] [] rfl (by decide) rfl (by decide) (by decide) rfl rfl (Nat.le_of_ble_eq_true rfl) dX9_swing_23 (fun r_7 w_8 hp => ?_)
  obtain ⟨rfl, rfl⟩ := hp
  refine g_eq (st' := [.int (SW w ((12 * y) + x))]) (ws' := [(u0, .inr (9, [.ref u1, .ref u2, .ref u3, .ref u4, .ref u5, .ref u6, .int (nI kn), .ref u7, .int (bB ik), .ref u8, .int (nI ty), .ref u9, .int (nI ta), .int (bB iw), .ref u10, .ref u11])), (u4, .inl (tyI D, 6912, .inl SWT))]) rfl rfl rfl ?_
  refine g_goto (tgt := 30) O dX9_swing_26 (by decide) ?_
  exact E 30 _ (SW w ((12 * y) + x)) _ dX9_swing_30 ⟨rfl, rfl⟩

set_option maxHeartbeats 2000000 in
set_option maxRecDepth 100000 in
theorem kX9_sounds_b1 (l : Launch) (D : va_G) (z : Nat × Nat × Nat) (u0 : Nat) (u1 : Nat) (u2 : Nat) (u3 : Nat) (u4 : Nat) (u5 : Nat) (u6 : Nat) (u7 : Nat) (u8 : Nat) (u9 : Nat) (u10 : Nat) (u11 : Nat) (kn : Nat) (ik : Bool) (ty : Nat) (ta : Nat) (iw : Bool) (x : Int32) (y : Int32) (hb : (rgB x 4 && rgB y 12) = false) : CM l yX9_sounds wsX9_sounds ({ frames := 4, cells := 0, slots := 0, locals := 89 } : Room) D z [.ref u0, .int x, .int y] [(u0, .inr (9, [.ref u1, .ref u2, .ref u3, .ref u4, .ref u5, .ref u6, .int (nI kn), .ref u7, .int (bB ik), .ref u8, .int (nI ty), .ref u9, .int (nI ta), .int (bB iw), .ref u10, .ref u11]))] (fun r_ w_ => r_ = some (.int (-1)) ∧ w_ = [(u0, .inr (9, [.ref u1, .ref u2, .ref u3, .ref u4, .ref u5, .ref u6, .int (nI kn), .ref u7, .int (bB ik), .ref u8, .int (nI ty), .ref u9, .int (nI ta), .int (bB iw), .ref u10, .ref u11]))]) 0 0 := by
  refine CM_int (own := RX9) (cc := cX9_sounds) (maxL := 3) (L0 := [(0, .ref u0), (1, .int x), (2, .int y)]) (by decide) rfl rfl (Nat.le_of_ble_eq_true rfl) rfl (fun X O E => ?_)
  refine g_iload_n O dX9_sounds_0 1 rfl rfl ?_
  refine g_iload_n O dX9_sounds_1 2 rfl rfl ?_
  refine g_callS (As := [.int x, .int y]) (wr := [(u0, .inr (9, [.ref u1, .ref u2, .ref u3, .ref u4, .ref u5, .ref u6, .int (nI kn), .ref u7, .int (bB ik), .ref u8, .int (nI ty), .ref u9, .int (nI ta), .int (bB iw), .ref u10, .ref u11]))]) O (kX9_isBow l D z x y ) gX9_sounds_X9_isBow rfl rfl rfl 2 (by decide +kernel) (by decide) (by decide) [] [0] rfl (by decide) rfl (by decide) (by decide) rfl rfl (Nat.le_of_ble_eq_true rfl) dX9_sounds_2 (fun r_1 w_2 hp => ?_)
  obtain ⟨rfl, rfl⟩ := hp
  refine g_eq (st' := [.int (bB (rgB x 4 && rgB y 12))]) (ws' := [(u0, .inr (9, [.ref u1, .ref u2, .ref u3, .ref u4, .ref u5, .ref u6, .int (nI kn), .ref u7, .int (bB ik), .ref u8, .int (nI ty), .ref u9, .int (nI ta), .int (bB iw), .ref u10, .ref u11]))]) rfl rfl rfl ?_
  refine g_if_eqB (tgt := 20) O dX9_sounds_5 (by decide) (fun c_3 => ?_) (fun c_3 => absurd c_3 (by rw [hb]; decide))
  refine g_iconst (x := (-1)) O dX9_sounds_20 (by decide +kernel) ?_
  exact E 21 _ (-1) _ dX9_sounds_21 ⟨rfl, rfl⟩

set_option maxHeartbeats 2000000 in
set_option maxRecDepth 100000 in
theorem kX9_sounds_ok (l : Launch) (D : va_G) (z : Nat × Nat × Nat) (u0 : Nat) (u1 : Nat) (u2 : Nat) (u3 : Nat) (u4 : Nat) (u5 : Nat) (u6 : Nat) (u7 : Nat) (u8 : Nat) (u9 : Nat) (u10 : Nat) (u11 : Nat) (kn : Nat) (ik : Bool) (ty : Nat) (ta : Nat) (iw : Bool) (M : Nat → Int32) (s : SV) (x : Nat) (y : Nat) (hx : x < 4) (hy : y < 12) (hM : RM M s) (hnc : sv_nc s ≤ 4) (hcc : ∀ j, j < sv_nc s → sv_cc s j < 12 ∧ sv_cr s j < 12) : CM l yX9_sounds wsX9_sounds ({ frames := 4, cells := 0, slots := 0, locals := 89 } : Room) D z [.ref u0, .int (nI x), .int (nI y)] [(u0, .inr (9, [.ref u1, .ref u2, .ref u3, .ref u4, .ref u5, .ref u6, .int (nI kn), .ref u7, .int (bB ik), .ref u8, .int (nI ty), .ref u9, .int (nI ta), .int (bB iw), .ref u10, .ref u11])), (u4, .inl (tyI D, 6912, .inl SWT)), (u5, .inl (tyI D, 208, .inl M))] (fun r_ w_ => r_ = some (.int (orN (wyO s (bpN x y)))) ∧ w_ = [(u0, .inr (9, [.ref u1, .ref u2, .ref u3, .ref u4, .ref u5, .ref u6, .int (nI kn), .ref u7, .int (bB ik), .ref u8, .int (nI ty), .ref u9, .int (nI ta), .int (bB iw), .ref u10, .ref u11])), (u4, .inl (tyI D, 6912, .inl SWT)), (u5, .inl (tyI D, 208, .inl M))]) 0 0 := by
  refine CM_int (own := RX9) (cc := cX9_sounds) (maxL := 3) (L0 := [(0, .ref u0), (1, .int (nI x)), (2, .int (nI y))]) (by decide) rfl rfl (Nat.le_of_ble_eq_true rfl) rfl (fun X O E => ?_)
  refine g_iload_n O dX9_sounds_0 1 rfl rfl ?_
  refine g_iload_n O dX9_sounds_1 2 rfl rfl ?_
  refine g_callS (As := [.int (nI x), .int (nI y)]) (wr := [(u0, .inr (9, [.ref u1, .ref u2, .ref u3, .ref u4, .ref u5, .ref u6, .int (nI kn), .ref u7, .int (bB ik), .ref u8, .int (nI ty), .ref u9, .int (nI ta), .int (bB iw), .ref u10, .ref u11])), (u4, .inl (tyI D, 6912, .inl SWT)), (u5, .inl (tyI D, 208, .inl M))]) O (kX9_isBow l D z (nI x) (nI y) ) gX9_sounds_X9_isBow rfl rfl rfl 2 (by decide +kernel) (by decide) (by decide) [] [0, 1, 2] rfl (by decide) rfl (by decide) (by decide) rfl rfl (Nat.le_of_ble_eq_true rfl) dX9_sounds_2 (fun r_1 w_2 hp => ?_)
  obtain ⟨rfl, rfl⟩ := hp
  refine g_eq (st' := [.int (bB (rgB (nI x) 4 && rgB (nI y) 12))]) (ws' := [(u0, .inr (9, [.ref u1, .ref u2, .ref u3, .ref u4, .ref u5, .ref u6, .int (nI kn), .ref u7, .int (bB ik), .ref u8, .int (nI ty), .ref u9, .int (nI ta), .int (bB iw), .ref u10, .ref u11])), (u4, .inl (tyI D, 6912, .inl SWT)), (u5, .inl (tyI D, 208, .inl M))]) rfl rfl rfl ?_
  refine g_if_eqB (tgt := 20) O dX9_sounds_5 (by decide) (fun c_3 => absurd c_3 (by rw [rgB_t hx (by decide), rgB_t hy (by decide)]; decide)) (fun c_3 => ?_)
  refine g_aload_n O dX9_sounds_8 0 rfl rfl ?_
  refine g_iload_n O dX9_sounds_9 1 rfl rfl ?_
  refine g_iload_n O dX9_sounds_10 2 rfl rfl ?_
  refine g_callS (As := [.int (nI x), .int (nI y)]) (wr := [(u0, .inr (9, [.ref u1, .ref u2, .ref u3, .ref u4, .ref u5, .ref u6, .int (nI kn), .ref u7, .int (bB ik), .ref u8, .int (nI ty), .ref u9, .int (nI ta), .int (bB iw), .ref u10, .ref u11])), (u4, .inl (tyI D, 6912, .inl SWT)), (u5, .inl (tyI D, 208, .inl M))]) O (kX9_bowPlace l D z x y (by first | assumption | omega)) gX9_sounds_X9_bowPlace rfl rfl rfl 2 (by decide +kernel) (by decide) (by decide) [] [0, 1, 2] rfl (by decide) rfl (by decide) (by decide) rfl rfl (Nat.le_of_ble_eq_true rfl) dX9_sounds_11 (fun r_4 w_5 hp => ?_)
  obtain ⟨rfl, rfl⟩ := hp
  refine g_eq (st' := [.int (nI (bpN x y)), .ref u0]) (ws' := [(u0, .inr (9, [.ref u1, .ref u2, .ref u3, .ref u4, .ref u5, .ref u6, .int (nI kn), .ref u7, .int (bB ik), .ref u8, .int (nI ty), .ref u9, .int (nI ta), .int (bB iw), .ref u10, .ref u11])), (u4, .inl (tyI D, 6912, .inl SWT)), (u5, .inl (tyI D, 208, .inl M))]) rfl rfl rfl ?_
  refine g_callV (As := [.int (nI (bpN x y))]) (wr := []) O (kX9_soundsAt l D z u0 u1 u2 u3 u4 u5 u6 u7 u8 u9 u10 u11 kn ik ty ta iw M s (bpN x y) (by first | assumption | exact bpN_lt hy) (by first | assumption | exact bpN_lt hy) (by first | assumption | exact bpN_lt hy) (by first | assumption | exact bpN_lt hy)) gX9_sounds_X9_soundsAt rfl rfl rfl 1 (by decide +kernel) (by decide) (by decide) (q0 := 0) rfl rfl rfl [0, 1, 2] [] rfl (by decide) rfl (by decide) (by decide) rfl rfl (Nat.le_of_ble_eq_true rfl) dX9_sounds_14 (fun r_6 w_7 hp => ?_)
  obtain ⟨rfl, rfl⟩ := hp
  refine g_eq (st' := [.int (orN (wyO s (bpN x y)))]) (ws' := [(u0, .inr (9, [.ref u1, .ref u2, .ref u3, .ref u4, .ref u5, .ref u6, .int (nI kn), .ref u7, .int (bB ik), .ref u8, .int (nI ty), .ref u9, .int (nI ta), .int (bB iw), .ref u10, .ref u11])), (u4, .inl (tyI D, 6912, .inl SWT)), (u5, .inl (tyI D, 208, .inl M))]) rfl rfl rfl ?_
  refine g_goto (tgt := 21) O dX9_sounds_17 (by decide) ?_
  exact E 21 _ (orN (wyO s (bpN x y))) _ dX9_sounds_21 ⟨rfl, rfl⟩

set_option maxHeartbeats 2000000 in
set_option maxRecDepth 100000 in
theorem kX9_why_b1 (l : Launch) (D : va_G) (z : Nat × Nat × Nat) (u0 : Nat) (u1 : Nat) (u2 : Nat) (u3 : Nat) (u4 : Nat) (u5 : Nat) (u6 : Nat) (u7 : Nat) (u8 : Nat) (u9 : Nat) (u10 : Nat) (u11 : Nat) (kn : Nat) (ik : Bool) (ty : Nat) (ta : Nat) (iw : Bool) (w : Int32) (x : Int32) (y : Int32) (hb : rgB w 48 = false) : CM l yX9_why wsX9_why ({ frames := 4, cells := 0, slots := 0, locals := 89 } : Room) D z [.ref u0, .int w, .int x, .int y] [(u0, .inr (9, [.ref u1, .ref u2, .ref u3, .ref u4, .ref u5, .ref u6, .int (nI kn), .ref u7, .int (bB ik), .ref u8, .int (nI ty), .ref u9, .int (nI ta), .int (bB iw), .ref u10, .ref u11]))] (fun r_ w_ => r_ = some (.int (-1)) ∧ w_ = [(u0, .inr (9, [.ref u1, .ref u2, .ref u3, .ref u4, .ref u5, .ref u6, .int (nI kn), .ref u7, .int (bB ik), .ref u8, .int (nI ty), .ref u9, .int (nI ta), .int (bB iw), .ref u10, .ref u11]))]) 0 0 := by
  refine CM_int (own := RX9) (cc := cX9_why) (maxL := 5) (L0 := [(0, .ref u0), (1, .int w), (2, .int x), (3, .int y)]) (by decide) rfl rfl (Nat.le_of_ble_eq_true rfl) rfl (fun X O E => ?_)
  refine g_iload_n O dX9_why_0 1 rfl rfl ?_
  refine g_callS (As := [.int w]) (wr := [(u0, .inr (9, [.ref u1, .ref u2, .ref u3, .ref u4, .ref u5, .ref u6, .int (nI kn), .ref u7, .int (bB ik), .ref u8, .int (nI ty), .ref u9, .int (nI ta), .int (bB iw), .ref u10, .ref u11]))]) O (kX9_isWay l D z w ) gX9_why_X9_isWay rfl rfl rfl 1 (by decide +kernel) (by decide) (by decide) [] [0] rfl (by decide) rfl (by decide) (by decide) rfl rfl (Nat.le_of_ble_eq_true rfl) dX9_why_1 (fun r_1 w_2 hp => ?_)
  obtain ⟨rfl, rfl⟩ := hp
  refine g_eq (st' := [.int (bB (rgB w 48))]) (ws' := [(u0, .inr (9, [.ref u1, .ref u2, .ref u3, .ref u4, .ref u5, .ref u6, .int (nI kn), .ref u7, .int (bB ik), .ref u8, .int (nI ty), .ref u9, .int (nI ta), .int (bB iw), .ref u10, .ref u11]))]) rfl rfl rfl ?_
  refine g_if_eqB (tgt := 15) O dX9_why_4 (by decide) (fun c_3 => ?_) (fun c_3 => absurd c_3 (by rw [hb]; decide))
  refine g_iconst (x := (-1)) O dX9_why_15 (by decide +kernel) ?_
  exact E 16 _ (-1) _ dX9_why_16 ⟨rfl, rfl⟩

set_option maxHeartbeats 2000000 in
set_option maxRecDepth 100000 in
theorem kX9_why_b2 (l : Launch) (D : va_G) (z : Nat × Nat × Nat) (u0 : Nat) (u1 : Nat) (u2 : Nat) (u3 : Nat) (u4 : Nat) (u5 : Nat) (u6 : Nat) (u7 : Nat) (u8 : Nat) (u9 : Nat) (u10 : Nat) (u11 : Nat) (kn : Nat) (ik : Bool) (ty : Nat) (ta : Nat) (iw : Bool) (w : Nat) (x : Int32) (y : Int32) (hw : w < 48) (hb : (rgB x 4 && rgB y 12) = false) : CM l yX9_why wsX9_why ({ frames := 4, cells := 0, slots := 0, locals := 89 } : Room) D z [.ref u0, .int (nI w), .int x, .int y] [(u0, .inr (9, [.ref u1, .ref u2, .ref u3, .ref u4, .ref u5, .ref u6, .int (nI kn), .ref u7, .int (bB ik), .ref u8, .int (nI ty), .ref u9, .int (nI ta), .int (bB iw), .ref u10, .ref u11]))] (fun r_ w_ => r_ = some (.int (-1)) ∧ w_ = [(u0, .inr (9, [.ref u1, .ref u2, .ref u3, .ref u4, .ref u5, .ref u6, .int (nI kn), .ref u7, .int (bB ik), .ref u8, .int (nI ty), .ref u9, .int (nI ta), .int (bB iw), .ref u10, .ref u11]))]) 0 0 := by
  refine CM_int (own := RX9) (cc := cX9_why) (maxL := 5) (L0 := [(0, .ref u0), (1, .int (nI w)), (2, .int x), (3, .int y)]) (by decide) rfl rfl (Nat.le_of_ble_eq_true rfl) rfl (fun X O E => ?_)
  refine g_iload_n O dX9_why_0 1 rfl rfl ?_
  refine g_callS (As := [.int (nI w)]) (wr := [(u0, .inr (9, [.ref u1, .ref u2, .ref u3, .ref u4, .ref u5, .ref u6, .int (nI kn), .ref u7, .int (bB ik), .ref u8, .int (nI ty), .ref u9, .int (nI ta), .int (bB iw), .ref u10, .ref u11]))]) O (kX9_isWay l D z (nI w) ) gX9_why_X9_isWay rfl rfl rfl 1 (by decide +kernel) (by decide) (by decide) [] [0] rfl (by decide) rfl (by decide) (by decide) rfl rfl (Nat.le_of_ble_eq_true rfl) dX9_why_1 (fun r_1 w_2 hp => ?_)
  obtain ⟨rfl, rfl⟩ := hp
  refine g_eq (st' := [.int (bB (rgB (nI w) 48))]) (ws' := [(u0, .inr (9, [.ref u1, .ref u2, .ref u3, .ref u4, .ref u5, .ref u6, .int (nI kn), .ref u7, .int (bB ik), .ref u8, .int (nI ty), .ref u9, .int (nI ta), .int (bB iw), .ref u10, .ref u11]))]) rfl rfl rfl ?_
  refine g_if_eqB (tgt := 15) O dX9_why_4 (by decide) (fun c_3 => absurd c_3 (by rw [rgB_t hw (by decide)]; decide)) (fun c_3 => ?_)
  refine g_iload_n O dX9_why_7 2 rfl rfl ?_
  refine g_iload_n O dX9_why_8 3 rfl rfl ?_
  refine g_callS (As := [.int x, .int y]) (wr := [(u0, .inr (9, [.ref u1, .ref u2, .ref u3, .ref u4, .ref u5, .ref u6, .int (nI kn), .ref u7, .int (bB ik), .ref u8, .int (nI ty), .ref u9, .int (nI ta), .int (bB iw), .ref u10, .ref u11]))]) O (kX9_isBow l D z x y ) gX9_why_X9_isBow rfl rfl rfl 2 (by decide +kernel) (by decide) (by decide) [] [0] rfl (by decide) rfl (by decide) (by decide) rfl rfl (Nat.le_of_ble_eq_true rfl) dX9_why_9 (fun r_4 w_5 hp => ?_)
  obtain ⟨rfl, rfl⟩ := hp
  refine g_eq (st' := [.int (bB (rgB x 4 && rgB y 12))]) (ws' := [(u0, .inr (9, [.ref u1, .ref u2, .ref u3, .ref u4, .ref u5, .ref u6, .int (nI kn), .ref u7, .int (bB ik), .ref u8, .int (nI ty), .ref u9, .int (nI ta), .int (bB iw), .ref u10, .ref u11]))]) rfl rfl rfl ?_
  refine g_if_neB (tgt := 17) O dX9_why_12 (by decide) (fun c_6 => absurd c_6 (by rw [hb]; decide)) (fun c_6 => ?_)
  refine g_iconst (x := (-1)) O dX9_why_15 (by decide +kernel) ?_
  exact E 16 _ (-1) _ dX9_why_16 ⟨rfl, rfl⟩

theorem hiX9_why_X9 : ∀ w ∈ wsX90, w ∈ wsX9_why := by intro w h; simp only [wsX9_why, List.mem_append, List.mem_cons, h, or_true, true_or]
set_option maxHeartbeats 2000000 in
set_option maxRecDepth 100000 in
theorem kX9_why_ok (l : Launch) (D : va_G) (z : Nat × Nat × Nat) (u0 : Nat) (u1 : Nat) (u2 : Nat) (u3 : Nat) (u4 : Nat) (u5 : Nat) (u6 : Nat) (u7 : Nat) (u8 : Nat) (u9 : Nat) (u10 : Nat) (u11 : Nat) (kn : Nat) (ik : Bool) (ty : Nat) (ta : Nat) (iw : Bool) (M : Nat → Int32) (s : SV) (w : Nat) (x : Nat) (y : Nat) (hw : w < 48) (hx : x < 4) (hy : y < 12) (hM : RM M s) (hnc : sv_nc s ≤ 4) (hcc : ∀ j, j < sv_nc s → sv_cc s j < 12 ∧ sv_cr s j < 12) : CM l yX9_why wsX9_why ({ frames := 4, cells := 0, slots := 0, locals := 89 } : Room) D z [.ref u0, .int (nI w), .int (nI x), .int (nI y)] [(u0, .inr (9, [.ref u1, .ref u2, .ref u3, .ref u4, .ref u5, .ref u6, .int (nI kn), .ref u7, .int (bB ik), .ref u8, .int (nI ty), .ref u9, .int (nI ta), .int (bB iw), .ref u10, .ref u11])), (u4, .inl (tyI D, 6912, .inl SWT)), (u5, .inl (tyI D, 208, .inl M))] (fun r_ w_ => r_ = some (.int (nI (rsN s w (bpN x y)))) ∧ w_ = [(u0, .inr (9, [.ref u1, .ref u2, .ref u3, .ref u4, .ref u5, .ref u6, .int (nI kn), .ref u7, .int (bB ik), .ref u8, .int (nI ty), .ref u9, .int (nI ta), .int (bB iw), .ref u10, .ref u11])), (u4, .inl (tyI D, 6912, .inl SWT)), (u5, .inl (tyI D, 208, .inl M))]) 0 0 := by
  refine CM_int (own := RX9) (cc := cX9_why) (maxL := 5) (L0 := [(0, .ref u0), (1, .int (nI w)), (2, .int (nI x)), (3, .int (nI y))]) (by decide) rfl rfl (Nat.le_of_ble_eq_true rfl) rfl (fun X O E => ?_)
  refine g_iload_n O dX9_why_0 1 rfl rfl ?_
  refine g_callS (As := [.int (nI w)]) (wr := [(u0, .inr (9, [.ref u1, .ref u2, .ref u3, .ref u4, .ref u5, .ref u6, .int (nI kn), .ref u7, .int (bB ik), .ref u8, .int (nI ty), .ref u9, .int (nI ta), .int (bB iw), .ref u10, .ref u11])), (u4, .inl (tyI D, 6912, .inl SWT)), (u5, .inl (tyI D, 208, .inl M))]) O (kX9_isWay l D z (nI w) ) gX9_why_X9_isWay rfl rfl rfl 1 (by decide +kernel) (by decide) (by decide) [] [0, 1, 2] rfl (by decide) rfl (by decide) (by decide) rfl rfl (Nat.le_of_ble_eq_true rfl) dX9_why_1 (fun r_1 w_2 hp => ?_)
  obtain ⟨rfl, rfl⟩ := hp
  refine g_eq (st' := [.int (bB (rgB (nI w) 48))]) (ws' := [(u0, .inr (9, [.ref u1, .ref u2, .ref u3, .ref u4, .ref u5, .ref u6, .int (nI kn), .ref u7, .int (bB ik), .ref u8, .int (nI ty), .ref u9, .int (nI ta), .int (bB iw), .ref u10, .ref u11])), (u4, .inl (tyI D, 6912, .inl SWT)), (u5, .inl (tyI D, 208, .inl M))]) rfl rfl rfl ?_
  refine g_if_eqB (tgt := 15) O dX9_why_4 (by decide) (fun c_3 => absurd c_3 (by rw [rgB_t hw (by decide)]; decide)) (fun c_3 => ?_)
  refine g_iload_n O dX9_why_7 2 rfl rfl ?_
  refine g_iload_n O dX9_why_8 3 rfl rfl ?_
  refine g_callS (As := [.int (nI x), .int (nI y)]) (wr := [(u0, .inr (9, [.ref u1, .ref u2, .ref u3, .ref u4, .ref u5, .ref u6, .int (nI kn), .ref u7, .int (bB ik), .ref u8, .int (nI ty), .ref u9, .int (nI ta), .int (bB iw), .ref u10, .ref u11])), (u4, .inl (tyI D, 6912, .inl SWT)), (u5, .inl (tyI D, 208, .inl M))]) O (kX9_isBow l D z (nI x) (nI y) ) gX9_why_X9_isBow rfl rfl rfl 2 (by decide +kernel) (by decide) (by decide) [] [0, 1, 2] rfl (by decide) rfl (by decide) (by decide) rfl rfl (Nat.le_of_ble_eq_true rfl) dX9_why_9 (fun r_4 w_5 hp => ?_)
  obtain ⟨rfl, rfl⟩ := hp
  refine g_eq (st' := [.int (bB (rgB (nI x) 4 && rgB (nI y) 12))]) (ws' := [(u0, .inr (9, [.ref u1, .ref u2, .ref u3, .ref u4, .ref u5, .ref u6, .int (nI kn), .ref u7, .int (bB ik), .ref u8, .int (nI ty), .ref u9, .int (nI ta), .int (bB iw), .ref u10, .ref u11])), (u4, .inl (tyI D, 6912, .inl SWT)), (u5, .inl (tyI D, 208, .inl M))]) rfl rfl rfl ?_
  refine g_if_neB (tgt := 17) O dX9_why_12 (by decide) (fun c_6 => ?_) (fun c_6 => absurd c_6 (by rw [rgB_t hx (by decide), rgB_t hy (by decide)]; decide))
  refine g_iload_n O dX9_why_17 2 rfl rfl ?_
  refine g_iload_n O dX9_why_18 3 rfl rfl ?_
  refine g_callS (As := [.int (nI x), .int (nI y)]) (wr := [(u0, .inr (9, [.ref u1, .ref u2, .ref u3, .ref u4, .ref u5, .ref u6, .int (nI kn), .ref u7, .int (bB ik), .ref u8, .int (nI ty), .ref u9, .int (nI ta), .int (bB iw), .ref u10, .ref u11])), (u4, .inl (tyI D, 6912, .inl SWT)), (u5, .inl (tyI D, 208, .inl M))]) O (kX9_bowPlace l D z x y (by first | assumption | omega)) gX9_why_X9_bowPlace rfl rfl rfl 2 (by decide +kernel) (by decide) (by decide) [] [0, 1, 2] rfl (by decide) rfl (by decide) (by decide) rfl rfl (Nat.le_of_ble_eq_true rfl) dX9_why_19 (fun r_7 w_8 hp => ?_)
  obtain ⟨rfl, rfl⟩ := hp
  refine g_eq (st' := [.int (nI (bpN x y))]) (ws' := [(u0, .inr (9, [.ref u1, .ref u2, .ref u3, .ref u4, .ref u5, .ref u6, .int (nI kn), .ref u7, .int (bB ik), .ref u8, .int (nI ty), .ref u9, .int (nI ta), .int (bB iw), .ref u10, .ref u11])), (u4, .inl (tyI D, 6912, .inl SWT)), (u5, .inl (tyI D, 208, .inl M))]) rfl rfl rfl ?_
  refine g_istore (L' := [(0, .ref u0), (1, .int (nI w)), (2, .int (nI x)), (3, .int (nI y)), (4, .int (nI (bpN x y)))]) O dX9_why_22 (by decide) [1, 2, 3, 4, 0] rfl ?_
  refine g_aload_n O dX9_why_24 0 rfl rfl ?_
  refine g_iload_n O dX9_why_25 1 rfl rfl ?_
  refine g_callV (As := [.int (nI w)]) (wr := []) O (kX9_isHeld l D z u0 u1 u2 u3 u4 u5 u6 u7 u8 u9 u10 u11 kn ik ty ta iw M s w (by first | assumption | omega) (by first | assumption | omega) (by first | assumption | omega) (by first | assumption | omega)) gX9_why_X9_isHeld rfl rfl rfl 1 (by decide +kernel) (by decide) (by decide) (q0 := 0) rfl rfl rfl [0, 1, 2] [] rfl (by decide) rfl (by decide) (by decide) rfl rfl (Nat.le_of_ble_eq_true rfl) dX9_why_26 (fun r_9 w_10 hp => ?_)
  obtain ⟨rfl, rfl⟩ := hp
  refine g_eq (st' := [.int (bB (!clB s w))]) (ws' := [(u0, .inr (9, [.ref u1, .ref u2, .ref u3, .ref u4, .ref u5, .ref u6, .int (nI kn), .ref u7, .int (bB ik), .ref u8, .int (nI ty), .ref u9, .int (nI ta), .int (bB iw), .ref u10, .ref u11])), (u4, .inl (tyI D, 6912, .inl SWT)), (u5, .inl (tyI D, 208, .inl M))]) rfl rfl rfl ?_
  refine g_if_eqB (tgt := 36) O dX9_why_29 (by decide) (fun c_11 => ?_) (fun c_11 => ?_)
  ·
    have hclt : clB s w = true := by cases h : clB s w; (rw [h] at c_11; cases c_11); rfl
    refine g_aload_n O dX9_why_36 0 rfl rfl ?_
    refine g_iload_n O dX9_why_37 1 rfl rfl ?_
    refine g_iload O dX9_why_38 4 rfl ?_
    refine g_callV (As := [.int (nI w), .int (nI (bpN x y))]) (wr := [(u5, .inl (tyI D, 208, .inl M))]) O (kX9_swingAt l D z u0 u1 u2 u3 u4 u5 u6 u7 u8 u9 u10 u11 kn ik ty ta iw w (bpN x y) (by first | assumption | exact bpN_lt hy) (by first | assumption | exact bpN_lt hy)) gX9_why_X9_swingAt rfl rfl rfl 2 (by decide +kernel) (by decide) (by decide) (q0 := 0) rfl rfl rfl [0, 1] [2] rfl (by decide) rfl (by decide) (by decide) rfl rfl (Nat.le_of_ble_eq_true rfl) dX9_why_40 (fun r_12 w_13 hp => ?_)
    obtain ⟨rfl, rfl⟩ := hp
    refine g_eq (st' := [.int (SW w (bpN x y))]) (ws' := [(u5, .inl (tyI D, 208, .inl M)), (u0, .inr (9, [.ref u1, .ref u2, .ref u3, .ref u4, .ref u5, .ref u6, .int (nI kn), .ref u7, .int (bB ik), .ref u8, .int (nI ty), .ref u9, .int (nI ta), .int (bB iw), .ref u10, .ref u11])), (u4, .inl (tyI D, 6912, .inl SWT))]) rfl rfl rfl ?_
    refine g_aload_n O dX9_why_43 0 rfl rfl ?_
    refine g_get O hiX9_why_X9 1 rfl rfl 4 (by decide) (by decide +kernel) rfl dX9_why_44 ?_
    refine g_sipush (x := (nI 145)) O dX9_why_47 (by decide +kernel) ?_
    refine g_ialdN O 0 rfl (by omega) (by omega) dX9_why_50 ?_
    refine g_eq (st' := [.int (sv_se s 1), .int (SW w (bpN x y))]) (by rw [RM_s1 hM]) rfl rfl ?_
    refine g_icmp_ge (tgt := 58) O dX9_why_51 (by decide) (fun c_14 => ?_) (fun c_14 => ?_)
    ·
      have hbw : bwB s w (bpN x y) = true := by simp only [bwB]; exact decide_eq_true c_14
      refine g_aload_n O dX9_why_58 0 rfl rfl ?_
      refine g_iload O dX9_why_59 4 rfl ?_
      refine g_callV (As := [.int (nI (bpN x y))]) (wr := []) O (kX9_soundsAt l D z u0 u1 u2 u3 u4 u5 u6 u7 u8 u9 u10 u11 kn ik ty ta iw M s (bpN x y) (by first | assumption | exact bpN_lt hy) (by first | assumption | exact bpN_lt hy) (by first | assumption | exact bpN_lt hy) (by first | assumption | exact bpN_lt hy)) gX9_why_X9_soundsAt rfl rfl rfl 1 (by decide +kernel) (by decide) (by decide) (q0 := 0) rfl rfl rfl [1, 2, 0] [] rfl (by decide) rfl (by decide) (by decide) rfl rfl (Nat.le_of_ble_eq_true rfl) dX9_why_61 (fun r_15 w_16 hp => ?_)
      obtain ⟨rfl, rfl⟩ := hp
      refine g_eq (st' := [.int (orN (wyO s (bpN x y)))]) (ws' := [(u0, .inr (9, [.ref u1, .ref u2, .ref u3, .ref u4, .ref u5, .ref u6, .int (nI kn), .ref u7, .int (bB ik), .ref u8, .int (nI ty), .ref u9, .int (nI ta), .int (bB iw), .ref u10, .ref u11])), (u4, .inl (tyI D, 6912, .inl SWT)), (u5, .inl (tyI D, 208, .inl M))]) rfl rfl rfl ?_
      refine g_iload_n O dX9_why_64 1 rfl rfl ?_
      refine g_icmp_ne (tgt := 72) O dX9_why_65 (by decide) (fun c_17 => ?_) (fun c_17 => ?_)
      ·
        have hrs : rsN s w (bpN x y) = 3 := by simp only [rsN]; rw [if_pos hclt, if_pos hbw, if_neg (fun h => c_17 ((orN_eq wy_lt (by omega)).mpr h))]
        refine g_iconst (x := (nI 3)) O dX9_why_72 (by decide +kernel) ?_
        exact E 73 _ (nI 3) _ dX9_why_73 (by rw [hrs]; exact ⟨rfl, rfl⟩)
      ·
        have hrs : rsN s w (bpN x y) = 0 := by simp only [rsN]; rw [if_pos hclt, if_pos hbw, if_pos ((orN_eq wy_lt (by omega)).mp c_17)]
        refine g_iconst (x := (nI 0)) O dX9_why_68 (by decide +kernel) ?_
        refine g_goto (tgt := 73) O dX9_why_69 (by decide) ?_
        exact E 73 _ (nI 0) _ dX9_why_73 (by rw [hrs]; exact ⟨rfl, rfl⟩)
    ·
      have hrs : rsN s w (bpN x y) = 2 := by simp only [rsN]; rw [if_pos hclt, if_neg (by simp only [bwB]; rw [decide_eq_false c_14]; decide)]
      refine g_iconst (x := (nI 2)) O dX9_why_54 (by decide +kernel) ?_
      refine g_goto (tgt := 73) O dX9_why_55 (by decide) ?_
      refine g_perm (ws' := [(u0, .inr (9, [.ref u1, .ref u2, .ref u3, .ref u4, .ref u5, .ref u6, .int (nI kn), .ref u7, .int (bB ik), .ref u8, .int (nI ty), .ref u9, .int (nI ta), .int (bB iw), .ref u10, .ref u11])), (u4, .inl (tyI D, 6912, .inl SWT)), (u5, .inl (tyI D, 208, .inl M))]) [1, 2, 0] rfl (by decide) ?_
      exact E 73 _ (nI 2) _ dX9_why_73 (by rw [hrs]; exact ⟨rfl, rfl⟩)
  ·
    have hclf : clB s w = false := by cases h : clB s w; rfl; (rw [h] at c_11; cases c_11)
    have hrs : rsN s w (bpN x y) = 1 := by simp only [rsN]; rw [if_neg (by rw [hclf]; decide)]
    refine g_iconst (x := (nI 1)) O dX9_why_32 (by decide +kernel) ?_
    refine g_goto (tgt := 73) O dX9_why_33 (by decide) ?_
    exact E 73 _ (nI 1) _ dX9_why_73 (by rw [hrs]; exact ⟨rfl, rfl⟩)

set_option maxHeartbeats 2000000 in
set_option maxRecDepth 100000 in
theorem kX9_possible_b1 (l : Launch) (D : va_G) (z : Nat × Nat × Nat) (u0 : Nat) (u1 : Nat) (u2 : Nat) (u3 : Nat) (u4 : Nat) (u5 : Nat) (u6 : Nat) (u7 : Nat) (u8 : Nat) (u9 : Nat) (u10 : Nat) (u11 : Nat) (kn : Nat) (ik : Bool) (ty : Nat) (ta : Nat) (iw : Bool) (k : Int32) (hb : k < 0) : CM l yX9_possible wsX9_possible ({ frames := 5, cells := 0, slots := 0, locals := 112 } : Room) D z [.ref u0, .int k] [(u0, .inr (9, [.ref u1, .ref u2, .ref u3, .ref u4, .ref u5, .ref u6, .int (nI kn), .ref u7, .int (bB ik), .ref u8, .int (nI ty), .ref u9, .int (nI ta), .int (bB iw), .ref u10, .ref u11]))] (fun r_ w_ => r_ = some (.int (-2)) ∧ w_ = [(u0, .inr (9, [.ref u1, .ref u2, .ref u3, .ref u4, .ref u5, .ref u6, .int (nI kn), .ref u7, .int (bB ik), .ref u8, .int (nI ty), .ref u9, .int (nI ta), .int (bB iw), .ref u10, .ref u11]))]) 0 0 := by
  refine CM_int (own := RX9) (cc := cX9_possible) (maxL := 4) (L0 := [(0, .ref u0), (1, .int k)]) (by decide) rfl rfl (Nat.le_of_ble_eq_true rfl) rfl (fun X O E => ?_)
  refine g_iload_n O dX9_possible_0 1 rfl rfl ?_
  refine g_if_ge (tgt := 7) O dX9_possible_1 (by decide) (fun c_1 => (by exact absurd hb (Int32.not_lt.mpr c_1))) (fun c_1 => ?_)
  refine g_bipush (x := (-2)) O dX9_possible_4 (by decide +kernel) ?_
  exact E 6 _ (-2) _ dX9_possible_6 ⟨rfl, rfl⟩

set_option maxHeartbeats 2000000 in
set_option maxRecDepth 100000 in
/-- the possible ways -/
theorem kX9_possible_ok (l : Launch) (D : va_G) (z : Nat × Nat × Nat) (u0 : Nat) (u1 : Nat) (u2 : Nat) (u3 : Nat) (u4 : Nat) (u5 : Nat) (u6 : Nat) (u7 : Nat) (u8 : Nat) (u9 : Nat) (u10 : Nat) (u11 : Nat) (kn : Nat) (ik : Bool) (ty : Nat) (ta : Nat) (iw : Bool) (M : Nat → Int32) (s : SV) (k : Nat) (hk : k < 2147483648) (hM : RM M s) (hnc : sv_nc s ≤ 4) (hcc : ∀ j, j < sv_nc s → sv_cc s j < 12 ∧ sv_cr s j < 12) : CM l yX9_possible wsX9_possible ({ frames := 5, cells := 0, slots := 0, locals := 112 } : Room) D z [.ref u0, .int (nI k)] [(u0, .inr (9, [.ref u1, .ref u2, .ref u3, .ref u4, .ref u5, .ref u6, .int (nI kn), .ref u7, .int (bB ik), .ref u8, .int (nI ty), .ref u9, .int (nI ta), .int (bB iw), .ref u10, .ref u11])), (u4, .inl (tyI D, 6912, .inl SWT)), (u5, .inl (tyI D, 208, .inl M))] (fun r_ w_ => r_ = some (.int (orN (fdB (fun w => psO s w 48 && decide (cntB (fun w => psO s w 48) w = k)) 48))) ∧ w_ = [(u0, .inr (9, [.ref u1, .ref u2, .ref u3, .ref u4, .ref u5, .ref u6, .int (nI kn), .ref u7, .int (bB ik), .ref u8, .int (nI ty), .ref u9, .int (nI ta), .int (bB iw), .ref u10, .ref u11])), (u4, .inl (tyI D, 6912, .inl SWT)), (u5, .inl (tyI D, 208, .inl M))]) 0 0 := by
  refine CM_int (own := RX9) (cc := cX9_possible) (maxL := 4) (L0 := [(0, .ref u0), (1, .int (nI k))]) (by decide) rfl rfl (Nat.le_of_ble_eq_true rfl) rfl (fun X O E => ?_)
  refine g_iload_n O dX9_possible_0 1 rfl rfl ?_
  refine g_if_geN (tgt := 7) O (by omega) dX9_possible_1 (by decide) ?_
  refine g_iconst (x := (nI 0)) O dX9_possible_7 (by decide +kernel) ?_
  refine g_istore_n (L' := [(0, .ref u0), (1, .int (nI k)), (2, .int (nI 0))]) O dX9_possible_8 rfl (by decide) [1, 2, 0] rfl ?_
  refine g_iconst (x := (nI 0)) O dX9_possible_9 (by decide +kernel) ?_
  refine g_istore_n (L' := [(0, .ref u0), (1, .int (nI k)), (2, .int (nI 0)), (3, .int (nI 0))]) O dX9_possible_10 rfl (by decide) [1, 2, 3, 0] rfl ?_
  have J11 : ∀ (n_ : Nat), ∀ (i_ : Nat) (hi_ : i_ ≤ 48) (hno : ∀ j, j < i_ → (psO s j 48 && decide (cntB (fun w => psO s w 48) j = k)) = false), 48 - i_ < n_ → G X 0 0 11 [(0, .ref u0), (1, .int (nI k)), (2, .int (nI (cntB (fun w => psO s w 48) i_))), (3, .int (nI i_))] [] [(u0, .inr (9, [.ref u1, .ref u2, .ref u3, .ref u4, .ref u5, .ref u6, .int (nI kn), .ref u7, .int (bB ik), .ref u8, .int (nI ty), .ref u9, .int (nI ta), .int (bB iw), .ref u10, .ref u11])), (u4, .inl (tyI D, 6912, .inl SWT)), (u5, .inl (tyI D, 208, .inl M))] := by
    intro n_
    induction n_ with
    | zero => intro i_ hi_ hno hm_; exact absurd hm_ (Nat.not_lt_zero _)
    | succ n_ ih_ =>
      intro i_ hi_ hno hm_
      have hcl := cntB_le (fun w => psO s w 48) i_
      refine g_iload_n O dX9_possible_11 3 rfl rfl ?_
      refine g_bipush (x := (nI 48)) O dX9_possible_12 (by decide +kernel) ?_
      refine g_icmp_geN (tgt := 41) O (by omega) (by omega) dX9_possible_14 (by decide) (fun c_2 => ?_) (fun c_2 => ?_)
      ·
        obtain rfl : i_ = 48 := by omega
        refine g_bipush (x := (-5)) O dX9_possible_41 (by decide +kernel) ?_
        exact E 43 _ (-5) _ dX9_possible_43 (by rw [fdB_none.mpr hno]; exact ⟨rfl, rfl⟩)
      ·
        refine g_aload_n O dX9_possible_17 0 rfl rfl ?_
        refine g_iload_n O dX9_possible_18 3 rfl rfl ?_
        refine g_callV (As := [.int (nI i_)]) (wr := []) O (kX9_isPossible l D z u0 u1 u2 u3 u4 u5 u6 u7 u8 u9 u10 u11 kn ik ty ta iw M s i_ (by first | assumption | omega) (by first | assumption | omega) (by first | assumption | omega) (by first | assumption | omega)) gX9_possible_X9_isPossible rfl rfl rfl 1 (by decide +kernel) (by decide) (by decide) (q0 := 0) rfl rfl rfl [0, 1, 2] [] rfl (by decide) rfl (by decide) (by decide) rfl rfl (Nat.le_of_ble_eq_true rfl) dX9_possible_19 (fun r_3 w_4 hp => ?_)
        obtain ⟨rfl, rfl⟩ := hp
        refine g_eq (st' := [.int (bB (psO s i_ 48))]) (ws' := [(u0, .inr (9, [.ref u1, .ref u2, .ref u3, .ref u4, .ref u5, .ref u6, .int (nI kn), .ref u7, .int (bB ik), .ref u8, .int (nI ty), .ref u9, .int (nI ta), .int (bB iw), .ref u10, .ref u11])), (u4, .inl (tyI D, 6912, .inl SWT)), (u5, .inl (tyI D, 208, .inl M))]) rfl rfl rfl ?_
        refine g_if_eqB (tgt := 35) O dX9_possible_22 (by decide) (fun c_5 => ?_) (fun c_5 => ?_)
        ·
          have hq := cntB_f (p := fun w => psO s w 48) c_5
          have hnj : (psO s i_ 48 && decide (cntB (fun w => psO s w 48) i_ = k)) = false := by rw [c_5]; rfl
          refine g_eq (L' := [(0, .ref u0), (1, .int (nI k)), (2, .int (nI (cntB (fun w => psO s w 48) (i_ + 1)))), (3, .int (nI i_))]) rfl (by rw [hq]) rfl ?_
          refine g_iincN (L' := [(0, .ref u0), (1, .int (nI k)), (2, .int (nI (cntB (fun w => psO s w 48) (i_ + 1)))), (3, .int (nI (i_ + 1)))]) O dX9_possible_35 3 rfl (by decide) [1, 2, 3, 0] rfl ?_
          refine g_goto (tgt := 11) O dX9_possible_38 (by decide) ?_
          exact ih_ (i_ + 1) (by first | assumption | omega | rfl) (fun j hj => by rcases Nat.lt_succ_iff_lt_or_eq.mp hj with h | h; exact hno j h; subst h; exact hnj) (by omega)
        ·
          have h22 := c_5
          have hq := cntB_t (p := fun w => psO s w 48) c_5
          refine g_iload_n O dX9_possible_25 2 rfl rfl ?_
          refine g_iload_n O dX9_possible_26 1 rfl rfl ?_
          refine g_icmp_neN (tgt := 32) O (by omega) (by omega) dX9_possible_27 (by decide) (fun c_6 => ?_) (fun c_6 => ?_)
          ·
            have hnj : (psO s i_ 48 && decide (cntB (fun w => psO s w 48) i_ = k)) = false := by rw [decide_eq_false c_6]; simp
            refine g_iincN (L' := [(0, .ref u0), (1, .int (nI k)), (2, .int (nI ((cntB (fun w => psO s w 48) i_) + 1))), (3, .int (nI i_))]) O dX9_possible_32 2 rfl (by decide) [1, 2, 0, 3] rfl ?_
            refine g_eq (L' := [(0, .ref u0), (1, .int (nI k)), (2, .int (nI (cntB (fun w => psO s w 48) (i_ + 1)))), (3, .int (nI i_))]) rfl (by rw [hq]) rfl ?_
            refine g_iincN (L' := [(0, .ref u0), (1, .int (nI k)), (2, .int (nI (cntB (fun w => psO s w 48) (i_ + 1)))), (3, .int (nI (i_ + 1)))]) O dX9_possible_35 3 rfl (by decide) [1, 2, 3, 0] rfl ?_
            refine g_goto (tgt := 11) O dX9_possible_38 (by decide) ?_
            exact ih_ (i_ + 1) (by first | assumption | omega | rfl) (fun j hj => by rcases Nat.lt_succ_iff_lt_or_eq.mp hj with h | h; exact hno j h; subst h; exact hnj) (by omega)
          ·
            have h27 := c_6
            refine g_iload_n O dX9_possible_30 3 rfl rfl ?_
            exact E 31 _ (nI i_) _ dX9_possible_31 (by rw [fdB_some.mpr ⟨by omega, by rw [h22, decide_eq_true (by omega)]; rfl, hno⟩]; exact ⟨rfl, rfl⟩)
  exact J11 _ 0 (Nat.zero_le _) (fun j hj => absurd hj (Nat.not_lt_zero _)) (Nat.lt_succ_self _)

set_option maxHeartbeats 2000000 in
set_option maxRecDepth 100000 in
theorem kX9_waiting_b1 (l : Launch) (D : va_G) (z : Nat × Nat × Nat) (u0 : Nat) (u1 : Nat) (u2 : Nat) (u3 : Nat) (u4 : Nat) (u5 : Nat) (u6 : Nat) (u7 : Nat) (u8 : Nat) (u9 : Nat) (u10 : Nat) (u11 : Nat) (kn : Nat) (ik : Bool) (ty : Nat) (ta : Nat) (iw : Bool) (j : Int32) (k : Int32) (hb : j < 0 ∨ k < 0 ∨ nI 3 < k) : CM l yX9_waiting wsX9_waiting ({ frames := 4, cells := 0, slots := 0, locals := 89 } : Room) D z [.ref u0, .int j, .int k] [(u0, .inr (9, [.ref u1, .ref u2, .ref u3, .ref u4, .ref u5, .ref u6, .int (nI kn), .ref u7, .int (bB ik), .ref u8, .int (nI ty), .ref u9, .int (nI ta), .int (bB iw), .ref u10, .ref u11]))] (fun r_ w_ => r_ = some (.int (-2)) ∧ w_ = [(u0, .inr (9, [.ref u1, .ref u2, .ref u3, .ref u4, .ref u5, .ref u6, .int (nI kn), .ref u7, .int (bB ik), .ref u8, .int (nI ty), .ref u9, .int (nI ta), .int (bB iw), .ref u10, .ref u11]))]) 0 0 := by
  refine CM_int (own := RX9) (cc := cX9_waiting) (maxL := 4) (L0 := [(0, .ref u0), (1, .int j), (2, .int k)]) (by decide) rfl rfl (Nat.le_of_ble_eq_true rfl) rfl (fun X O E => ?_)
  refine g_iload_n O dX9_waiting_0 1 rfl rfl ?_
  refine g_if_lt (tgt := 13) O dX9_waiting_1 (by decide) (fun c_1 => ?_) (fun c_1 => ?_)
  ·
    refine g_bipush (x := (-2)) O dX9_waiting_13 (by decide +kernel) ?_
    exact E 15 _ (-2) _ dX9_waiting_15 ⟨rfl, rfl⟩
  ·
    refine g_iload_n O dX9_waiting_4 2 rfl rfl ?_
    refine g_iconst (x := (nI 0)) O dX9_waiting_5 (by decide +kernel) ?_
    refine g_iconst (x := (nI 3)) O dX9_waiting_6 (by decide +kernel) ?_
    refine g_callS (As := [.int k, .int (nI 0), .int (nI 3)]) (wr := [(u0, .inr (9, [.ref u1, .ref u2, .ref u3, .ref u4, .ref u5, .ref u6, .int (nI kn), .ref u7, .int (bB ik), .ref u8, .int (nI ty), .ref u9, .int (nI ta), .int (bB iw), .ref u10, .ref u11]))]) O (kX9_in l D z k (nI 0) (nI 3) ) gX9_waiting_X9_in rfl rfl rfl 3 (by decide +kernel) (by decide) (by decide) [] [0] rfl (by decide) rfl (by decide) (by decide) rfl rfl (Nat.le_of_ble_eq_true rfl) dX9_waiting_7 (fun r_2 w_3 hp => ?_)
    obtain ⟨rfl, rfl⟩ := hp
    refine g_eq (st' := [.int (bB (inI k (nI 0) (nI 3)))]) (ws' := [(u0, .inr (9, [.ref u1, .ref u2, .ref u3, .ref u4, .ref u5, .ref u6, .int (nI kn), .ref u7, .int (bB ik), .ref u8, .int (nI ty), .ref u9, .int (nI ta), .int (bB iw), .ref u10, .ref u11]))]) rfl rfl rfl ?_
    refine g_if_neB (tgt := 16) O dX9_waiting_10 (by decide) (fun c_4 => absurd c_4 (by rw [inI_f (lo := nI 0) (hi := nI 3) (by rw [nI_0]; rcases hb with h | h | h; exact absurd h (by assumption); exact Or.inl h; exact Or.inr h)]; decide)) (fun c_4 => ?_)
    refine g_bipush (x := (-2)) O dX9_waiting_13 (by decide +kernel) ?_
    exact E 15 _ (-2) _ dX9_waiting_15 ⟨rfl, rfl⟩

theorem hiX9_waiting_X9 : ∀ w ∈ wsX90, w ∈ wsX9_waiting := by intro w h; simp only [wsX9_waiting, List.mem_append, List.mem_cons, h, or_true, true_or]
set_option maxHeartbeats 2000000 in
set_option maxRecDepth 100000 in
theorem kX9_waiting_b2 (l : Launch) (D : va_G) (z : Nat × Nat × Nat) (u0 : Nat) (u1 : Nat) (u2 : Nat) (u3 : Nat) (u4 : Nat) (u5 : Nat) (u6 : Nat) (u7 : Nat) (u8 : Nat) (u9 : Nat) (u10 : Nat) (u11 : Nat) (kn : Nat) (ik : Bool) (ty : Nat) (ta : Nat) (iw : Bool) (M : Nat → Int32) (s : SV) (j : Nat) (k : Nat) (hj : j < 2147483648) (hk : k < 4) (hM : RM M s) (hps : sv_ps s ≤ 16) (hb : sv_ps s ≤ j) : CM l yX9_waiting wsX9_waiting ({ frames := 4, cells := 0, slots := 0, locals := 89 } : Room) D z [.ref u0, .int (nI j), .int (nI k)] [(u0, .inr (9, [.ref u1, .ref u2, .ref u3, .ref u4, .ref u5, .ref u6, .int (nI kn), .ref u7, .int (bB ik), .ref u8, .int (nI ty), .ref u9, .int (nI ta), .int (bB iw), .ref u10, .ref u11])), (u5, .inl (tyI D, 208, .inl M))] (fun r_ w_ => r_ = some (.int (-5)) ∧ w_ = [(u0, .inr (9, [.ref u1, .ref u2, .ref u3, .ref u4, .ref u5, .ref u6, .int (nI kn), .ref u7, .int (bB ik), .ref u8, .int (nI ty), .ref u9, .int (nI ta), .int (bB iw), .ref u10, .ref u11])), (u5, .inl (tyI D, 208, .inl M))]) 0 0 := by
  refine CM_int (own := RX9) (cc := cX9_waiting) (maxL := 4) (L0 := [(0, .ref u0), (1, .int (nI j)), (2, .int (nI k))]) (by decide) rfl rfl (Nat.le_of_ble_eq_true rfl) rfl (fun X O E => ?_)
  refine g_iload_n O dX9_waiting_0 1 rfl rfl ?_
  refine g_if_ltN (tgt := 13) O (by omega) dX9_waiting_1 (by decide) ?_
  refine g_iload_n O dX9_waiting_4 2 rfl rfl ?_
  refine g_iconst (x := (nI 0)) O dX9_waiting_5 (by decide +kernel) ?_
  refine g_iconst (x := (nI 3)) O dX9_waiting_6 (by decide +kernel) ?_
  refine g_callS (As := [.int (nI k), .int (nI 0), .int (nI 3)]) (wr := [(u0, .inr (9, [.ref u1, .ref u2, .ref u3, .ref u4, .ref u5, .ref u6, .int (nI kn), .ref u7, .int (bB ik), .ref u8, .int (nI ty), .ref u9, .int (nI ta), .int (bB iw), .ref u10, .ref u11])), (u5, .inl (tyI D, 208, .inl M))]) O (kX9_in l D z (nI k) (nI 0) (nI 3) ) gX9_waiting_X9_in rfl rfl rfl 3 (by decide +kernel) (by decide) (by decide) [] [0, 1] rfl (by decide) rfl (by decide) (by decide) rfl rfl (Nat.le_of_ble_eq_true rfl) dX9_waiting_7 (fun r_2 w_3 hp => ?_)
  obtain ⟨rfl, rfl⟩ := hp
  refine g_eq (st' := [.int (bB (inI (nI k) (nI 0) (nI 3)))]) (ws' := [(u0, .inr (9, [.ref u1, .ref u2, .ref u3, .ref u4, .ref u5, .ref u6, .int (nI kn), .ref u7, .int (bB ik), .ref u8, .int (nI ty), .ref u9, .int (nI ta), .int (bB iw), .ref u10, .ref u11])), (u5, .inl (tyI D, 208, .inl M))]) rfl rfl rfl ?_
  refine g_if_neB (tgt := 16) O dX9_waiting_10 (by decide) (fun c_4 => ?_) (fun c_4 => absurd c_4 (by rw [inI_t (nI_le (a := 0) (by omega) (by omega)) (nI_le (b := 3) (by omega) (by omega))]; decide))
  refine g_iload_n O dX9_waiting_16 1 rfl rfl ?_
  refine g_aload_n O dX9_waiting_17 0 rfl rfl ?_
  refine g_get O hiX9_waiting_X9 0 rfl rfl 4 (by decide) (by decide +kernel) rfl dX9_waiting_18 ?_
  refine g_sipush (x := (nI 159)) O dX9_waiting_21 (by decide +kernel) ?_
  refine g_ialdN O 1 rfl (by omega) (by omega) dX9_waiting_24 ?_
  refine g_eq (st' := [.int (nI (sv_ps s)), .int (nI j)]) (by rw [RM_ps hM]) rfl rfl ?_
  refine g_icmp_ltN (tgt := 31) O (by omega) (by omega) dX9_waiting_25 (by decide) (fun c_5 => (by exfalso; omega)) (fun c_5 => ?_)
  refine g_bipush (x := (-5)) O dX9_waiting_28 (by decide +kernel) ?_
  exact E 30 _ (-5) _ dX9_waiting_30 ⟨rfl, rfl⟩
