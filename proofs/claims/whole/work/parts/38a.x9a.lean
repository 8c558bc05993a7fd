set_option maxHeartbeats 2000000 in
set_option maxRecDepth 100000 in
theorem kX9_in (l : Launch) (D : va_G) (z : Nat × Nat × Nat) (x : Int32) (lo : Int32) (hi : Int32)  : CM l yX9_in wsX9_in ({ frames := 0, cells := 0, slots := 0, locals := 0 } : Room) D z [.int x, .int lo, .int hi] [] (fun r_ w_ => r_ = some (.int (bB (inI x lo hi))) ∧ w_ = []) 0 0 := by
  refine CM_bool (own := RX9) (cc := cX9_in) (maxL := 3) (L0 := [(0, .int x), (1, .int lo), (2, .int hi)]) (by decide) rfl rfl (Nat.le_of_ble_eq_true rfl) rfl (fun X O E => ?_)
  refine g_iload_n O dX9_in_0 0 rfl rfl ?_
  refine g_iload_n O dX9_in_1 1 rfl rfl ?_
  refine g_icmp_lt (tgt := 14) O dX9_in_2 (by decide) (fun c_1 => ?_) (fun c_1 => ?_)
  ·
    have he : inI x lo hi = false := inI_f (Or.inl c_1)
    refine g_iconst (x := (nI 0)) O dX9_in_14 (by decide +kernel) ?_
    refine g_eq (st' := [.int (bB false)]) rfl rfl rfl ?_
    exact E 15 _ false _ dX9_in_15 (by rw [he]; exact ⟨rfl, rfl⟩)
  ·
    refine g_iload_n O dX9_in_5 0 rfl rfl ?_
    refine g_iload_n O dX9_in_6 2 rfl rfl ?_
    refine g_icmp_gt (tgt := 14) O dX9_in_7 (by decide) (fun c_2 => ?_) (fun c_2 => ?_)
    ·
      have he : inI x lo hi = false := inI_f (Or.inr c_2)
      refine g_iconst (x := (nI 0)) O dX9_in_14 (by decide +kernel) ?_
      refine g_eq (st' := [.int (bB false)]) rfl rfl rfl ?_
      exact E 15 _ false _ dX9_in_15 (by rw [he]; exact ⟨rfl, rfl⟩)
    ·
      have he : inI x lo hi = true := inI_t (Int32.not_lt.mp c_1) (Int32.not_lt.mp c_2)
      refine g_iconst (x := (nI 1)) O dX9_in_10 (by decide +kernel) ?_
      refine g_goto (tgt := 15) O dX9_in_11 (by decide) ?_
      refine g_eq (st' := [.int (bB true)]) rfl rfl rfl ?_
      exact E 15 _ true _ dX9_in_15 (by rw [he]; exact ⟨rfl, rfl⟩)

set_option maxHeartbeats 2000000 in
set_option maxRecDepth 100000 in
/-- the height of a wave -/
theorem kX9_wave (l : Launch) (D : va_G) (z : Nat × Nat × Nat) (k : Nat) (x : Nat) (hk : k < 7) (hx : x < 12) : CM l yX9_wave wsX9_wave ({ frames := 0, cells := 0, slots := 0, locals := 0 } : Room) D z [.int (nI k), .int (nI x)] [] (fun r_ w_ => r_ = some (.int (hW k x)) ∧ w_ = []) 0 0 := by
  refine CM_int (own := RX9) (cc := cX9_wave) (maxL := 3) (L0 := [(0, .int (nI k)), (1, .int (nI x))]) (by decide) rfl rfl (Nat.le_of_ble_eq_true rfl) rfl (fun X O E => ?_)
  refine g_sipush (x := (nI 200)) O dX9_wave_0 (by decide +kernel) ?_
  refine g_iload_n O dX9_wave_3 0 rfl rfl ?_
  refine g_imulN O dX9_wave_4 ?_
  refine g_iload_n O dX9_wave_5 1 rfl rfl ?_
  refine g_imulN O dX9_wave_6 ?_
  have hkx : 200 * k * x ≤ 200 * 6 * 11 := Nat.mul_le_mul (Nat.mul_le_mul_left 200 (by omega)) (by omega)
  refine g_bipush (x := (nI 11)) O dX9_wave_7 (by decide +kernel) ?_
  refine g_idivN O (by omega) (by omega) (by omega) dX9_wave_9 ?_
  refine g_sipush (x := (nI 400)) O dX9_wave_10 (by decide +kernel) ?_
  refine g_iremN O (by omega) (by omega) (by omega) dX9_wave_13 ?_
  refine g_istore_n (L' := [(0, .int (nI k)), (1, .int (nI x)), (2, .int (nI ((((200 * k) * x) / 11) % 400)))]) O dX9_wave_14 rfl (by decide) [1, 2, 0] rfl ?_
  refine g_iload_n O dX9_wave_15 2 rfl rfl ?_
  refine g_sipush (x := (nI 200)) O dX9_wave_16 (by decide +kernel) ?_
  refine g_icmp_gtN (tgt := 29) O (by omega) (by omega) dX9_wave_19 (by decide) (fun c_1 => ?_) (fun c_1 => ?_)
  ·
    have hh : hW k x = nI (200 * k * x / 11 % 400) - nI 300 := by simp only [hW]; rw [if_neg (by omega)]
    refine g_iload_n O dX9_wave_29 2 rfl rfl ?_
    refine g_sipush (x := (nI 300)) O dX9_wave_30 (by decide +kernel) ?_
    refine g_isub O dX9_wave_33 ?_
    exact E 34 _ ((nI ((((200 * k) * x) / 11) % 400)) - (nI 300)) _ dX9_wave_34 (by rw [hh]; exact ⟨rfl, rfl⟩)
  ·
    have hh : hW k x = nI 100 - nI (200 * k * x / 11 % 400) := by simp only [hW]; rw [if_pos (by omega)]
    refine g_bipush (x := (nI 100)) O dX9_wave_22 (by decide +kernel) ?_
    refine g_iload_n O dX9_wave_24 2 rfl rfl ?_
    refine g_isub O dX9_wave_25 ?_
    refine g_goto (tgt := 34) O dX9_wave_26 (by decide) ?_
    exact E 34 _ ((nI 100) - (nI ((((200 * k) * x) / 11) % 400))) _ dX9_wave_34 (by rw [hh]; exact ⟨rfl, rfl⟩)

set_option maxHeartbeats 2000000 in
set_option maxRecDepth 100000 in
theorem kX9_size (l : Launch) (D : va_G) (z : Nat × Nat × Nat) (x : Int32)  : CM l yX9_size wsX9_size ({ frames := 0, cells := 0, slots := 0, locals := 0 } : Room) D z [.int x] [] (fun r_ w_ => r_ = some (.int (ab x)) ∧ w_ = []) 0 0 := by
  refine CM_int (own := RX9) (cc := cX9_size) (maxL := 1) (L0 := [(0, .int x)]) (by decide) rfl rfl (Nat.le_of_ble_eq_true rfl) rfl (fun X O E => ?_)
  refine g_iload_n O dX9_size_0 0 rfl rfl ?_
  refine g_if_ge (tgt := 9) O dX9_size_1 (by decide) (fun c_1 => ?_) (fun c_1 => ?_)
  ·
    have he : ab x = x := by rw [ab_e, if_neg (Int32.not_lt.mpr c_1)]
    refine g_iload_n O dX9_size_9 0 rfl rfl ?_
    exact E 10 _ x _ dX9_size_10 (by rw [he]; exact ⟨rfl, rfl⟩)
  ·
    have he : ab x = -x := by rw [ab_e, if_pos (Int32.not_le.mp c_1)]
    refine g_iload_n O dX9_size_4 0 rfl rfl ?_
    refine g_ineg O dX9_size_5 ?_
    refine g_goto (tgt := 10) O dX9_size_6 (by decide) ?_
    exact E 10 _ (-x) _ dX9_size_10 (by rw [he]; exact ⟨rfl, rfl⟩)

theorem hiX9_swingAt_X9 : ∀ w ∈ wsX90, w ∈ wsX9_swingAt := by intro w h; simp only [wsX9_swingAt, List.mem_append, List.mem_cons, h, or_true, true_or]
set_option maxHeartbeats 2000000 in
set_option maxRecDepth 100000 in
/-- the swing of a way at a place -/
theorem kX9_swingAt (l : Launch) (D : va_G) (z : Nat × Nat × Nat) (u0 : Nat) (u1 : Nat) (u2 : Nat) (u3 : Nat) (u4 : Nat) (u5 : Nat) (u6 : Nat) (u7 : Nat) (u8 : Nat) (u9 : Nat) (u10 : Nat) (u11 : Nat) (kn : Nat) (ik : Bool) (ty : Nat) (ta : Nat) (iw : Bool) (w : Nat) (p : Nat) (hw : w < 48) (hp : p < 144) : CM l yX9_swingAt wsX9_swingAt ({ frames := 0, cells := 0, slots := 0, locals := 0 } : Room) D z [.ref u0, .int (nI w), .int (nI p)] [(u0, .inr (9, [.ref u1, .ref u2, .ref u3, .ref u4, .ref u5, .ref u6, .int (nI kn), .ref u7, .int (bB ik), .ref u8, .int (nI ty), .ref u9, .int (nI ta), .int (bB iw), .ref u10, .ref u11])), (u4, .inl (tyI D, 6912, .inl SWT))] (fun r_ w_ => r_ = some (.int (SW w p)) ∧ w_ = [(u0, .inr (9, [.ref u1, .ref u2, .ref u3, .ref u4, .ref u5, .ref u6, .int (nI kn), .ref u7, .int (bB ik), .ref u8, .int (nI ty), .ref u9, .int (nI ta), .int (bB iw), .ref u10, .ref u11])), (u4, .inl (tyI D, 6912, .inl SWT))]) 0 0 := by
  refine CM_int (own := RX9) (cc := cX9_swingAt) (maxL := 3) (L0 := [(0, .ref u0), (1, .int (nI w)), (2, .int (nI p))]) (by decide) rfl rfl (Nat.le_of_ble_eq_true rfl) rfl (fun X O E => ?_)
  refine g_aload_n O dX9_swingAt_0 0 rfl rfl ?_
  refine g_get O hiX9_swingAt_X9 0 rfl rfl 3 (by decide) (by decide +kernel) rfl dX9_swingAt_1 ?_
  refine g_sipush (x := (nI 144)) O dX9_swingAt_4 (by decide +kernel) ?_
  refine g_iload_n O dX9_swingAt_7 1 rfl rfl ?_
  refine g_imulN O dX9_swingAt_8 ?_
  refine g_iload_n O dX9_swingAt_9 2 rfl rfl ?_
  refine g_iaddN O dX9_swingAt_10 ?_
  refine g_ialdN O 1 rfl (by omega) (by omega) dX9_swingAt_11 ?_
  refine g_eq (st' := [.int (SW w p)]) (by rw [SWT_at (w := w) (show p < 144 by omega)]) rfl rfl ?_
  exact E 12 _ (SW w p) _ dX9_swingAt_12 ⟨rfl, rfl⟩

set_option maxHeartbeats 2000000 in
set_option maxRecDepth 100000 in
theorem kX9_isOn (l : Launch) (D : va_G) (z : Nat × Nat × Nat) (x : Int32) (y : Int32)  : CM l yX9_isOn wsX9_isOn ({ frames := 1, cells := 0, slots := 0, locals := 22 } : Room) D z [.int x, .int y] [] (fun r_ w_ => r_ = some (.int (bB (rgB x 12 && rgB y 12))) ∧ w_ = []) 0 0 := by
  refine CM_bool (own := RX9) (cc := cX9_isOn) (maxL := 2) (L0 := [(0, .int x), (1, .int y)]) (by decide) rfl rfl (Nat.le_of_ble_eq_true rfl) rfl (fun X O E => ?_)
  refine g_iload_n O dX9_isOn_0 0 rfl rfl ?_
  refine g_iconst (x := (nI 0)) O dX9_isOn_1 (by decide +kernel) ?_
  refine g_bipush (x := (nI 11)) O dX9_isOn_2 (by decide +kernel) ?_
  refine g_callS (As := [.int x, .int (nI 0), .int (nI 11)]) (wr := []) O (kX9_in l D z x (nI 0) (nI 11) ) gX9_isOn_X9_in rfl rfl rfl 3 (by decide +kernel) (by decide) (by decide) [] [] rfl (by decide) rfl (by decide) (by decide) rfl rfl (Nat.le_of_ble_eq_true rfl) dX9_isOn_4 (fun r_1 w_2 hp => ?_)
  obtain ⟨rfl, rfl⟩ := hp
  refine g_eq (st' := [.int (bB (inI x (nI 0) (nI 11)))]) (ws' := []) rfl rfl rfl ?_
  refine g_eq (st' := [.int (bB (rgB x 12))]) (by rw [inI_r _ (by decide)]) rfl rfl ?_
  refine g_if_eqB (tgt := 24) O dX9_isOn_7 (by decide) (fun c_3 => ?_) (fun c_3 => ?_)
  ·
    refine g_iconst (x := (nI 0)) O dX9_isOn_24 (by decide +kernel) ?_
    refine g_eq (st' := [.int (bB false)]) rfl rfl rfl ?_
    exact E 25 _ false _ dX9_isOn_25 (by refine ⟨?_, rfl⟩; simp_all)
  ·
    refine g_iload_n O dX9_isOn_10 1 rfl rfl ?_
    refine g_iconst (x := (nI 0)) O dX9_isOn_11 (by decide +kernel) ?_
    refine g_bipush (x := (nI 11)) O dX9_isOn_12 (by decide +kernel) ?_
    refine g_callS (As := [.int y, .int (nI 0), .int (nI 11)]) (wr := []) O (kX9_in l D z y (nI 0) (nI 11) ) gX9_isOn_X9_in rfl rfl rfl 3 (by decide +kernel) (by decide) (by decide) [] [] rfl (by decide) rfl (by decide) (by decide) rfl rfl (Nat.le_of_ble_eq_true rfl) dX9_isOn_14 (fun r_4 w_5 hp => ?_)
    obtain ⟨rfl, rfl⟩ := hp
    refine g_eq (st' := [.int (bB (inI y (nI 0) (nI 11)))]) (ws' := []) rfl rfl rfl ?_
    refine g_eq (st' := [.int (bB (rgB y 12))]) (by rw [inI_r _ (by decide)]) rfl rfl ?_
    refine g_if_eqB (tgt := 24) O dX9_isOn_17 (by decide) (fun c_6 => ?_) (fun c_6 => ?_)
    ·
      refine g_iconst (x := (nI 0)) O dX9_isOn_24 (by decide +kernel) ?_
      refine g_eq (st' := [.int (bB false)]) rfl rfl rfl ?_
      exact E 25 _ false _ dX9_isOn_25 (by refine ⟨?_, rfl⟩; simp_all)
    ·
      refine g_iconst (x := (nI 1)) O dX9_isOn_20 (by decide +kernel) ?_
      refine g_goto (tgt := 25) O dX9_isOn_21 (by decide) ?_
      refine g_eq (st' := [.int (bB true)]) rfl rfl rfl ?_
      exact E 25 _ true _ dX9_isOn_25 (by refine ⟨?_, rfl⟩; simp_all)

set_option maxHeartbeats 2000000 in
set_option maxRecDepth 100000 in
theorem kX9_isWay (l : Launch) (D : va_G) (z : Nat × Nat × Nat) (x : Int32)  : CM l yX9_isWay wsX9_isWay ({ frames := 1, cells := 0, slots := 0, locals := 22 } : Room) D z [.int x] [] (fun r_ w_ => r_ = some (.int (bB (rgB x 48))) ∧ w_ = []) 0 0 := by
  refine CM_bool (own := RX9) (cc := cX9_isWay) (maxL := 1) (L0 := [(0, .int x)]) (by decide) rfl rfl (Nat.le_of_ble_eq_true rfl) rfl (fun X O E => ?_)
  refine g_iload_n O dX9_isWay_0 0 rfl rfl ?_
  refine g_iconst (x := (nI 0)) O dX9_isWay_1 (by decide +kernel) ?_
  refine g_bipush (x := (nI 47)) O dX9_isWay_2 (by decide +kernel) ?_
  refine g_callS (As := [.int x, .int (nI 0), .int (nI 47)]) (wr := []) O (kX9_in l D z x (nI 0) (nI 47) ) gX9_isWay_X9_in rfl rfl rfl 3 (by decide +kernel) (by decide) (by decide) [] [] rfl (by decide) rfl (by decide) (by decide) rfl rfl (Nat.le_of_ble_eq_true rfl) dX9_isWay_4 (fun r_1 w_2 hp => ?_)
  obtain ⟨rfl, rfl⟩ := hp
  refine g_eq (st' := [.int (bB (inI x (nI 0) (nI 47)))]) (ws' := []) rfl rfl rfl ?_
  refine g_eq (st' := [.int (bB (rgB x 48))]) (by rw [inI_r _ (by decide)]) rfl rfl ?_
  exact E 7 _ (rgB x 48) _ dX9_isWay_7 ⟨rfl, rfl⟩

set_option maxHeartbeats 2000000 in
set_option maxRecDepth 100000 in
theorem kX9_isBow (l : Launch) (D : va_G) (z : Nat × Nat × Nat) (x : Int32) (y : Int32)  : CM l yX9_isBow wsX9_isBow ({ frames := 1, cells := 0, slots := 0, locals := 22 } : Room) D z [.int x, .int y] [] (fun r_ w_ => r_ = some (.int (bB (rgB x 4 && rgB y 12))) ∧ w_ = []) 0 0 := by
  refine CM_bool (own := RX9) (cc := cX9_isBow) (maxL := 2) (L0 := [(0, .int x), (1, .int y)]) (by decide) rfl rfl (Nat.le_of_ble_eq_true rfl) rfl (fun X O E => ?_)
  refine g_iload_n O dX9_isBow_0 0 rfl rfl ?_
  refine g_iconst (x := (nI 0)) O dX9_isBow_1 (by decide +kernel) ?_
  refine g_iconst (x := (nI 3)) O dX9_isBow_2 (by decide +kernel) ?_
  refine g_callS (As := [.int x, .int (nI 0), .int (nI 3)]) (wr := []) O (kX9_in l D z x (nI 0) (nI 3) ) gX9_isBow_X9_in rfl rfl rfl 3 (by decide +kernel) (by decide) (by decide) [] [] rfl (by decide) rfl (by decide) (by decide) rfl rfl (Nat.le_of_ble_eq_true rfl) dX9_isBow_3 (fun r_1 w_2 hp => ?_)
  obtain ⟨rfl, rfl⟩ := hp
  refine g_eq (st' := [.int (bB (inI x (nI 0) (nI 3)))]) (ws' := []) rfl rfl rfl ?_
  refine g_eq (st' := [.int (bB (rgB x 4))]) (by rw [inI_r _ (by decide)]) rfl rfl ?_
  refine g_if_eqB (tgt := 23) O dX9_isBow_6 (by decide) (fun c_3 => ?_) (fun c_3 => ?_)
  ·
    refine g_iconst (x := (nI 0)) O dX9_isBow_23 (by decide +kernel) ?_
    refine g_eq (st' := [.int (bB false)]) rfl rfl rfl ?_
    exact E 24 _ false _ dX9_isBow_24 (by refine ⟨?_, rfl⟩; simp_all)
  ·
    refine g_iload_n O dX9_isBow_9 1 rfl rfl ?_
    refine g_iconst (x := (nI 0)) O dX9_isBow_10 (by decide +kernel) ?_
    refine g_bipush (x := (nI 11)) O dX9_isBow_11 (by decide +kernel) ?_
    refine g_callS (As := [.int y, .int (nI 0), .int (nI 11)]) (wr := []) O (kX9_in l D z y (nI 0) (nI 11) ) gX9_isBow_X9_in rfl rfl rfl 3 (by decide +kernel) (by decide) (by decide) [] [] rfl (by decide) rfl (by decide) (by decide) rfl rfl (Nat.le_of_ble_eq_true rfl) dX9_isBow_13 (fun r_4 w_5 hp => ?_)
    obtain ⟨rfl, rfl⟩ := hp
    refine g_eq (st' := [.int (bB (inI y (nI 0) (nI 11)))]) (ws' := []) rfl rfl rfl ?_
    refine g_eq (st' := [.int (bB (rgB y 12))]) (by rw [inI_r _ (by decide)]) rfl rfl ?_
    refine g_if_eqB (tgt := 23) O dX9_isBow_16 (by decide) (fun c_6 => ?_) (fun c_6 => ?_)
    ·
      refine g_iconst (x := (nI 0)) O dX9_isBow_23 (by decide +kernel) ?_
      refine g_eq (st' := [.int (bB false)]) rfl rfl rfl ?_
      exact E 24 _ false _ dX9_isBow_24 (by refine ⟨?_, rfl⟩; simp_all)
    ·
      refine g_iconst (x := (nI 1)) O dX9_isBow_19 (by decide +kernel) ?_
      refine g_goto (tgt := 24) O dX9_isBow_20 (by decide) ?_
      refine g_eq (st' := [.int (bB true)]) rfl rfl rfl ?_
      exact E 24 _ true _ dX9_isBow_24 (by refine ⟨?_, rfl⟩; simp_all)

set_option maxHeartbeats 2000000 in
set_option maxRecDepth 100000 in
theorem kX9_bowPlace (l : Launch) (D : va_G) (z : Nat × Nat × Nat) (x : Nat) (y : Nat) (hx : x < 4) : CM l yX9_bowPlace wsX9_bowPlace ({ frames := 0, cells := 0, slots := 0, locals := 0 } : Room) D z [.int (nI x), .int (nI y)] [] (fun r_ w_ => r_ = some (.int (nI (bpN x y))) ∧ w_ = []) 0 0 := by
  refine CM_int (own := RX9) (cc := cX9_bowPlace) (maxL := 2) (L0 := [(0, .int (nI x)), (1, .int (nI y))]) (by decide) rfl rfl (Nat.le_of_ble_eq_true rfl) rfl (fun X O E => ?_)
  refine g_iload_n O dX9_bowPlace_0 0 rfl rfl ?_
  refine g_if_neN (tgt := 8) O (by omega) dX9_bowPlace_1 (by decide) (fun c_1 => ?_) (fun c_1 => ?_)
  ·
    refine g_iload_n O dX9_bowPlace_8 0 rfl rfl ?_
    refine g_iconst (x := (nI 1)) O dX9_bowPlace_9 (by decide +kernel) ?_
    refine g_icmp_neN (tgt := 23) O (by omega) (by omega) dX9_bowPlace_10 (by decide) (fun c_2 => ?_) (fun c_2 => ?_)
    ·
      refine g_iload_n O dX9_bowPlace_23 0 rfl rfl ?_
      refine g_iconst (x := (nI 2)) O dX9_bowPlace_24 (by decide +kernel) ?_
      refine g_icmp_neN (tgt := 36) O (by omega) (by omega) dX9_bowPlace_25 (by decide) (fun c_3 => ?_) (fun c_3 => ?_)
      ·
        refine g_bipush (x := (nI 12)) O dX9_bowPlace_36 (by decide +kernel) ?_
        refine g_iload_n O dX9_bowPlace_38 1 rfl rfl ?_
        refine g_imulN O dX9_bowPlace_39 ?_
        exact E 40 _ (nI (12 * y)) _ dX9_bowPlace_40 (by refine ⟨?_, rfl⟩; congr 3; simp only [bpN]; first | (subst_vars; rfl) | (rw [if_neg (by omega), if_pos (by omega)]) | (rw [if_neg (by omega), if_neg (by omega), if_pos (by omega)]) | (rw [if_neg (by omega), if_neg (by omega), if_neg (by omega)]))
      ·
        refine g_sipush (x := (nI 132)) O dX9_bowPlace_28 (by decide +kernel) ?_
        refine g_iload_n O dX9_bowPlace_31 1 rfl rfl ?_
        refine g_iaddN O dX9_bowPlace_32 ?_
        refine g_goto (tgt := 40) O dX9_bowPlace_33 (by decide) ?_
        exact E 40 _ (nI (132 + y)) _ dX9_bowPlace_40 (by refine ⟨?_, rfl⟩; congr 3; simp only [bpN]; first | (subst_vars; rfl) | (rw [if_neg (by omega), if_pos (by omega)]) | (rw [if_neg (by omega), if_neg (by omega), if_pos (by omega)]) | (rw [if_neg (by omega), if_neg (by omega), if_neg (by omega)]))
    ·
      refine g_bipush (x := (nI 12)) O dX9_bowPlace_13 (by decide +kernel) ?_
      refine g_iload_n O dX9_bowPlace_15 1 rfl rfl ?_
      refine g_imulN O dX9_bowPlace_16 ?_
      refine g_bipush (x := (nI 11)) O dX9_bowPlace_17 (by decide +kernel) ?_
      refine g_iaddN O dX9_bowPlace_19 ?_
      refine g_goto (tgt := 40) O dX9_bowPlace_20 (by decide) ?_
      exact E 40 _ (nI ((12 * y) + 11)) _ dX9_bowPlace_40 (by refine ⟨?_, rfl⟩; congr 3; simp only [bpN]; first | (subst_vars; rfl) | (rw [if_neg (by omega), if_pos (by omega)]) | (rw [if_neg (by omega), if_neg (by omega), if_pos (by omega)]) | (rw [if_neg (by omega), if_neg (by omega), if_neg (by omega)]))
  ·
    refine g_iload_n O dX9_bowPlace_4 1 rfl rfl ?_
    refine g_goto (tgt := 40) O dX9_bowPlace_5 (by decide) ?_
    exact E 40 _ (nI y) _ dX9_bowPlace_40 (by refine ⟨?_, rfl⟩; congr 3; simp only [bpN]; first | (subst_vars; rfl) | (rw [if_neg (by omega), if_pos (by omega)]) | (rw [if_neg (by omega), if_neg (by omega), if_pos (by omega)]) | (rw [if_neg (by omega), if_neg (by omega), if_neg (by omega)]))

set_option maxHeartbeats 2000000 in
set_option maxRecDepth 100000 in
theorem kX9_isEdge (l : Launch) (D : va_G) (z : Nat × Nat × Nat) (p : Nat) (hp : p < 144) : CM l yX9_isEdge wsX9_isEdge ({ frames := 0, cells := 0, slots := 0, locals := 0 } : Room) D z [.int (nI p)] [] (fun r_ w_ => r_ = some (.int (bB (edB p))) ∧ w_ = []) 0 0 := by
  refine CM_bool (own := RX9) (cc := cX9_isEdge) (maxL := 3) (L0 := [(0, .int (nI p))]) (by decide) rfl rfl (Nat.le_of_ble_eq_true rfl) rfl (fun X O E => ?_)
  refine g_iload_n O dX9_isEdge_0 0 rfl rfl ?_
  refine g_bipush (x := (nI 12)) O dX9_isEdge_1 (by decide +kernel) ?_
  refine g_iremN O (by omega) (by omega) (by omega) dX9_isEdge_3 ?_
  refine g_istore_n (L' := [(0, .int (nI p)), (1, .int (nI (p % 12)))]) O dX9_isEdge_4 rfl (by decide) [1, 0] rfl ?_
  refine g_iload_n O dX9_isEdge_5 0 rfl rfl ?_
  refine g_bipush (x := (nI 12)) O dX9_isEdge_6 (by decide +kernel) ?_
  refine g_idivN O (by omega) (by omega) (by omega) dX9_isEdge_8 ?_
  refine g_istore_n (L' := [(0, .int (nI p)), (1, .int (nI (p % 12))), (2, .int (nI (p / 12)))]) O dX9_isEdge_9 rfl (by decide) [1, 2, 0] rfl ?_
  refine g_iload_n O dX9_isEdge_10 1 rfl rfl ?_
  refine g_if_eqN (tgt := 30) O (by omega) dX9_isEdge_11 (by decide) (fun c_1 => ?_) (fun c_1 => ?_)
  ·
    refine g_iconst (x := (nI 1)) O dX9_isEdge_30 (by decide +kernel) ?_
    refine g_goto (tgt := 35) O dX9_isEdge_31 (by decide) ?_
    refine g_eq (st' := [.int (bB true)]) rfl rfl rfl ?_
    exact E 35 _ true _ dX9_isEdge_35 (by first | (rw [show edB p = true from decide_eq_true (by omega)]; exact ⟨rfl, rfl⟩) | (rw [show edB p = false from decide_eq_false (by omega)]; exact ⟨rfl, rfl⟩))
  ·
    refine g_iload_n O dX9_isEdge_14 1 rfl rfl ?_
    refine g_bipush (x := (nI 11)) O dX9_isEdge_15 (by decide +kernel) ?_
    refine g_icmp_eqN (tgt := 30) O (by omega) (by omega) dX9_isEdge_17 (by decide) (fun c_2 => ?_) (fun c_2 => ?_)
    ·
      refine g_iconst (x := (nI 1)) O dX9_isEdge_30 (by decide +kernel) ?_
      refine g_goto (tgt := 35) O dX9_isEdge_31 (by decide) ?_
      refine g_eq (st' := [.int (bB true)]) rfl rfl rfl ?_
      exact E 35 _ true _ dX9_isEdge_35 (by first | (rw [show edB p = true from decide_eq_true (by omega)]; exact ⟨rfl, rfl⟩) | (rw [show edB p = false from decide_eq_false (by omega)]; exact ⟨rfl, rfl⟩))
    ·
      refine g_iload_n O dX9_isEdge_20 2 rfl rfl ?_
      refine g_if_eqN (tgt := 30) O (by omega) dX9_isEdge_21 (by decide) (fun c_3 => ?_) (fun c_3 => ?_)
      ·
        refine g_iconst (x := (nI 1)) O dX9_isEdge_30 (by decide +kernel) ?_
        refine g_goto (tgt := 35) O dX9_isEdge_31 (by decide) ?_
        refine g_eq (st' := [.int (bB true)]) rfl rfl rfl ?_
        exact E 35 _ true _ dX9_isEdge_35 (by first | (rw [show edB p = true from decide_eq_true (by omega)]; exact ⟨rfl, rfl⟩) | (rw [show edB p = false from decide_eq_false (by omega)]; exact ⟨rfl, rfl⟩))
      ·
        refine g_iload_n O dX9_isEdge_24 2 rfl rfl ?_
        refine g_bipush (x := (nI 11)) O dX9_isEdge_25 (by decide +kernel) ?_
        refine g_icmp_neN (tgt := 34) O (by omega) (by omega) dX9_isEdge_27 (by decide) (fun c_4 => ?_) (fun c_4 => ?_)
        ·
          refine g_iconst (x := (nI 0)) O dX9_isEdge_34 (by decide +kernel) ?_
          refine g_eq (st' := [.int (bB false)]) rfl rfl rfl ?_
          exact E 35 _ false _ dX9_isEdge_35 (by first | (rw [show edB p = true from decide_eq_true (by omega)]; exact ⟨rfl, rfl⟩) | (rw [show edB p = false from decide_eq_false (by omega)]; exact ⟨rfl, rfl⟩))
        ·
          refine g_iconst (x := (nI 1)) O dX9_isEdge_30 (by decide +kernel) ?_
          refine g_goto (tgt := 35) O dX9_isEdge_31 (by decide) ?_
          refine g_eq (st' := [.int (bB true)]) rfl rfl rfl ?_
          exact E 35 _ true _ dX9_isEdge_35 (by first | (rw [show edB p = true from decide_eq_true (by omega)]; exact ⟨rfl, rfl⟩) | (rw [show edB p = false from decide_eq_false (by omega)]; exact ⟨rfl, rfl⟩))

theorem hiX9_isHeld_X9 : ∀ w ∈ wsX90, w ∈ wsX9_isHeld := by intro w h; simp only [wsX9_isHeld, List.mem_append, List.mem_cons, h, or_true, true_or]
set_option maxHeartbeats 2000000 in
set_option maxRecDepth 100000 in
/-- whether a clamp holds a way -/
theorem kX9_isHeld (l : Launch) (D : va_G) (z : Nat × Nat × Nat) (u0 : Nat) (u1 : Nat) (u2 : Nat) (u3 : Nat) (u4 : Nat) (u5 : Nat) (u6 : Nat) (u7 : Nat) (u8 : Nat) (u9 : Nat) (u10 : Nat) (u11 : Nat) (kn : Nat) (ik : Bool) (ty : Nat) (ta : Nat) (iw : Bool) (M : Nat → Int32) (s : SV) (w : Nat) (hw : w < 48) (hM : RM M s) (hnc : sv_nc s ≤ 4) (hcc : ∀ j, j < sv_nc s → sv_cc s j < 12 ∧ sv_cr s j < 12) : CM l yX9_isHeld wsX9_isHeld ({ frames := 1, cells := 0, slots := 0, locals := 22 } : Room) D z [.ref u0, .int (nI w)] [(u0, .inr (9, [.ref u1, .ref u2, .ref u3, .ref u4, .ref u5, .ref u6, .int (nI kn), .ref u7, .int (bB ik), .ref u8, .int (nI ty), .ref u9, .int (nI ta), .int (bB iw), .ref u10, .ref u11])), (u4, .inl (tyI D, 6912, .inl SWT)), (u5, .inl (tyI D, 208, .inl M))] (fun r_ w_ => r_ = some (.int (bB (!clB s w))) ∧ w_ = [(u0, .inr (9, [.ref u1, .ref u2, .ref u3, .ref u4, .ref u5, .ref u6, .int (nI kn), .ref u7, .int (bB ik), .ref u8, .int (nI ty), .ref u9, .int (nI ta), .int (bB iw), .ref u10, .ref u11])), (u4, .inl (tyI D, 6912, .inl SWT)), (u5, .inl (tyI D, 208, .inl M))]) 0 0 := by
  refine CM_bool (own := RX9) (cc := cX9_isHeld) (maxL := 4) (L0 := [(0, .ref u0), (1, .int (nI w))]) (by decide) rfl rfl (Nat.le_of_ble_eq_true rfl) rfl (fun X O E => ?_)
  refine g_iconst (x := (nI 0)) O dX9_isHeld_0 (by decide +kernel) ?_
  refine g_istore_n (L' := [(0, .ref u0), (1, .int (nI w)), (2, .int (nI 0))]) O dX9_isHeld_1 rfl (by decide) [1, 2, 0] rfl ?_
  refine g_iconst (x := (nI 0)) O dX9_isHeld_2 (by decide +kernel) ?_
  refine g_istore_n (L' := [(0, .ref u0), (1, .int (nI w)), (2, .int (nI 0)), (3, .int (nI 0))]) O dX9_isHeld_3 rfl (by decide) [1, 2, 3, 0] rfl ?_
  have J4 : ∀ (n_ : Nat), ∀ (i_ : Nat) (hi_ : i_ ≤ sv_nc s), sv_nc s - i_ < n_ → G X 0 0 4 [(0, .ref u0), (1, .int (nI w)), (2, .int (bB (hdB s w i_))), (3, .int (nI i_))] [] [(u0, .inr (9, [.ref u1, .ref u2, .ref u3, .ref u4, .ref u5, .ref u6, .int (nI kn), .ref u7, .int (bB ik), .ref u8, .int (nI ty), .ref u9, .int (nI ta), .int (bB iw), .ref u10, .ref u11])), (u4, .inl (tyI D, 6912, .inl SWT)), (u5, .inl (tyI D, 208, .inl M))] := by
    intro n_
    induction n_ with
    | zero => intro i_ hi_ hm_; exact absurd hm_ (Nat.not_lt_zero _)
    | succ n_ ih_ =>
      intro i_ hi_ hm_
      refine g_iload_n O dX9_isHeld_4 3 rfl rfl ?_
      refine g_aload_n O dX9_isHeld_5 0 rfl rfl ?_
      refine g_get O hiX9_isHeld_X9 0 rfl rfl 4 (by decide) (by decide +kernel) rfl dX9_isHeld_6 ?_
      refine g_sipush (x := (nI 154)) O dX9_isHeld_9 (by decide +kernel) ?_
      refine g_ialdN O 2 rfl (by omega) (by omega) dX9_isHeld_12 ?_
      refine g_eq (st' := [.int (nI (sv_nc s)), .int (nI i_)]) (by rw [RM_nc hM]) rfl rfl ?_
      refine g_icmp_geN (tgt := 58) O (by omega) (by omega) dX9_isHeld_13 (by decide) (fun c_1 => ?_) (fun c_1 => ?_)
      ·
        obtain rfl : i_ = sv_nc s := by omega
        refine g_iload_n O dX9_isHeld_58 2 rfl rfl ?_
        exact E 59 _ (hdB s w (sv_nc s)) _ dX9_isHeld_59 (by rw [hdB_cl]; exact ⟨rfl, rfl⟩)
      ·
        have hci := hcc i_ c_1
        refine g_iload_n O dX9_isHeld_16 2 rfl rfl ?_
        refine g_if_neB (tgt := 46) O dX9_isHeld_17 (by decide) (fun c_2 => ?_) (fun c_2 => ?_)
        ·
          have hq : hdB s w (i_ + 1) = true := by simp only [hdB]; rw [c_2]; rfl
          refine g_iconst (x := (nI 1)) O dX9_isHeld_46 (by decide +kernel) ?_
          refine g_goto (tgt := 51) O dX9_isHeld_47 (by decide) ?_
          refine g_eq (st' := [.int (bB (hdB s w (i_ + 1)))]) (by rw [hq]; rfl) rfl rfl ?_
          refine g_istore_n (L' := [(0, .ref u0), (1, .int (nI w)), (2, .int (bB (hdB s w (i_ + 1)))), (3, .int (nI i_))]) O dX9_isHeld_51 rfl (by decide) [1, 2, 0, 3] rfl ?_
          refine g_iincN (L' := [(0, .ref u0), (1, .int (nI w)), (2, .int (bB (hdB s w (i_ + 1)))), (3, .int (nI (i_ + 1)))]) O dX9_isHeld_52 3 rfl (by decide) [1, 2, 3, 0] rfl ?_
          refine g_goto (tgt := 4) O dX9_isHeld_55 (by decide) ?_
          exact ih_ (i_ + 1) (by first | assumption | omega | rfl) (by omega)
        ·
          have c_2 := c_2
          refine g_aload_n O dX9_isHeld_20 0 rfl rfl ?_
          refine g_iload_n O dX9_isHeld_21 1 rfl rfl ?_
          refine g_aload_n O dX9_isHeld_22 0 rfl rfl ?_
          refine g_get O hiX9_isHeld_X9 0 rfl rfl 4 (by decide) (by decide +kernel) rfl dX9_isHeld_23 ?_
          refine g_sipush (x := (nI 155)) O dX9_isHeld_26 (by decide +kernel) ?_
          refine g_iload_n O dX9_isHeld_29 3 rfl rfl ?_
          refine g_iaddN O dX9_isHeld_30 ?_
          refine g_ialdN O 2 rfl (by omega) (by omega) dX9_isHeld_31 ?_
          refine g_eq (st' := [.int (nI (12 * sv_cr s i_ + sv_cc s i_)), .int (nI w), .ref u0]) (by rw [RM_cl hM (show i_ < sv_nc s by omega)]) rfl rfl ?_
          refine g_callV (As := [.int (nI w), .int (nI (12 * sv_cr s i_ + sv_cc s i_))]) (wr := [(u5, .inl (tyI D, 208, .inl M))]) O (kX9_swingAt l D z u0 u1 u2 u3 u4 u5 u6 u7 u8 u9 u10 u11 kn ik ty ta iw w (12 * sv_cr s i_ + sv_cc s i_) (by first | assumption | omega) (by first | assumption | omega)) gX9_isHeld_X9_swingAt rfl rfl rfl 2 (by decide +kernel) (by decide) (by decide) (q0 := 0) rfl rfl rfl [0, 1] [2] rfl (by decide) rfl (by decide) (by decide) rfl rfl (Nat.le_of_ble_eq_true rfl) dX9_isHeld_32 (fun r_3 w_4 hp => ?_)
          obtain ⟨rfl, rfl⟩ := hp
          refine g_eq (st' := [.int (SW w (12 * sv_cr s i_ + sv_cc s i_))]) (ws' := [(u5, .inl (tyI D, 208, .inl M)), (u0, .inr (9, [.ref u1, .ref u2, .ref u3, .ref u4, .ref u5, .ref u6, .int (nI kn), .ref u7, .int (bB ik), .ref u8, .int (nI ty), .ref u9, .int (nI ta), .int (bB iw), .ref u10, .ref u11])), (u4, .inl (tyI D, 6912, .inl SWT))]) rfl rfl rfl ?_
          refine g_aload_n O dX9_isHeld_35 0 rfl rfl ?_
          refine g_get O hiX9_isHeld_X9 1 rfl rfl 4 (by decide) (by decide +kernel) rfl dX9_isHeld_36 ?_
          refine g_sipush (x := (nI 144)) O dX9_isHeld_39 (by decide +kernel) ?_
          refine g_ialdN O 0 rfl (by omega) (by omega) dX9_isHeld_42 ?_
          refine g_eq (st' := [.int (sv_se s 0), .int (SW w (12 * sv_cr s i_ + sv_cc s i_))]) (by rw [RM_s0 hM]) rfl rfl ?_
          refine g_icmp_le (tgt := 50) O dX9_isHeld_43 (by decide) (fun c_5 => ?_) (fun c_5 => ?_)
          ·
            have hq : hdB s w (i_ + 1) = false := by simp only [hdB]; rw [c_2, decide_eq_true c_5]; rfl
            refine g_iconst (x := (nI 0)) O dX9_isHeld_50 (by decide +kernel) ?_
            refine g_eq (st' := [.int (bB (hdB s w (i_ + 1)))]) (by rw [hq]; rfl) rfl rfl ?_
            refine g_istore_n (L' := [(0, .ref u0), (1, .int (nI w)), (2, .int (bB (hdB s w (i_ + 1)))), (3, .int (nI i_))]) O dX9_isHeld_51 rfl (by decide) [1, 2, 0, 3] rfl ?_
            refine g_iincN (L' := [(0, .ref u0), (1, .int (nI w)), (2, .int (bB (hdB s w (i_ + 1)))), (3, .int (nI (i_ + 1)))]) O dX9_isHeld_52 3 rfl (by decide) [1, 2, 3, 0] rfl ?_
            refine g_goto (tgt := 4) O dX9_isHeld_55 (by decide) ?_
            refine g_perm (ws' := [(u0, .inr (9, [.ref u1, .ref u2, .ref u3, .ref u4, .ref u5, .ref u6, .int (nI kn), .ref u7, .int (bB ik), .ref u8, .int (nI ty), .ref u9, .int (nI ta), .int (bB iw), .ref u10, .ref u11])), (u4, .inl (tyI D, 6912, .inl SWT)), (u5, .inl (tyI D, 208, .inl M))]) [1, 2, 0] rfl (by decide) ?_
            exact ih_ (i_ + 1) (by first | assumption | omega | rfl) (by omega)
          ·
            have hq : hdB s w (i_ + 1) = true := by simp only [hdB]; rw [decide_eq_false c_5]; simp
            refine g_iconst (x := (nI 1)) O dX9_isHeld_46 (by decide +kernel) ?_
            refine g_goto (tgt := 51) O dX9_isHeld_47 (by decide) ?_
            refine g_eq (st' := [.int (bB (hdB s w (i_ + 1)))]) (by rw [hq]; rfl) rfl rfl ?_
            refine g_istore_n (L' := [(0, .ref u0), (1, .int (nI w)), (2, .int (bB (hdB s w (i_ + 1)))), (3, .int (nI i_))]) O dX9_isHeld_51 rfl (by decide) [1, 2, 0, 3] rfl ?_
            refine g_iincN (L' := [(0, .ref u0), (1, .int (nI w)), (2, .int (bB (hdB s w (i_ + 1)))), (3, .int (nI (i_ + 1)))]) O dX9_isHeld_52 3 rfl (by decide) [1, 2, 3, 0] rfl ?_
            refine g_goto (tgt := 4) O dX9_isHeld_55 (by decide) ?_
            refine g_perm (ws' := [(u0, .inr (9, [.ref u1, .ref u2, .ref u3, .ref u4, .ref u5, .ref u6, .int (nI kn), .ref u7, .int (bB ik), .ref u8, .int (nI ty), .ref u9, .int (nI ta), .int (bB iw), .ref u10, .ref u11])), (u4, .inl (tyI D, 6912, .inl SWT)), (u5, .inl (tyI D, 208, .inl M))]) [1, 2, 0] rfl (by decide) ?_
            exact ih_ (i_ + 1) (by first | assumption | omega | rfl) (by omega)
  exact J4 _ 0 (Nat.zero_le _) (Nat.lt_succ_self _)

theorem hiX9_canSound_X9 : ∀ w ∈ wsX90, w ∈ wsX9_canSound := by intro w h; simp only [wsX9_canSound, List.mem_append, List.mem_cons, h, or_true, true_or]
set_option maxHeartbeats 2000000 in
set_option maxRecDepth 100000 in
/-- whether a way can sound -/
theorem kX9_canSound (l : Launch) (D : va_G) (z : Nat × Nat × Nat) (u0 : Nat) (u1 : Nat) (u2 : Nat) (u3 : Nat) (u4 : Nat) (u5 : Nat) (u6 : Nat) (u7 : Nat) (u8 : Nat) (u9 : Nat) (u10 : Nat) (u11 : Nat) (kn : Nat) (ik : Bool) (ty : Nat) (ta : Nat) (iw : Bool) (M : Nat → Int32) (s : SV) (w : Nat) (p : Nat) (hw : w < 48) (hp : p < 144) (hM : RM M s) (hnc : sv_nc s ≤ 4) (hcc : ∀ j, j < sv_nc s → sv_cc s j < 12 ∧ sv_cr s j < 12) : CM l yX9_canSound wsX9_canSound ({ frames := 2, cells := 0, slots := 0, locals := 45 } : Room) D z [.ref u0, .int (nI w), .int (nI p)] [(u0, .inr (9, [.ref u1, .ref u2, .ref u3, .ref u4, .ref u5, .ref u6, .int (nI kn), .ref u7, .int (bB ik), .ref u8, .int (nI ty), .ref u9, .int (nI ta), .int (bB iw), .ref u10, .ref u11])), (u4, .inl (tyI D, 6912, .inl SWT)), (u5, .inl (tyI D, 208, .inl M))] (fun r_ w_ => r_ = some (.int (bB (bwB s w p && clB s w))) ∧ w_ = [(u0, .inr (9, [.ref u1, .ref u2, .ref u3, .ref u4, .ref u5, .ref u6, .int (nI kn), .ref u7, .int (bB ik), .ref u8, .int (nI ty), .ref u9, .int (nI ta), .int (bB iw), .ref u10, .ref u11])), (u4, .inl (tyI D, 6912, .inl SWT)), (u5, .inl (tyI D, 208, .inl M))]) 0 0 := by
  refine CM_bool (own := RX9) (cc := cX9_canSound) (maxL := 3) (L0 := [(0, .ref u0), (1, .int (nI w)), (2, .int (nI p))]) (by decide) rfl rfl (Nat.le_of_ble_eq_true rfl) rfl (fun X O E => ?_)
  refine g_aload_n O dX9_canSound_0 0 rfl rfl ?_
  refine g_iload_n O dX9_canSound_1 1 rfl rfl ?_
  refine g_callV (As := [.int (nI w)]) (wr := []) O (kX9_isHeld l D z u0 u1 u2 u3 u4 u5 u6 u7 u8 u9 u10 u11 kn ik ty ta iw M s w (by first | assumption | omega) (by first | assumption | omega) (by first | assumption | omega) (by first | assumption | omega)) gX9_canSound_X9_isHeld rfl rfl rfl 1 (by decide +kernel) (by decide) (by decide) (q0 := 0) rfl rfl rfl [0, 1, 2] [] rfl (by decide) rfl (by decide) (by decide) rfl rfl (Nat.le_of_ble_eq_true rfl) dX9_canSound_2 (fun r_1 w_2 hp => ?_)
  obtain ⟨rfl, rfl⟩ := hp
  refine g_eq (st' := [.int (bB (!clB s w))]) (ws' := [(u0, .inr (9, [.ref u1, .ref u2, .ref u3, .ref u4, .ref u5, .ref u6, .int (nI kn), .ref u7, .int (bB ik), .ref u8, .int (nI ty), .ref u9, .int (nI ta), .int (bB iw), .ref u10, .ref u11])), (u4, .inl (tyI D, 6912, .inl SWT)), (u5, .inl (tyI D, 208, .inl M))]) rfl rfl rfl ?_
  refine g_if_neB (tgt := 29) O dX9_canSound_5 (by decide) (fun c_3 => ?_) (fun c_3 => ?_)
  ·
    have he : (bwB s w p && clB s w) = false := by cases hcl : clB s w; (cases bwB s w p <;> rfl); (rw [hcl] at c_3; cases c_3)
    refine g_iconst (x := (nI 0)) O dX9_canSound_29 (by decide +kernel) ?_
    refine g_eq (st' := [.int (bB false)]) rfl rfl rfl ?_
    exact E 30 _ false _ dX9_canSound_30 (by rw [he]; exact ⟨rfl, rfl⟩)
  ·
    refine g_aload_n O dX9_canSound_8 0 rfl rfl ?_
    refine g_iload_n O dX9_canSound_9 1 rfl rfl ?_
    refine g_iload_n O dX9_canSound_10 2 rfl rfl ?_
    refine g_callV (As := [.int (nI w), .int (nI p)]) (wr := [(u5, .inl (tyI D, 208, .inl M))]) O (kX9_swingAt l D z u0 u1 u2 u3 u4 u5 u6 u7 u8 u9 u10 u11 kn ik ty ta iw w p (by first | assumption | omega) (by first | assumption | omega)) gX9_canSound_X9_swingAt rfl rfl rfl 2 (by decide +kernel) (by decide) (by decide) (q0 := 0) rfl rfl rfl [0, 1] [2] rfl (by decide) rfl (by decide) (by decide) rfl rfl (Nat.le_of_ble_eq_true rfl) dX9_canSound_11 (fun r_4 w_5 hp => ?_)
    obtain ⟨rfl, rfl⟩ := hp
    refine g_eq (st' := [.int (SW w p)]) (ws' := [(u5, .inl (tyI D, 208, .inl M)), (u0, .inr (9, [.ref u1, .ref u2, .ref u3, .ref u4, .ref u5, .ref u6, .int (nI kn), .ref u7, .int (bB ik), .ref u8, .int (nI ty), .ref u9, .int (nI ta), .int (bB iw), .ref u10, .ref u11])), (u4, .inl (tyI D, 6912, .inl SWT))]) rfl rfl rfl ?_
    refine g_aload_n O dX9_canSound_14 0 rfl rfl ?_
    refine g_get O hiX9_canSound_X9 1 rfl rfl 4 (by decide) (by decide +kernel) rfl dX9_canSound_15 ?_
    refine g_sipush (x := (nI 145)) O dX9_canSound_18 (by decide +kernel) ?_
    refine g_ialdN O 0 rfl (by omega) (by omega) dX9_canSound_21 ?_
    refine g_eq (st' := [.int (sv_se s 1), .int (SW w p)]) (by rw [RM_s1 hM]) rfl rfl ?_
    refine g_icmp_lt (tgt := 29) O dX9_canSound_22 (by decide) (fun c_6 => ?_) (fun c_6 => ?_)
    ·
      have he : (bwB s w p && clB s w) = false := by simp only [bwB]; rw [decide_eq_false (Int32.not_le.mpr c_6)]; rfl
      refine g_iconst (x := (nI 0)) O dX9_canSound_29 (by decide +kernel) ?_
      refine g_perm (ws' := [(u0, .inr (9, [.ref u1, .ref u2, .ref u3, .ref u4, .ref u5, .ref u6, .int (nI kn), .ref u7, .int (bB ik), .ref u8, .int (nI ty), .ref u9, .int (nI ta), .int (bB iw), .ref u10, .ref u11])), (u4, .inl (tyI D, 6912, .inl SWT)), (u5, .inl (tyI D, 208, .inl M))]) [1, 2, 0] rfl (by decide) ?_
      refine g_eq (st' := [.int (bB false)]) rfl rfl rfl ?_
      exact E 30 _ false _ dX9_canSound_30 (by rw [he]; exact ⟨rfl, rfl⟩)
    ·
      have he : (bwB s w p && clB s w) = true := by simp only [bwB]; rw [decide_eq_true (Int32.not_lt.mp c_6)]; simp_all
      refine g_iconst (x := (nI 1)) O dX9_canSound_25 (by decide +kernel) ?_
      refine g_goto (tgt := 30) O dX9_canSound_26 (by decide) ?_
      refine g_perm (ws' := [(u0, .inr (9, [.ref u1, .ref u2, .ref u3, .ref u4, .ref u5, .ref u6, .int (nI kn), .ref u7, .int (bB ik), .ref u8, .int (nI ty), .ref u9, .int (nI ta), .int (bB iw), .ref u10, .ref u11])), (u4, .inl (tyI D, 6912, .inl SWT)), (u5, .inl (tyI D, 208, .inl M))]) [1, 2, 0] rfl (by decide) ?_
      refine g_eq (st' := [.int (bB true)]) rfl rfl rfl ?_
      exact E 30 _ true _ dX9_canSound_30 (by rw [he]; exact ⟨rfl, rfl⟩)

set_option maxHeartbeats 2000000 in
set_option maxRecDepth 100000 in
/-- the way that sounds -/
theorem kX9_soundsAt (l : Launch) (D : va_G) (z : Nat × Nat × Nat) (u0 : Nat) (u1 : Nat) (u2 : Nat) (u3 : Nat) (u4 : Nat) (u5 : Nat) (u6 : Nat) (u7 : Nat) (u8 : Nat) (u9 : Nat) (u10 : Nat) (u11 : Nat) (kn : Nat) (ik : Bool) (ty : Nat) (ta : Nat) (iw : Bool) (M : Nat → Int32) (s : SV) (p : Nat) (hp : p < 144) (hM : RM M s) (hnc : sv_nc s ≤ 4) (hcc : ∀ j, j < sv_nc s → sv_cc s j < 12 ∧ sv_cr s j < 12) : CM l yX9_soundsAt wsX9_soundsAt ({ frames := 3, cells := 0, slots := 0, locals := 67 } : Room) D z [.ref u0, .int (nI p)] [(u0, .inr (9, [.ref u1, .ref u2, .ref u3, .ref u4, .ref u5, .ref u6, .int (nI kn), .ref u7, .int (bB ik), .ref u8, .int (nI ty), .ref u9, .int (nI ta), .int (bB iw), .ref u10, .ref u11])), (u4, .inl (tyI D, 6912, .inl SWT)), (u5, .inl (tyI D, 208, .inl M))] (fun r_ w_ => r_ = some (.int (orN (wyO s p))) ∧ w_ = [(u0, .inr (9, [.ref u1, .ref u2, .ref u3, .ref u4, .ref u5, .ref u6, .int (nI kn), .ref u7, .int (bB ik), .ref u8, .int (nI ty), .ref u9, .int (nI ta), .int (bB iw), .ref u10, .ref u11])), (u4, .inl (tyI D, 6912, .inl SWT)), (u5, .inl (tyI D, 208, .inl M))]) 0 0 := by
  refine CM_int (own := RX9) (cc := cX9_soundsAt) (maxL := 3) (L0 := [(0, .ref u0), (1, .int (nI p))]) (by decide) rfl rfl (Nat.le_of_ble_eq_true rfl) rfl (fun X O E => ?_)
  refine g_iconst (x := (nI 0)) O dX9_soundsAt_0 (by decide +kernel) ?_
  refine g_istore_n (L' := [(0, .ref u0), (1, .int (nI p)), (2, .int (nI 0))]) O dX9_soundsAt_1 rfl (by decide) [1, 2, 0] rfl ?_
  have J2 : ∀ (n_ : Nat), ∀ (i_ : Nat) (hi_ : i_ ≤ 48) (hno : ∀ j, j < i_ → (bwB s j p && clB s j) = false), 48 - i_ < n_ → G X 0 0 2 [(0, .ref u0), (1, .int (nI p)), (2, .int (nI i_))] [] [(u0, .inr (9, [.ref u1, .ref u2, .ref u3, .ref u4, .ref u5, .ref u6, .int (nI kn), .ref u7, .int (bB ik), .ref u8, .int (nI ty), .ref u9, .int (nI ta), .int (bB iw), .ref u10, .ref u11])), (u4, .inl (tyI D, 6912, .inl SWT)), (u5, .inl (tyI D, 208, .inl M))] := by
    intro n_
    induction n_ with
    | zero => intro i_ hi_ hno hm_; exact absurd hm_ (Nat.not_lt_zero _)
    | succ n_ ih_ =>
      intro i_ hi_ hno hm_
      refine g_iload_n O dX9_soundsAt_2 2 rfl rfl ?_
      refine g_bipush (x := (nI 48)) O dX9_soundsAt_3 (by decide +kernel) ?_
      refine g_icmp_geN (tgt := 25) O (by omega) (by omega) dX9_soundsAt_5 (by decide) (fun c_1 => ?_) (fun c_1 => ?_)
      ·
        obtain rfl : i_ = 48 := by omega
        refine g_bipush (x := (-5)) O dX9_soundsAt_25 (by decide +kernel) ?_
        exact E 27 _ (-5) _ dX9_soundsAt_27 (by rw [show wyO s p = none from fdB_none.mpr hno]; exact ⟨rfl, rfl⟩)
      ·
        refine g_aload_n O dX9_soundsAt_8 0 rfl rfl ?_
        refine g_iload_n O dX9_soundsAt_9 2 rfl rfl ?_
        refine g_iload_n O dX9_soundsAt_10 1 rfl rfl ?_
        refine g_callV (As := [.int (nI i_), .int (nI p)]) (wr := []) O (kX9_canSound l D z u0 u1 u2 u3 u4 u5 u6 u7 u8 u9 u10 u11 kn ik ty ta iw M s i_ p (by first | assumption | omega) (by first | assumption | omega) (by first | assumption | omega) (by first | assumption | omega) (by first | assumption | omega)) gX9_soundsAt_X9_canSound rfl rfl rfl 2 (by decide +kernel) (by decide) (by decide) (q0 := 0) rfl rfl rfl [0, 1, 2] [] rfl (by decide) rfl (by decide) (by decide) rfl rfl (Nat.le_of_ble_eq_true rfl) dX9_soundsAt_11 (fun r_2 w_3 hp => ?_)
        obtain ⟨rfl, rfl⟩ := hp
        refine g_eq (st' := [.int (bB (bwB s i_ p && clB s i_))]) (ws' := [(u0, .inr (9, [.ref u1, .ref u2, .ref u3, .ref u4, .ref u5, .ref u6, .int (nI kn), .ref u7, .int (bB ik), .ref u8, .int (nI ty), .ref u9, .int (nI ta), .int (bB iw), .ref u10, .ref u11])), (u4, .inl (tyI D, 6912, .inl SWT)), (u5, .inl (tyI D, 208, .inl M))]) rfl rfl rfl ?_
        refine g_if_eqB (tgt := 19) O dX9_soundsAt_14 (by decide) (fun c_4 => ?_) (fun c_4 => ?_)
        ·
          refine g_iincN (L' := [(0, .ref u0), (1, .int (nI p)), (2, .int (nI (i_ + 1)))]) O dX9_soundsAt_19 2 rfl (by decide) [1, 2, 0] rfl ?_
          refine g_goto (tgt := 2) O dX9_soundsAt_22 (by decide) ?_
          exact ih_ (i_ + 1) (by first | assumption | omega | rfl) (fun j hj => by rcases Nat.lt_succ_iff_lt_or_eq.mp hj with h | h; exact hno j h; subst h; assumption) (by omega)
        ·
          refine g_iload_n O dX9_soundsAt_17 2 rfl rfl ?_
          exact E 18 _ (nI i_) _ dX9_soundsAt_18 (by rw [show wyO s p = some i_ from fdB_some.mpr ⟨by omega, by assumption, hno⟩]; exact ⟨rfl, rfl⟩)
  exact J2 _ 0 (Nat.zero_le _) (fun j hj => absurd hj (Nat.not_lt_zero _)) (Nat.lt_succ_self _)
