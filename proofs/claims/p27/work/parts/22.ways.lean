set_option maxHeartbeats 2000000 in
set_option maxRecDepth 100000 in
theorem kX8_isWay (l : Launch) (D : va_G) (z : Nat × Nat × Nat) (x : Int32)  : CM l yX8_isWay wsX8_isWay ({ frames := 0, cells := 0, slots := 0, locals := 0 } : Room) D z [.int x] [] (fun r_ w_ => r_ = some (.int (bB (rgB x 48))) ∧ w_ = []) 0 0 := by
  refine CM_bool (own := RX8) (cc := cX8_isWay) (maxL := 1) (L0 := [(0, .int x)]) (by decide) rfl rfl (Nat.le_of_ble_eq_true rfl) rfl (fun X O E => ?_)
  refine g_iload_n O dX8_isWay_0 0 rfl rfl ?_
  refine g_if_lt (tgt := 14) O dX8_isWay_1 (by decide) (fun c_1 => ?_) (fun c_1 => ?_)
  ·
    refine g_iconst (x := (nI 0)) O dX8_isWay_14 (by decide +kernel) ?_
    refine g_eq (st' := [.int (bB false)]) rfl rfl rfl ?_
    exact E 15 _ false _ dX8_isWay_15 (by refine ⟨?_, rfl⟩; congr 3; first | exact (rgB_of ‹_› ‹_›).symm | exact (rgB_neg ‹_›).symm | exact (rgB_ge ‹_›).symm)
  ·
    refine g_iload_n O dX8_isWay_4 0 rfl rfl ?_
    refine g_bipush (x := (nI 48)) O dX8_isWay_5 (by decide +kernel) ?_
    refine g_icmp_ge (tgt := 14) O dX8_isWay_7 (by decide) (fun c_2 => ?_) (fun c_2 => ?_)
    ·
      refine g_iconst (x := (nI 0)) O dX8_isWay_14 (by decide +kernel) ?_
      refine g_eq (st' := [.int (bB false)]) rfl rfl rfl ?_
      exact E 15 _ false _ dX8_isWay_15 (by refine ⟨?_, rfl⟩; congr 3; first | exact (rgB_of ‹_› ‹_›).symm | exact (rgB_neg ‹_›).symm | exact (rgB_ge ‹_›).symm)
    ·
      refine g_iconst (x := (nI 1)) O dX8_isWay_10 (by decide +kernel) ?_
      refine g_goto (tgt := 15) O dX8_isWay_11 (by decide) ?_
      refine g_eq (st' := [.int (bB true)]) rfl rfl rfl ?_
      exact E 15 _ true _ dX8_isWay_15 (by refine ⟨?_, rfl⟩; congr 3; first | exact (rgB_of ‹_› ‹_›).symm | exact (rgB_neg ‹_›).symm | exact (rgB_ge ‹_›).symm)
set_option maxHeartbeats 2000000 in
set_option maxRecDepth 100000 in
theorem kX8_isLine (l : Launch) (D : va_G) (z : Nat × Nat × Nat) (x : Int32)  : CM l yX8_isLine wsX8_isLine ({ frames := 0, cells := 0, slots := 0, locals := 0 } : Room) D z [.int x] [] (fun r_ w_ => r_ = some (.int (bB (rgB x 12))) ∧ w_ = []) 0 0 := by
  refine CM_bool (own := RX8) (cc := cX8_isLine) (maxL := 1) (L0 := [(0, .int x)]) (by decide) rfl rfl (Nat.le_of_ble_eq_true rfl) rfl (fun X O E => ?_)
  refine g_iload_n O dX8_isLine_0 0 rfl rfl ?_
  refine g_if_lt (tgt := 14) O dX8_isLine_1 (by decide) (fun c_1 => ?_) (fun c_1 => ?_)
  ·
    refine g_iconst (x := (nI 0)) O dX8_isLine_14 (by decide +kernel) ?_
    refine g_eq (st' := [.int (bB false)]) rfl rfl rfl ?_
    exact E 15 _ false _ dX8_isLine_15 (by refine ⟨?_, rfl⟩; congr 3; first | exact (rgB_of ‹_› ‹_›).symm | exact (rgB_neg ‹_›).symm | exact (rgB_ge ‹_›).symm)
  ·
    refine g_iload_n O dX8_isLine_4 0 rfl rfl ?_
    refine g_bipush (x := (nI 12)) O dX8_isLine_5 (by decide +kernel) ?_
    refine g_icmp_ge (tgt := 14) O dX8_isLine_7 (by decide) (fun c_2 => ?_) (fun c_2 => ?_)
    ·
      refine g_iconst (x := (nI 0)) O dX8_isLine_14 (by decide +kernel) ?_
      refine g_eq (st' := [.int (bB false)]) rfl rfl rfl ?_
      exact E 15 _ false _ dX8_isLine_15 (by refine ⟨?_, rfl⟩; congr 3; first | exact (rgB_of ‹_› ‹_›).symm | exact (rgB_neg ‹_›).symm | exact (rgB_ge ‹_›).symm)
    ·
      refine g_iconst (x := (nI 1)) O dX8_isLine_10 (by decide +kernel) ?_
      refine g_goto (tgt := 15) O dX8_isLine_11 (by decide) ?_
      refine g_eq (st' := [.int (bB true)]) rfl rfl rfl ?_
      exact E 15 _ true _ dX8_isLine_15 (by refine ⟨?_, rfl⟩; congr 3; first | exact (rgB_of ‹_› ‹_›).symm | exact (rgB_neg ‹_›).symm | exact (rgB_ge ‹_›).symm)
set_option maxHeartbeats 2000000 in
set_option maxRecDepth 100000 in
theorem kX8_isPlace (l : Launch) (D : va_G) (z : Nat × Nat × Nat) (x : Int32) (y : Int32)  : CM l yX8_isPlace wsX8_isPlace ({ frames := 0, cells := 0, slots := 0, locals := 0 } : Room) D z [.int x, .int y] [] (fun r_ w_ => r_ = some (.int (bB (rgB x 12 && rgB y 12))) ∧ w_ = []) 0 0 := by
  refine CM_bool (own := RX8) (cc := cX8_isPlace) (maxL := 2) (L0 := [(0, .int x), (1, .int y)]) (by decide) rfl rfl (Nat.le_of_ble_eq_true rfl) rfl (fun X O E => ?_)
  refine g_iload_n O dX8_isPlace_0 0 rfl rfl ?_
  refine g_if_lt (tgt := 24) O dX8_isPlace_1 (by decide) (fun c_1 => ?_) (fun c_1 => ?_)
  ·
    refine g_iconst (x := (nI 0)) O dX8_isPlace_24 (by decide +kernel) ?_
    refine g_eq (st' := [.int (bB false)]) rfl rfl rfl ?_
    exact E 25 _ false _ dX8_isPlace_25 (by refine ⟨?_, rfl⟩; congr 3; first | (rw [rgB_of (x := x) ‹_› ‹_›, rgB_of (x := y) ‹_› ‹_›]; rfl) | (rw [rgB_neg (x := x) ‹_›]; rfl) | (rw [rgB_ge (x := x) ‹_›]; rfl) | (rw [rgB_neg (x := y) ‹_›]; simp) | (rw [rgB_ge (x := y) ‹_›]; simp))
  ·
    refine g_iload_n O dX8_isPlace_4 0 rfl rfl ?_
    refine g_bipush (x := (nI 12)) O dX8_isPlace_5 (by decide +kernel) ?_
    refine g_icmp_ge (tgt := 24) O dX8_isPlace_7 (by decide) (fun c_2 => ?_) (fun c_2 => ?_)
    ·
      refine g_iconst (x := (nI 0)) O dX8_isPlace_24 (by decide +kernel) ?_
      refine g_eq (st' := [.int (bB false)]) rfl rfl rfl ?_
      exact E 25 _ false _ dX8_isPlace_25 (by refine ⟨?_, rfl⟩; congr 3; first | (rw [rgB_of (x := x) ‹_› ‹_›, rgB_of (x := y) ‹_› ‹_›]; rfl) | (rw [rgB_neg (x := x) ‹_›]; rfl) | (rw [rgB_ge (x := x) ‹_›]; rfl) | (rw [rgB_neg (x := y) ‹_›]; simp) | (rw [rgB_ge (x := y) ‹_›]; simp))
    ·
      refine g_iload_n O dX8_isPlace_10 1 rfl rfl ?_
      refine g_if_lt (tgt := 24) O dX8_isPlace_11 (by decide) (fun c_3 => ?_) (fun c_3 => ?_)
      ·
        refine g_iconst (x := (nI 0)) O dX8_isPlace_24 (by decide +kernel) ?_
        refine g_eq (st' := [.int (bB false)]) rfl rfl rfl ?_
        exact E 25 _ false _ dX8_isPlace_25 (by refine ⟨?_, rfl⟩; congr 3; first | (rw [rgB_of (x := x) ‹_› ‹_›, rgB_of (x := y) ‹_› ‹_›]; rfl) | (rw [rgB_neg (x := x) ‹_›]; rfl) | (rw [rgB_ge (x := x) ‹_›]; rfl) | (rw [rgB_neg (x := y) ‹_›]; simp) | (rw [rgB_ge (x := y) ‹_›]; simp))
      ·
        refine g_iload_n O dX8_isPlace_14 1 rfl rfl ?_
        refine g_bipush (x := (nI 12)) O dX8_isPlace_15 (by decide +kernel) ?_
        refine g_icmp_ge (tgt := 24) O dX8_isPlace_17 (by decide) (fun c_4 => ?_) (fun c_4 => ?_)
        ·
          refine g_iconst (x := (nI 0)) O dX8_isPlace_24 (by decide +kernel) ?_
          refine g_eq (st' := [.int (bB false)]) rfl rfl rfl ?_
          exact E 25 _ false _ dX8_isPlace_25 (by refine ⟨?_, rfl⟩; congr 3; first | (rw [rgB_of (x := x) ‹_› ‹_›, rgB_of (x := y) ‹_› ‹_›]; rfl) | (rw [rgB_neg (x := x) ‹_›]; rfl) | (rw [rgB_ge (x := x) ‹_›]; rfl) | (rw [rgB_neg (x := y) ‹_›]; simp) | (rw [rgB_ge (x := y) ‹_›]; simp))
        ·
          refine g_iconst (x := (nI 1)) O dX8_isPlace_20 (by decide +kernel) ?_
          refine g_goto (tgt := 25) O dX8_isPlace_21 (by decide) ?_
          refine g_eq (st' := [.int (bB true)]) rfl rfl rfl ?_
          exact E 25 _ true _ dX8_isPlace_25 (by refine ⟨?_, rfl⟩; congr 3; first | (rw [rgB_of (x := x) ‹_› ‹_›, rgB_of (x := y) ‹_› ‹_›]; rfl) | (rw [rgB_neg (x := x) ‹_›]; rfl) | (rw [rgB_ge (x := x) ‹_›]; rfl) | (rw [rgB_neg (x := y) ‹_›]; simp) | (rw [rgB_ge (x := y) ‹_›]; simp))
set_option maxHeartbeats 2000000 in
set_option maxRecDepth 100000 in
theorem kX8_placeOf (l : Launch) (D : va_G) (z : Nat × Nat × Nat) (x : Nat) (y : Nat)  : CM l yX8_placeOf wsX8_placeOf ({ frames := 0, cells := 0, slots := 0, locals := 0 } : Room) D z [.int (nI x), .int (nI y)] [] (fun r_ w_ => r_ = some (.int (nI (y * 12 + x))) ∧ w_ = []) 0 0 := by
  refine CM_int (own := RX8) (cc := cX8_placeOf) (maxL := 2) (L0 := [(0, .int (nI x)), (1, .int (nI y))]) (by decide) rfl rfl (Nat.le_of_ble_eq_true rfl) rfl (fun X O E => ?_)
  refine g_iload_n O dX8_placeOf_0 1 rfl rfl ?_
  refine g_bipush (x := (nI 12)) O dX8_placeOf_1 (by decide +kernel) ?_
  refine g_imulN O dX8_placeOf_3 ?_
  refine g_iload_n O dX8_placeOf_4 0 rfl rfl ?_
  refine g_iaddN O dX8_placeOf_5 ?_
  exact E 6 _ (nI ((y * 12) + x)) _ dX8_placeOf_6 ⟨rfl, rfl⟩
set_option maxHeartbeats 2000000 in
set_option maxRecDepth 100000 in
theorem kX8_columnOf (l : Launch) (D : va_G) (z : Nat × Nat × Nat) (p : Nat) (hp : p < 1073741824) : CM l yX8_columnOf wsX8_columnOf ({ frames := 0, cells := 0, slots := 0, locals := 0 } : Room) D z [.int (nI p)] [] (fun r_ w_ => r_ = some (.int (nI (p % 12))) ∧ w_ = []) 0 0 := by
  refine CM_int (own := RX8) (cc := cX8_columnOf) (maxL := 1) (L0 := [(0, .int (nI p))]) (by decide) rfl rfl (Nat.le_of_ble_eq_true rfl) rfl (fun X O E => ?_)
  refine g_iload_n O dX8_columnOf_0 0 rfl rfl ?_
  refine g_bipush (x := (nI 12)) O dX8_columnOf_1 (by decide +kernel) ?_
  refine g_iremN O (by omega) (by omega) (by omega) dX8_columnOf_3 ?_
  exact E 4 _ (nI (p % 12)) _ dX8_columnOf_4 ⟨rfl, rfl⟩
set_option maxHeartbeats 2000000 in
set_option maxRecDepth 100000 in
theorem kX8_rowOf (l : Launch) (D : va_G) (z : Nat × Nat × Nat) (p : Nat) (hp : p < 1073741824) : CM l yX8_rowOf wsX8_rowOf ({ frames := 0, cells := 0, slots := 0, locals := 0 } : Room) D z [.int (nI p)] [] (fun r_ w_ => r_ = some (.int (nI (p / 12))) ∧ w_ = []) 0 0 := by
  refine CM_int (own := RX8) (cc := cX8_rowOf) (maxL := 1) (L0 := [(0, .int (nI p))]) (by decide) rfl rfl (Nat.le_of_ble_eq_true rfl) rfl (fun X O E => ?_)
  refine g_iload_n O dX8_rowOf_0 0 rfl rfl ?_
  refine g_bipush (x := (nI 12)) O dX8_rowOf_1 (by decide +kernel) ?_
  refine g_idivN O (by omega) (by omega) (by omega) dX8_rowOf_3 ?_
  exact E 4 _ (nI (p / 12)) _ dX8_rowOf_4 ⟨rfl, rfl⟩
set_option maxHeartbeats 2000000 in
set_option maxRecDepth 100000 in
/-- the height of a wave -/
theorem kX7_waveHeight (l : Launch) (D : va_G) (z : Nat × Nat × Nat) (k : Nat) (x : Nat) (hk : k < 7) (hx : x < 12) : CM l yX7_waveHeight wsX7_waveHeight ({ frames := 0, cells := 0, slots := 0, locals := 0 } : Room) D z [.int (nI k), .int (nI x)] [] (fun r_ w_ => r_ = some (.int (hW k x)) ∧ w_ = []) 0 0 := by
  refine CM_int (own := RX7) (cc := cX7_waveHeight) (maxL := 3) (L0 := [(0, .int (nI k)), (1, .int (nI x))]) (by decide) rfl rfl (Nat.le_of_ble_eq_true rfl) rfl (fun X O E => ?_)
  refine g_sipush (x := (nI 200)) O dX7_waveHeight_0 (by decide +kernel) ?_
  refine g_iload_n O dX7_waveHeight_3 0 rfl rfl ?_
  refine g_imulN O dX7_waveHeight_4 ?_
  refine g_iload_n O dX7_waveHeight_5 1 rfl rfl ?_
  refine g_imulN O dX7_waveHeight_6 ?_
  have hkx : 200 * k * x ≤ 200 * 6 * 11 := Nat.mul_le_mul (Nat.mul_le_mul_left 200 (by omega)) (by omega)
  refine g_bipush (x := (nI 11)) O dX7_waveHeight_7 (by decide +kernel) ?_
  refine g_idivN O (by omega) (by omega) (by omega) dX7_waveHeight_9 ?_
  refine g_sipush (x := (nI 400)) O dX7_waveHeight_10 (by decide +kernel) ?_
  refine g_iremN O (by omega) (by omega) (by omega) dX7_waveHeight_13 ?_
  refine g_istore_n (L' := [(0, .int (nI k)), (1, .int (nI x)), (2, .int (nI ((((200 * k) * x) / 11) % 400)))]) O dX7_waveHeight_14 rfl (by decide) [1, 2, 0] rfl ?_
  refine g_iload_n O dX7_waveHeight_15 2 rfl rfl ?_
  refine g_sipush (x := (nI 200)) O dX7_waveHeight_16 (by decide +kernel) ?_
  refine g_icmp_gtN (tgt := 29) O (by omega) (by omega) dX7_waveHeight_19 (by decide) (fun c_1 => ?_) (fun c_1 => ?_)
  ·
    have hh : hW k x = nI (200 * k * x / 11 % 400) - nI 300 := by simp only [hW]; rw [if_neg (by omega)]
    refine g_iload_n O dX7_waveHeight_29 2 rfl rfl ?_
    refine g_sipush (x := (nI 300)) O dX7_waveHeight_30 (by decide +kernel) ?_
    refine g_isub O dX7_waveHeight_33 ?_
    exact E 34 _ ((nI ((((200 * k) * x) / 11) % 400)) - (nI 300)) _ dX7_waveHeight_34 (by rw [hh]; exact ⟨rfl, rfl⟩)
  ·
    have hh : hW k x = nI 100 - nI (200 * k * x / 11 % 400) := by simp only [hW]; rw [if_pos c_1]
    refine g_bipush (x := (nI 100)) O dX7_waveHeight_22 (by decide +kernel) ?_
    refine g_iload_n O dX7_waveHeight_24 2 rfl rfl ?_
    refine g_isub O dX7_waveHeight_25 ?_
    refine g_goto (tgt := 34) O dX7_waveHeight_26 (by decide) ?_
    exact E 34 _ ((nI 100) - (nI ((((200 * k) * x) / 11) % 400))) _ dX7_waveHeight_34 (by rw [hh]; exact ⟨rfl, rfl⟩)
theorem hiX7_noteOf_X7 : ∀ w ∈ wsX70, w ∈ wsX7_noteOf := by decide +kernel
set_option maxHeartbeats 2000000 in
set_option maxRecDepth 100000 in
/-- the note of a way -/
theorem kX7_noteOf (l : Launch) (D : va_G) (z : Nat × Nat × Nat) (w0 : Nat) (w1 : Nat) (w2 : Nat) (w3 : Nat) (w4 : Nat) (w : Nat) (hw : w < 48) : CM l yX7_noteOf wsX7_noteOf ({ frames := 1, cells := 0, slots := 0, locals := 20 } : Room) D z [.ref w0, .int (nI w)] [(w0, .inr (7, [.ref w1, .ref w2, .ref w3, .ref w4, .int (nI 48)])), (w1, .inl (tyI D, 48, .inl (nf tM))), (w2, .inl (tyI D, 48, .inl (nf tN))), (w3, .inl (tyI D, 48, .inl (nf tS))), (w4, .inl (tyI D, 84, .inl hT))] (fun r_ w_ => r_ = some (.int (nI (10 * (tM w * tM w + tN w * tN w) + tS w))) ∧ w_ = [(w0, .inr (7, [.ref w1, .ref w2, .ref w3, .ref w4, .int (nI 48)])), (w1, .inl (tyI D, 48, .inl (nf tM))), (w2, .inl (tyI D, 48, .inl (nf tN))), (w3, .inl (tyI D, 48, .inl (nf tS))), (w4, .inl (tyI D, 84, .inl hT))]) 0 0 := by
  refine CM_int (own := RX7) (cc := cX7_noteOf) (maxL := 2) (L0 := [(0, .ref w0), (1, .int (nI w))]) (by decide) rfl rfl (Nat.le_of_ble_eq_true rfl) rfl (fun X O E => ?_)
  refine g_iload_n O dX7_noteOf_0 1 rfl rfl ?_
  refine g_callSN (As := [.int (nI w)]) (wr := [(w0, .inr (7, [.ref w1, .ref w2, .ref w3, .ref w4, .int (nI 48)])), (w1, .inl (tyI D, 48, .inl (nf tM))), (w2, .inl (tyI D, 48, .inl (nf tN))), (w3, .inl (tyI D, 48, .inl (nf tS))), (w4, .inl (tyI D, 84, .inl hT))]) O (kX8_isWay l D z (nI w) ) gX7_noteOf_X8_isWay_n36 rfl rfl rfl 1 (by decide +kernel) (by decide) (by decide) (by decide +kernel) 1 rfl (by decide +kernel) [] [0, 1, 2, 3, 4] rfl (by decide) rfl (by decide) (by decide) rfl rfl (Nat.le_of_ble_eq_true rfl) dX7_noteOf_1 (fun r_1 w_2 hp => ?_)
  obtain ⟨rfl, rfl⟩ := hp
  refine g_eq (st' := [.int (bB (rgB (nI w) 48))]) (ws' := [(w0, .inr (7, [.ref w1, .ref w2, .ref w3, .ref w4, .int (nI 48)])), (w1, .inl (tyI D, 48, .inl (nf tM))), (w2, .inl (tyI D, 48, .inl (nf tN))), (w3, .inl (tyI D, 48, .inl (nf tS))), (w4, .inl (tyI D, 84, .inl hT))]) rfl rfl rfl ?_
  refine g_if_neB (tgt := 9) O dX7_noteOf_4 (by decide) (fun c_3 => ?_) (fun c_3 => absurd c_3 (by rw [rgB_t hw (by decide)]; decide))
  refine g_bipush (x := (nI 10)) O dX7_noteOf_9 (by decide +kernel) ?_
  refine g_aload_n O dX7_noteOf_11 0 rfl rfl ?_
  refine g_get O hiX7_noteOf_X7 0 rfl rfl 0 (by decide) (by decide +kernel) rfl dX7_noteOf_12 ?_
  refine g_iload_n O dX7_noteOf_15 1 rfl rfl ?_
  refine g_ialdN O 1 rfl (by omega) (by omega) dX7_noteOf_16 ?_
  refine g_aload_n O dX7_noteOf_17 0 rfl rfl ?_
  refine g_get O hiX7_noteOf_X7 0 rfl rfl 0 (by decide) (by decide +kernel) rfl dX7_noteOf_18 ?_
  refine g_iload_n O dX7_noteOf_21 1 rfl rfl ?_
  refine g_ialdN O 1 rfl (by omega) (by omega) dX7_noteOf_22 ?_
  refine g_imulN O dX7_noteOf_23 ?_
  refine g_aload_n O dX7_noteOf_24 0 rfl rfl ?_
  refine g_get O hiX7_noteOf_X7 0 rfl rfl 1 (by decide) (by decide +kernel) rfl dX7_noteOf_25 ?_
  refine g_iload_n O dX7_noteOf_28 1 rfl rfl ?_
  refine g_ialdN O 2 rfl (by omega) (by omega) dX7_noteOf_29 ?_
  refine g_aload_n O dX7_noteOf_30 0 rfl rfl ?_
  refine g_get O hiX7_noteOf_X7 0 rfl rfl 1 (by decide) (by decide +kernel) rfl dX7_noteOf_31 ?_
  refine g_iload_n O dX7_noteOf_34 1 rfl rfl ?_
  refine g_ialdN O 2 rfl (by omega) (by omega) dX7_noteOf_35 ?_
  refine g_imulN O dX7_noteOf_36 ?_
  refine g_iaddN O dX7_noteOf_37 ?_
  refine g_imulN O dX7_noteOf_38 ?_
  refine g_aload_n O dX7_noteOf_39 0 rfl rfl ?_
  refine g_get O hiX7_noteOf_X7 0 rfl rfl 2 (by decide) (by decide +kernel) rfl dX7_noteOf_40 ?_
  refine g_iload_n O dX7_noteOf_43 1 rfl rfl ?_
  refine g_ialdN O 3 rfl (by omega) (by omega) dX7_noteOf_44 ?_
  refine g_iaddN O dX7_noteOf_45 ?_
  exact E 46 _ (nI ((10 * (((tM w) * (tM w)) + ((tN w) * (tN w)))) + (tS w))) _ dX7_noteOf_46 ⟨rfl, rfl⟩
theorem hiX7_swingAt_X7 : ∀ w ∈ wsX70, w ∈ wsX7_swingAt := by decide +kernel
set_option maxHeartbeats 2000000 in
set_option maxRecDepth 100000 in
/-- the swing of a way at a place -/
theorem kX7_swingAt (l : Launch) (D : va_G) (z : Nat × Nat × Nat) (w0 : Nat) (w1 : Nat) (w2 : Nat) (w3 : Nat) (w4 : Nat) (w : Nat) (x : Nat) (y : Nat) (hw : w < 48) (hx : x < 12) (hy : y < 12) : CM l yX7_swingAt wsX7_swingAt ({ frames := 1, cells := 0, slots := 0, locals := 21 } : Room) D z [.ref w0, .int (nI w), .int (nI x), .int (nI y)] [(w0, .inr (7, [.ref w1, .ref w2, .ref w3, .ref w4, .int (nI 48)])), (w1, .inl (tyI D, 48, .inl (nf tM))), (w2, .inl (tyI D, 48, .inl (nf tN))), (w3, .inl (tyI D, 48, .inl (nf tS))), (w4, .inl (tyI D, 84, .inl hT))] (fun r_ w_ => r_ = some (.int (SW w (12 * y + x))) ∧ w_ = [(w0, .inr (7, [.ref w1, .ref w2, .ref w3, .ref w4, .int (nI 48)])), (w1, .inl (tyI D, 48, .inl (nf tM))), (w2, .inl (tyI D, 48, .inl (nf tN))), (w3, .inl (tyI D, 48, .inl (nf tS))), (w4, .inl (tyI D, 84, .inl hT))]) 0 0 := by
  refine CM_int (own := RX7) (cc := cX7_swingAt) (maxL := 8) (L0 := [(0, .ref w0), (1, .int (nI w)), (2, .int (nI x)), (3, .int (nI y))]) (by decide) rfl rfl (Nat.le_of_ble_eq_true rfl) rfl (fun X O E => ?_)
  refine g_iload_n O dX7_swingAt_0 1 rfl rfl ?_
  refine g_callSN (As := [.int (nI w)]) (wr := [(w0, .inr (7, [.ref w1, .ref w2, .ref w3, .ref w4, .int (nI 48)])), (w1, .inl (tyI D, 48, .inl (nf tM))), (w2, .inl (tyI D, 48, .inl (nf tN))), (w3, .inl (tyI D, 48, .inl (nf tS))), (w4, .inl (tyI D, 84, .inl hT))]) O (kX8_isWay l D z (nI w) ) gX7_swingAt_X8_isWay_n36 rfl rfl rfl 1 (by decide +kernel) (by decide) (by decide) (by decide +kernel) 1 rfl (by decide +kernel) [] [0, 1, 2, 3, 4] rfl (by decide) rfl (by decide) (by decide) rfl rfl (Nat.le_of_ble_eq_true rfl) dX7_swingAt_1 (fun r_1 w_2 hp => ?_)
  obtain ⟨rfl, rfl⟩ := hp
  refine g_eq (st' := [.int (bB (rgB (nI w) 48))]) (ws' := [(w0, .inr (7, [.ref w1, .ref w2, .ref w3, .ref w4, .int (nI 48)])), (w1, .inl (tyI D, 48, .inl (nf tM))), (w2, .inl (tyI D, 48, .inl (nf tN))), (w3, .inl (tyI D, 48, .inl (nf tS))), (w4, .inl (tyI D, 84, .inl hT))]) rfl rfl rfl ?_
  refine g_if_eqB (tgt := 15) O dX7_swingAt_4 (by decide) (fun c_3 => absurd c_3 (by rw [rgB_t hw (by decide)]; decide)) (fun c_3 => ?_)
  refine g_iload_n O dX7_swingAt_7 2 rfl rfl ?_
  refine g_iload_n O dX7_swingAt_8 3 rfl rfl ?_
  refine g_callSN (As := [.int (nI x), .int (nI y)]) (wr := [(w0, .inr (7, [.ref w1, .ref w2, .ref w3, .ref w4, .int (nI 48)])), (w1, .inl (tyI D, 48, .inl (nf tM))), (w2, .inl (tyI D, 48, .inl (nf tN))), (w3, .inl (tyI D, 48, .inl (nf tS))), (w4, .inl (tyI D, 84, .inl hT))]) O (kX8_isPlace l D z (nI x) (nI y) ) gX7_swingAt_X8_isPlace_n40 rfl rfl rfl 2 (by decide +kernel) (by decide) (by decide) (by decide +kernel) 2 rfl (by decide +kernel) [] [0, 1, 2, 3, 4] rfl (by decide) rfl (by decide) (by decide) rfl rfl (Nat.le_of_ble_eq_true rfl) dX7_swingAt_9 (fun r_4 w_5 hp => ?_)
  obtain ⟨rfl, rfl⟩ := hp
  refine g_eq (st' := [.int (bB (rgB (nI x) 12 && rgB (nI y) 12))]) (ws' := [(w0, .inr (7, [.ref w1, .ref w2, .ref w3, .ref w4, .int (nI 48)])), (w1, .inl (tyI D, 48, .inl (nf tM))), (w2, .inl (tyI D, 48, .inl (nf tN))), (w3, .inl (tyI D, 48, .inl (nf tS))), (w4, .inl (tyI D, 84, .inl hT))]) rfl rfl rfl ?_
  refine g_if_neB (tgt := 17) O dX7_swingAt_12 (by decide) (fun c_6 => ?_) (fun c_6 => absurd c_6 (by rw [rgB_t hx (by decide), rgB_t hy (by decide)]; decide))
  obtain ⟨ht1, ht2, ht3⟩ := tab_all w hw
  refine g_aload_n O dX7_swingAt_17 0 rfl rfl ?_
  refine g_get O hiX7_swingAt_X7 0 rfl rfl 0 (by decide) (by decide +kernel) rfl dX7_swingAt_18 ?_
  refine g_iload_n O dX7_swingAt_21 1 rfl rfl ?_
  refine g_ialdN O 1 rfl (by omega) (by omega) dX7_swingAt_22 ?_
  refine g_bipush (x := (nI 12)) O dX7_swingAt_23 (by decide +kernel) ?_
  refine g_imulN O dX7_swingAt_25 ?_
  refine g_istore (L' := [(0, .ref w0), (1, .int (nI w)), (2, .int (nI x)), (3, .int (nI y)), (4, .int (nI ((tM w) * 12)))]) O dX7_swingAt_26 (by decide) [1, 2, 3, 4, 0] rfl ?_
  refine g_aload_n O dX7_swingAt_28 0 rfl rfl ?_
  refine g_get O hiX7_swingAt_X7 0 rfl rfl 1 (by decide) (by decide +kernel) rfl dX7_swingAt_29 ?_
  refine g_iload_n O dX7_swingAt_32 1 rfl rfl ?_
  refine g_ialdN O 2 rfl (by omega) (by omega) dX7_swingAt_33 ?_
  refine g_bipush (x := (nI 12)) O dX7_swingAt_34 (by decide +kernel) ?_
  refine g_imulN O dX7_swingAt_36 ?_
  refine g_istore (L' := [(0, .ref w0), (1, .int (nI w)), (2, .int (nI x)), (3, .int (nI y)), (4, .int (nI ((tM w) * 12))), (5, .int (nI ((tN w) * 12)))]) O dX7_swingAt_37 (by decide) [1, 2, 3, 4, 5, 0] rfl ?_
  refine g_aload_n O dX7_swingAt_39 0 rfl rfl ?_
  refine g_get O hiX7_swingAt_X7 0 rfl rfl 3 (by decide) (by decide +kernel) rfl dX7_swingAt_40 ?_
  refine g_iload O dX7_swingAt_43 4 rfl ?_
  refine g_iload_n O dX7_swingAt_45 2 rfl rfl ?_
  refine g_iaddN O dX7_swingAt_46 ?_
  refine g_ialdN O 4 rfl (by omega) (by omega) dX7_swingAt_47 ?_
  refine g_aload_n O dX7_swingAt_48 0 rfl rfl ?_
  refine g_get O hiX7_swingAt_X7 0 rfl rfl 3 (by decide) (by decide +kernel) rfl dX7_swingAt_49 ?_
  refine g_iload O dX7_swingAt_52 5 rfl ?_
  refine g_iload_n O dX7_swingAt_54 3 rfl rfl ?_
  refine g_iaddN O dX7_swingAt_55 ?_
  refine g_ialdN O 4 rfl (by omega) (by omega) dX7_swingAt_56 ?_
  refine g_imul O dX7_swingAt_57 ?_
  refine g_istore (L' := [(0, .ref w0), (1, .int (nI w)), (2, .int (nI x)), (3, .int (nI y)), (4, .int (nI ((tM w) * 12))), (5, .int (nI ((tN w) * 12))), (6, .int ((hT (((tM w) * 12) + x)) * (hT (((tN w) * 12) + y))))]) O dX7_swingAt_58 (by decide) [1, 2, 3, 4, 5, 6, 0] rfl ?_
  refine g_aload_n O dX7_swingAt_60 0 rfl rfl ?_
  refine g_get O hiX7_swingAt_X7 0 rfl rfl 3 (by decide) (by decide +kernel) rfl dX7_swingAt_61 ?_
  refine g_iload O dX7_swingAt_64 5 rfl ?_
  refine g_iload_n O dX7_swingAt_66 2 rfl rfl ?_
  refine g_iaddN O dX7_swingAt_67 ?_
  refine g_ialdN O 4 rfl (by omega) (by omega) dX7_swingAt_68 ?_
  refine g_aload_n O dX7_swingAt_69 0 rfl rfl ?_
  refine g_get O hiX7_swingAt_X7 0 rfl rfl 3 (by decide) (by decide +kernel) rfl dX7_swingAt_70 ?_
  refine g_iload O dX7_swingAt_73 4 rfl ?_
  refine g_iload_n O dX7_swingAt_75 3 rfl rfl ?_
  refine g_iaddN O dX7_swingAt_76 ?_
  refine g_ialdN O 4 rfl (by omega) (by omega) dX7_swingAt_77 ?_
  refine g_imul O dX7_swingAt_78 ?_
  refine g_istore (L' := [(0, .ref w0), (1, .int (nI w)), (2, .int (nI x)), (3, .int (nI y)), (4, .int (nI ((tM w) * 12))), (5, .int (nI ((tN w) * 12))), (6, .int ((hT (((tM w) * 12) + x)) * (hT (((tN w) * 12) + y)))), (7, .int ((hT (((tN w) * 12) + x)) * (hT (((tM w) * 12) + y))))]) O dX7_swingAt_79 (by decide) [1, 2, 3, 4, 5, 6, 7, 0] rfl ?_
  refine g_aload_n O dX7_swingAt_81 0 rfl rfl ?_
  refine g_get O hiX7_swingAt_X7 0 rfl rfl 2 (by decide) (by decide +kernel) rfl dX7_swingAt_82 ?_
  refine g_iload_n O dX7_swingAt_85 1 rfl rfl ?_
  refine g_ialdN O 3 rfl (by omega) (by omega) dX7_swingAt_86 ?_
  refine g_if_neN (tgt := 98) O (by omega) dX7_swingAt_87 (by decide) (fun c_7 => ?_) (fun c_7 => ?_)
  ·
    have hh := SW_xy (w := w) (y := y) hx
    rw [if_neg (by omega), ← hT_at hx, ← hT_at hy, ← hT_at (k := tN w) hx, ← hT_at (k := tM w) hy] at hh
    refine g_iload O dX7_swingAt_98 6 rfl ?_
    refine g_iload O dX7_swingAt_100 7 rfl ?_
    refine g_isub O dX7_swingAt_102 ?_
    refine g_bipush (x := (nI 100)) O dX7_swingAt_103 (by decide +kernel) ?_
    refine g_idiv O dX7_swingAt_105 (by decide +kernel) ?_
    refine g_abs O (by decide +kernel) (by decide +kernel) (by decide +kernel) (by decide +kernel) (by decide) (Nat.le_of_ble_eq_true rfl) (by decide) dX7_swingAt_106 ?_
    refine g_eq (st' := [.int (ab ((((hT (((tM w) * 12) + x)) * (hT (((tN w) * 12) + y))) - ((hT (((tN w) * 12) + x)) * (hT (((tM w) * 12) + y)))) / (nI 100)))]) rfl rfl rfl ?_
    exact E 109 _ (ab ((((hT (((tM w) * 12) + x)) * (hT (((tN w) * 12) + y))) - ((hT (((tN w) * 12) + x)) * (hT (((tM w) * 12) + y)))) / (nI 100))) _ dX7_swingAt_109 (by rw [hh]; exact ⟨rfl, rfl⟩)
  ·
    have hh := SW_xy (w := w) (y := y) hx
    rw [if_pos (by omega), ← hT_at hx, ← hT_at hy, ← hT_at (k := tN w) hx, ← hT_at (k := tM w) hy] at hh
    refine g_iload O dX7_swingAt_90 6 rfl ?_
    refine g_iload O dX7_swingAt_92 7 rfl ?_
    refine g_iadd O dX7_swingAt_94 ?_
    refine g_goto (tgt := 103) O dX7_swingAt_95 (by decide) ?_
    refine g_bipush (x := (nI 100)) O dX7_swingAt_103 (by decide +kernel) ?_
    refine g_idiv O dX7_swingAt_105 (by decide +kernel) ?_
    refine g_abs O (by decide +kernel) (by decide +kernel) (by decide +kernel) (by decide +kernel) (by decide) (Nat.le_of_ble_eq_true rfl) (by decide) dX7_swingAt_106 ?_
    refine g_eq (st' := [.int (ab ((((hT (((tM w) * 12) + x)) * (hT (((tN w) * 12) + y))) + ((hT (((tN w) * 12) + x)) * (hT (((tM w) * 12) + y)))) / (nI 100)))]) rfl rfl rfl ?_
    exact E 109 _ (ab ((((hT (((tM w) * 12) + x)) * (hT (((tN w) * 12) + y))) + ((hT (((tN w) * 12) + x)) * (hT (((tM w) * 12) + y)))) / (nI 100))) _ dX7_swingAt_109 (by rw [hh]; exact ⟨rfl, rfl⟩)
