set_option maxHeartbeats 4000000 in
set_option maxRecDepth 100000 in
theorem kX8_place_b1 (l : Launch) (D : va_G) (z : Nat × Nat × Nat) (b0 : Nat) (w0 : Nat) (c0 : Nat) (f0 : Nat) (m0 : Nat) (t0 : Nat) (n0 : Nat) (hs : Bool) (y0 : Nat) (h0 : Nat) (x : Int32) (y : Int32) (k : Int32) (hb : (rgB x 12 && rgB y 12) = false) : CM l yX8_place wsX8_place ({ frames := 3, cells := 0, slots := 0, locals := 71 } : Room) D z [.ref b0, .int x, .int y, .int k] [(b0, .inr (8, [.ref w0, .ref h0, .ref c0, .ref f0, .ref m0, .ref t0, .ref y0, .ref n0, .int (bB hs)]))] (fun r_ w_ => r_ = some (.int (-1)) ∧ w_ = [(b0, .inr (8, [.ref w0, .ref h0, .ref c0, .ref f0, .ref m0, .ref t0, .ref y0, .ref n0, .int (bB hs)]))]) 0 0 := by
  refine CM_int (own := RX8) (cc := cX8_place) (maxL := 4) (L0 := [(0, .ref b0), (1, .int x), (2, .int y), (3, .int k)]) (by decide) rfl rfl (Nat.le_of_ble_eq_true rfl) rfl (fun X O E => ?_)
  refine g_iload_n O dX8_place_0 1 rfl rfl ?_
  refine g_iload_n O dX8_place_1 2 rfl rfl ?_
  refine g_callS (As := [.int x, .int y]) (wr := [(b0, .inr (8, [.ref w0, .ref h0, .ref c0, .ref f0, .ref m0, .ref t0, .ref y0, .ref n0, .int (bB hs)]))]) O (kX8_isPlace l D z x y ) gX8_place_X8_isPlace rfl rfl rfl 2 (by decide +kernel) (by decide) (by decide) [] [0] rfl (by decide) rfl (by decide) (by decide) rfl rfl (Nat.le_of_ble_eq_true rfl) dX8_place_2 (fun r_1 w_2 hp => ?_)
  obtain ⟨rfl, rfl⟩ := hp
  refine g_eq (st' := [.int (bB (rgB x 12 && rgB y 12))]) (ws' := [(b0, .inr (8, [.ref w0, .ref h0, .ref c0, .ref f0, .ref m0, .ref t0, .ref y0, .ref n0, .int (bB hs)]))]) rfl rfl rfl ?_
  refine g_if_neB (tgt := 10) O dX8_place_5 (by decide) (fun c_3 => absurd c_3 (by rw [hb]; decide)) (fun c_3 => ?_)
  refine g_iconst (x := (-1)) O dX8_place_8 (by decide +kernel) ?_
  exact E 9 _ (-1) _ dX8_place_9 ⟨rfl, rfl⟩

set_option maxHeartbeats 4000000 in
set_option maxRecDepth 100000 in
theorem kX8_place_b2 (l : Launch) (D : va_G) (z : Nat × Nat × Nat) (b0 : Nat) (w0 : Nat) (c0 : Nat) (f0 : Nat) (m0 : Nat) (t0 : Nat) (n0 : Nat) (hs : Bool) (y0 : Nat) (h0 : Nat) (x : Nat) (y : Nat) (k : Int32) (hx : x < 12) (hy : y < 12) (hsw : k < 0 ∨ nI 4 ≤ k) : CM l yX8_place wsX8_place ({ frames := 3, cells := 0, slots := 0, locals := 71 } : Room) D z [.ref b0, .int (nI x), .int (nI y), .int k] [(b0, .inr (8, [.ref w0, .ref h0, .ref c0, .ref f0, .ref m0, .ref t0, .ref y0, .ref n0, .int (bB hs)]))] (fun r_ w_ => r_ = some (.int (-2)) ∧ w_ = [(b0, .inr (8, [.ref w0, .ref h0, .ref c0, .ref f0, .ref m0, .ref t0, .ref y0, .ref n0, .int (bB hs)]))]) 0 0 := by
  refine CM_int (own := RX8) (cc := cX8_place) (maxL := 4) (L0 := [(0, .ref b0), (1, .int (nI x)), (2, .int (nI y)), (3, .int k)]) (by decide) rfl rfl (Nat.le_of_ble_eq_true rfl) rfl (fun X O E => ?_)
  refine g_iload_n O dX8_place_0 1 rfl rfl ?_
  refine g_iload_n O dX8_place_1 2 rfl rfl ?_
  refine g_callS (As := [.int (nI x), .int (nI y)]) (wr := [(b0, .inr (8, [.ref w0, .ref h0, .ref c0, .ref f0, .ref m0, .ref t0, .ref y0, .ref n0, .int (bB hs)]))]) O (kX8_isPlace l D z (nI x) (nI y) ) gX8_place_X8_isPlace rfl rfl rfl 2 (by decide +kernel) (by decide) (by decide) [] [0] rfl (by decide) rfl (by decide) (by decide) rfl rfl (Nat.le_of_ble_eq_true rfl) dX8_place_2 (fun r_1 w_2 hp => ?_)
  obtain ⟨rfl, rfl⟩ := hp
  refine g_eq (st' := [.int (bB (rgB (nI x) 12 && rgB (nI y) 12))]) (ws' := [(b0, .inr (8, [.ref w0, .ref h0, .ref c0, .ref f0, .ref m0, .ref t0, .ref y0, .ref n0, .int (bB hs)]))]) rfl rfl rfl ?_
  refine g_if_neB (tgt := 10) O dX8_place_5 (by decide) (fun c_3 => ?_) (fun c_3 => absurd c_3 (by rw [rgB_t hx (by decide), rgB_t hy (by decide)]; decide))
  refine g_iload_n O dX8_place_10 3 rfl rfl ?_
  refine g_tableO (tgt := 140) (N := 4) O dX8_place_11 hsw (by decide) (by decide) (by decide) ?_
  refine g_bipush (x := (-2)) O dX8_place_140 (by decide +kernel) ?_
  exact E 142 _ (-2) _ dX8_place_142 ⟨rfl, rfl⟩

theorem hiX8_place_X5 : ∀ w ∈ wsX50, w ∈ wsX8_place := by decide +kernel
theorem hiX8_place_X8 : ∀ w ∈ wsX80, w ∈ wsX8_place := by decide +kernel
set_option maxHeartbeats 4000000 in
set_option maxRecDepth 100000 in
theorem kX8_place_0 (l : Launch) (D : va_G) (z : Nat × Nat × Nat) (b0 : Nat) (w0 : Nat) (c0 : Nat) (f0 : Nat) (m0 : Nat) (t0 : Nat) (n0 : Nat) (hs : Bool) (y0 : Nat) (h0 : Nat) (h1 : Nat) (h2 : Nat) (h3 : Nat) (h4 : Nat) (h5 : Nat) (s : SV) (x : Nat) (y : Nat) (hx : x < 12) (hy : y < 12) : CM l yX8_place wsX8_place ({ frames := 3, cells := 0, slots := 0, locals := 71 } : Room) D z [.ref b0, .int (nI x), .int (nI y), .int (nI 0)] [(b0, .inr (8, [.ref w0, .ref h0, .ref c0, .ref f0, .ref m0, .ref t0, .ref y0, .ref n0, .int (bB hs)])), (h0, .inr (5, [.ref h1, .ref h2, .ref h3, .int (nI (sv_nc s)), .ref h4, .ref h5, .int (sv_la s), .int (sv_st s), .int (sv_sw s), .int (sv_fl s), .int (sv_sk s), .int (sv_mu s)])), (h1, .inl ((TY D)[0].1, 144, .inl (nf (sv_g s))))] (fun r_ w_ => r_ = some (.int (nI (sv_g s (y * 12 + x)))) ∧ w_ = [(b0, .inr (8, [.ref w0, .ref h0, .ref c0, .ref f0, .ref m0, .ref t0, .ref y0, .ref n0, .int (bB hs)])), (h0, .inr (5, [.ref h1, .ref h2, .ref h3, .int (nI (sv_nc s)), .ref h4, .ref h5, .int (sv_la s), .int (sv_st s), .int (sv_sw s), .int (sv_fl s), .int (sv_sk s), .int (sv_mu s)])), (h1, .inl ((TY D)[0].1, 144, .inl (nf (sv_g s))))]) 0 0 := by
  refine CM_int (own := RX8) (cc := cX8_place) (maxL := 4) (L0 := [(0, .ref b0), (1, .int (nI x)), (2, .int (nI y)), (3, .int (nI 0))]) (by decide) rfl rfl (Nat.le_of_ble_eq_true rfl) rfl (fun X O E => ?_)
  refine g_iload_n O dX8_place_0 1 rfl rfl ?_
  refine g_iload_n O dX8_place_1 2 rfl rfl ?_
  refine g_callS (As := [.int (nI x), .int (nI y)]) (wr := [(b0, .inr (8, [.ref w0, .ref h0, .ref c0, .ref f0, .ref m0, .ref t0, .ref y0, .ref n0, .int (bB hs)])), (h0, .inr (5, [.ref h1, .ref h2, .ref h3, .int (nI (sv_nc s)), .ref h4, .ref h5, .int (sv_la s), .int (sv_st s), .int (sv_sw s), .int (sv_fl s), .int (sv_sk s), .int (sv_mu s)])), (h1, .inl ((TY D)[0].1, 144, .inl (nf (sv_g s))))]) O (kX8_isPlace l D z (nI x) (nI y) ) gX8_place_X8_isPlace rfl rfl rfl 2 (by decide +kernel) (by decide) (by decide) [] [0, 1, 2] rfl (by decide) rfl (by decide) (by decide) rfl rfl (Nat.le_of_ble_eq_true rfl) dX8_place_2 (fun r_1 w_2 hp => ?_)
  obtain ⟨rfl, rfl⟩ := hp
  refine g_eq (st' := [.int (bB (rgB (nI x) 12 && rgB (nI y) 12))]) (ws' := [(b0, .inr (8, [.ref w0, .ref h0, .ref c0, .ref f0, .ref m0, .ref t0, .ref y0, .ref n0, .int (bB hs)])), (h0, .inr (5, [.ref h1, .ref h2, .ref h3, .int (nI (sv_nc s)), .ref h4, .ref h5, .int (sv_la s), .int (sv_st s), .int (sv_sw s), .int (sv_fl s), .int (sv_sk s), .int (sv_mu s)])), (h1, .inl ((TY D)[0].1, 144, .inl (nf (sv_g s))))]) rfl rfl rfl ?_
  refine g_if_neB (tgt := 10) O dX8_place_5 (by decide) (fun c_3 => ?_) (fun c_3 => absurd c_3 (by rw [rgB_t hx (by decide), rgB_t hy (by decide)]; decide))
  refine g_iload_n O dX8_place_10 3 rfl rfl ?_
  refine g_tableIn (off := 29) (tgt := 40) O dX8_place_11 (by decide +kernel) (by decide +kernel) (by decide +kernel) (by decide) ?_
  refine g_aload_n O dX8_place_40 0 rfl rfl ?_
  refine g_get O hiX8_place_X8 0 rfl rfl 1 (by decide) (by decide +kernel) rfl dX8_place_41 ?_
  refine g_getN O hiX8_place_X5 1 rfl rfl 0 (by decide) 9 rfl rfl dX8_place_44 ?_
  refine g_iload_n O dX8_place_47 1 rfl rfl ?_
  refine g_iload_n O dX8_place_48 2 rfl rfl ?_
  refine g_callS (As := [.int (nI x), .int (nI y)]) (wr := [(b0, .inr (8, [.ref w0, .ref h0, .ref c0, .ref f0, .ref m0, .ref t0, .ref y0, .ref n0, .int (bB hs)])), (h0, .inr (5, [.ref h1, .ref h2, .ref h3, .int (nI (sv_nc s)), .ref h4, .ref h5, .int (sv_la s), .int (sv_st s), .int (sv_sw s), .int (sv_fl s), .int (sv_sk s), .int (sv_mu s)])), (h1, .inl ((TY D)[0].1, 144, .inl (nf (sv_g s))))]) O (kX8_placeOf l D z x y ) gX8_place_X8_placeOf rfl rfl rfl 2 (by decide +kernel) (by decide) (by decide) [] [0, 1, 2] rfl (by decide) rfl (by decide) (by decide) rfl rfl (Nat.le_of_ble_eq_true rfl) dX8_place_49 (fun r_4 w_5 hp => ?_)
  obtain ⟨rfl, rfl⟩ := hp
  refine g_eq (st' := [.int (nI (y * 12 + x)), .ref h1]) (ws' := [(b0, .inr (8, [.ref w0, .ref h0, .ref c0, .ref f0, .ref m0, .ref t0, .ref y0, .ref n0, .int (bB hs)])), (h0, .inr (5, [.ref h1, .ref h2, .ref h3, .int (nI (sv_nc s)), .ref h4, .ref h5, .int (sv_la s), .int (sv_st s), .int (sv_sw s), .int (sv_fl s), .int (sv_sk s), .int (sv_mu s)])), (h1, .inl ((TY D)[0].1, 144, .inl (nf (sv_g s))))]) rfl rfl rfl ?_
  refine g_ialdN O 2 rfl (by omega) (by omega) dX8_place_52 ?_
  exact E 53 _ (nI ((sv_g s) (y * 12 + x))) _ dX8_place_53 ⟨rfl, rfl⟩

set_option maxHeartbeats 4000000 in
set_option maxRecDepth 100000 in
theorem kX8_place_1 (l : Launch) (D : va_G) (z : Nat × Nat × Nat) (b0 : Nat) (w0 : Nat) (c0 : Nat) (f0 : Nat) (m0 : Nat) (t0 : Nat) (n0 : Nat) (hs : Bool) (y0 : Nat) (w1 : Nat) (w2 : Nat) (w3 : Nat) (w4 : Nat) (h0 : Nat) (h1 : Nat) (h2 : Nat) (h3 : Nat) (h4 : Nat) (h5 : Nat) (s : SV) (x : Nat) (y : Nat) (hx : x < 12) (hy : y < 12) (hla : sv_la s = -1 ∨ ∃ w, w < 48 ∧ sv_la s = nI w) : CM l yX8_place wsX8_place ({ frames := 3, cells := 0, slots := 0, locals := 71 } : Room) D z [.ref b0, .int (nI x), .int (nI y), .int (nI 1)] [(b0, .inr (8, [.ref w0, .ref h0, .ref c0, .ref f0, .ref m0, .ref t0, .ref y0, .ref n0, .int (bB hs)])), (h0, .inr (5, [.ref h1, .ref h2, .ref h3, .int (nI (sv_nc s)), .ref h4, .ref h5, .int (sv_la s), .int (sv_st s), .int (sv_sw s), .int (sv_fl s), .int (sv_sk s), .int (sv_mu s)])), (w0, .inr (7, [.ref w1, .ref w2, .ref w3, .ref w4, .int (nI 48)])), (w1, .inl ((TY D)[0].1, 48, .inl (nf tM))), (w2, .inl ((TY D)[0].1, 48, .inl (nf tN))), (w3, .inl ((TY D)[0].1, 48, .inl (nf tS))), (w4, .inl ((TY D)[0].1, 84, .inl hT))] (fun r_ w_ => r_ = some (.int (laF (sv_la s) (fun w => SW w (12 * y + x)))) ∧ w_ = [(b0, .inr (8, [.ref w0, .ref h0, .ref c0, .ref f0, .ref m0, .ref t0, .ref y0, .ref n0, .int (bB hs)])), (h0, .inr (5, [.ref h1, .ref h2, .ref h3, .int (nI (sv_nc s)), .ref h4, .ref h5, .int (sv_la s), .int (sv_st s), .int (sv_sw s), .int (sv_fl s), .int (sv_sk s), .int (sv_mu s)])), (w0, .inr (7, [.ref w1, .ref w2, .ref w3, .ref w4, .int (nI 48)])), (w1, .inl ((TY D)[0].1, 48, .inl (nf tM))), (w2, .inl ((TY D)[0].1, 48, .inl (nf tN))), (w3, .inl ((TY D)[0].1, 48, .inl (nf tS))), (w4, .inl ((TY D)[0].1, 84, .inl hT))]) 0 0 := by
  refine CM_int (own := RX8) (cc := cX8_place) (maxL := 4) (L0 := [(0, .ref b0), (1, .int (nI x)), (2, .int (nI y)), (3, .int (nI 1))]) (by decide) rfl rfl (Nat.le_of_ble_eq_true rfl) rfl (fun X O E => ?_)
  refine g_iload_n O dX8_place_0 1 rfl rfl ?_
  refine g_iload_n O dX8_place_1 2 rfl rfl ?_
  refine g_callS (As := [.int (nI x), .int (nI y)]) (wr := [(b0, .inr (8, [.ref w0, .ref h0, .ref c0, .ref f0, .ref m0, .ref t0, .ref y0, .ref n0, .int (bB hs)])), (h0, .inr (5, [.ref h1, .ref h2, .ref h3, .int (nI (sv_nc s)), .ref h4, .ref h5, .int (sv_la s), .int (sv_st s), .int (sv_sw s), .int (sv_fl s), .int (sv_sk s), .int (sv_mu s)])), (w0, .inr (7, [.ref w1, .ref w2, .ref w3, .ref w4, .int (nI 48)])), (w1, .inl ((TY D)[0].1, 48, .inl (nf tM))), (w2, .inl ((TY D)[0].1, 48, .inl (nf tN))), (w3, .inl ((TY D)[0].1, 48, .inl (nf tS))), (w4, .inl ((TY D)[0].1, 84, .inl hT))]) O (kX8_isPlace l D z (nI x) (nI y) ) gX8_place_X8_isPlace rfl rfl rfl 2 (by decide +kernel) (by decide) (by decide) [] [0, 1, 2, 3, 4, 5, 6] rfl (by decide) rfl (by decide) (by decide) rfl rfl (Nat.le_of_ble_eq_true rfl) dX8_place_2 (fun r_1 w_2 hp => ?_)
  obtain ⟨rfl, rfl⟩ := hp
  refine g_eq (st' := [.int (bB (rgB (nI x) 12 && rgB (nI y) 12))]) (ws' := [(b0, .inr (8, [.ref w0, .ref h0, .ref c0, .ref f0, .ref m0, .ref t0, .ref y0, .ref n0, .int (bB hs)])), (h0, .inr (5, [.ref h1, .ref h2, .ref h3, .int (nI (sv_nc s)), .ref h4, .ref h5, .int (sv_la s), .int (sv_st s), .int (sv_sw s), .int (sv_fl s), .int (sv_sk s), .int (sv_mu s)])), (w0, .inr (7, [.ref w1, .ref w2, .ref w3, .ref w4, .int (nI 48)])), (w1, .inl ((TY D)[0].1, 48, .inl (nf tM))), (w2, .inl ((TY D)[0].1, 48, .inl (nf tN))), (w3, .inl ((TY D)[0].1, 48, .inl (nf tS))), (w4, .inl ((TY D)[0].1, 84, .inl hT))]) rfl rfl rfl ?_
  refine g_if_neB (tgt := 10) O dX8_place_5 (by decide) (fun c_3 => ?_) (fun c_3 => absurd c_3 (by rw [rgB_t hx (by decide), rgB_t hy (by decide)]; decide))
  refine g_iload_n O dX8_place_10 3 rfl rfl ?_
  refine g_tableIn (off := 43) (tgt := 54) O dX8_place_11 (by decide +kernel) (by decide +kernel) (by decide +kernel) (by decide) ?_
  refine g_aload_n O dX8_place_54 0 rfl rfl ?_
  refine g_get O hiX8_place_X8 0 rfl rfl 1 (by decide) (by decide +kernel) rfl dX8_place_55 ?_
  refine g_getN O hiX8_place_X5 1 rfl rfl 6 (by decide) 23 rfl rfl dX8_place_58 ?_
  rcases hla with hla | ⟨w, hw48, hla⟩
  ·
    refine g_eq (st' := [.int (-1)]) (by rw [hla]) rfl rfl ?_
    refine g_callS (As := [.int (-1)]) (wr := [(b0, .inr (8, [.ref w0, .ref h0, .ref c0, .ref f0, .ref m0, .ref t0, .ref y0, .ref n0, .int (bB hs)])), (h0, .inr (5, [.ref h1, .ref h2, .ref h3, .int (nI (sv_nc s)), .ref h4, .ref h5, .int (sv_la s), .int (sv_st s), .int (sv_sw s), .int (sv_fl s), .int (sv_sk s), .int (sv_mu s)])), (w0, .inr (7, [.ref w1, .ref w2, .ref w3, .ref w4, .int (nI 48)])), (w1, .inl ((TY D)[0].1, 48, .inl (nf tM))), (w2, .inl ((TY D)[0].1, 48, .inl (nf tN))), (w3, .inl ((TY D)[0].1, 48, .inl (nf tS))), (w4, .inl ((TY D)[0].1, 84, .inl hT))]) O (kX8_isWay l D z (-1) ) gX8_place_X8_isWay rfl rfl rfl 1 (by decide +kernel) (by decide) (by decide) [] [0, 1, 2, 3, 4, 5, 6] rfl (by decide) rfl (by decide) (by decide) rfl rfl (Nat.le_of_ble_eq_true rfl) dX8_place_61 (fun r_4 w_5 hp => ?_)
    obtain ⟨rfl, rfl⟩ := hp
    refine g_eq (st' := [.int (bB (rgB (-1) 48))]) (ws' := [(b0, .inr (8, [.ref w0, .ref h0, .ref c0, .ref f0, .ref m0, .ref t0, .ref y0, .ref n0, .int (bB hs)])), (h0, .inr (5, [.ref h1, .ref h2, .ref h3, .int (nI (sv_nc s)), .ref h4, .ref h5, .int (sv_la s), .int (sv_st s), .int (sv_sw s), .int (sv_fl s), .int (sv_sk s), .int (sv_mu s)])), (w0, .inr (7, [.ref w1, .ref w2, .ref w3, .ref w4, .int (nI 48)])), (w1, .inl ((TY D)[0].1, 48, .inl (nf tM))), (w2, .inl ((TY D)[0].1, 48, .inl (nf tN))), (w3, .inl ((TY D)[0].1, 48, .inl (nf tS))), (w4, .inl ((TY D)[0].1, 84, .inl hT))]) rfl rfl rfl ?_
    refine g_if_eqB (tgt := 86) O dX8_place_64 (by decide) (fun c_6 => ?_) (fun c_6 => absurd c_6 (by decide +kernel))
    refine g_bipush (x := (-5)) O dX8_place_86 (by decide +kernel) ?_
    exact E 88 _ (-5) _ dX8_place_88 (by rw [hla]; first | exact ⟨rfl, rfl⟩ | (rw [laF_n hw48]; exact ⟨rfl, rfl⟩))
  ·
    refine g_eq (st' := [.int (nI w)]) (by rw [hla]) rfl rfl ?_
    refine g_callS (As := [.int (nI w)]) (wr := [(b0, .inr (8, [.ref w0, .ref h0, .ref c0, .ref f0, .ref m0, .ref t0, .ref y0, .ref n0, .int (bB hs)])), (h0, .inr (5, [.ref h1, .ref h2, .ref h3, .int (nI (sv_nc s)), .ref h4, .ref h5, .int (sv_la s), .int (sv_st s), .int (sv_sw s), .int (sv_fl s), .int (sv_sk s), .int (sv_mu s)])), (w0, .inr (7, [.ref w1, .ref w2, .ref w3, .ref w4, .int (nI 48)])), (w1, .inl ((TY D)[0].1, 48, .inl (nf tM))), (w2, .inl ((TY D)[0].1, 48, .inl (nf tN))), (w3, .inl ((TY D)[0].1, 48, .inl (nf tS))), (w4, .inl ((TY D)[0].1, 84, .inl hT))]) O (kX8_isWay l D z (nI w) ) gX8_place_X8_isWay rfl rfl rfl 1 (by decide +kernel) (by decide) (by decide) [] [0, 1, 2, 3, 4, 5, 6] rfl (by decide) rfl (by decide) (by decide) rfl rfl (Nat.le_of_ble_eq_true rfl) dX8_place_61 (fun r_7 w_8 hp => ?_)
    obtain ⟨rfl, rfl⟩ := hp
    refine g_eq (st' := [.int (bB (rgB (nI w) 48))]) (ws' := [(b0, .inr (8, [.ref w0, .ref h0, .ref c0, .ref f0, .ref m0, .ref t0, .ref y0, .ref n0, .int (bB hs)])), (h0, .inr (5, [.ref h1, .ref h2, .ref h3, .int (nI (sv_nc s)), .ref h4, .ref h5, .int (sv_la s), .int (sv_st s), .int (sv_sw s), .int (sv_fl s), .int (sv_sk s), .int (sv_mu s)])), (w0, .inr (7, [.ref w1, .ref w2, .ref w3, .ref w4, .int (nI 48)])), (w1, .inl ((TY D)[0].1, 48, .inl (nf tM))), (w2, .inl ((TY D)[0].1, 48, .inl (nf tN))), (w3, .inl ((TY D)[0].1, 48, .inl (nf tS))), (w4, .inl ((TY D)[0].1, 84, .inl hT))]) rfl rfl rfl ?_
    refine g_if_eqB (tgt := 86) O dX8_place_64 (by decide) (fun c_9 => absurd c_9 (by rw [rgB_t hw48 (by decide)]; decide)) (fun c_9 => ?_)
    refine g_aload_n O dX8_place_67 0 rfl rfl ?_
    refine g_get O hiX8_place_X8 0 rfl rfl 0 (by decide) (by decide +kernel) rfl dX8_place_68 ?_
    refine g_aload_n O dX8_place_71 0 rfl rfl ?_
    refine g_get O hiX8_place_X8 0 rfl rfl 1 (by decide) (by decide +kernel) rfl dX8_place_72 ?_
    refine g_getN O hiX8_place_X5 1 rfl rfl 6 (by decide) 23 rfl rfl dX8_place_75 ?_
    refine g_eq (st' := [.int (nI w), .ref w0]) (by rw [hla]) rfl rfl ?_
    refine g_iload_n O dX8_place_78 1 rfl rfl ?_
    refine g_iload_n O dX8_place_79 2 rfl rfl ?_
    refine g_callV (As := [.int (nI w), .int (nI x), .int (nI y)]) (wr := [(b0, .inr (8, [.ref w0, .ref h0, .ref c0, .ref f0, .ref m0, .ref t0, .ref y0, .ref n0, .int (bB hs)])), (h0, .inr (5, [.ref h1, .ref h2, .ref h3, .int (nI (sv_nc s)), .ref h4, .ref h5, .int (sv_la s), .int (sv_st s), .int (sv_sw s), .int (sv_fl s), .int (sv_sk s), .int (sv_mu s)]))]) O (kX7_swingAt l D z w0 w1 w2 w3 w4 w x y (by first | assumption | omega) (by first | assumption | omega) (by first | assumption | omega)) gX8_place_X7_swingAt rfl rfl rfl 3 (by decide +kernel) (by decide) (by decide) (q0 := 0) rfl rfl rfl [2, 3, 4, 5, 6] [0, 1] rfl (by decide) rfl (by decide) (by decide) rfl rfl (Nat.le_of_ble_eq_true rfl) dX8_place_80 (fun r_10 w_11 hp => ?_)
    obtain ⟨rfl, rfl⟩ := hp
    refine g_eq (st' := [.int (SW w (12 * y + x))]) (ws' := [(b0, .inr (8, [.ref w0, .ref h0, .ref c0, .ref f0, .ref m0, .ref t0, .ref y0, .ref n0, .int (bB hs)])), (h0, .inr (5, [.ref h1, .ref h2, .ref h3, .int (nI (sv_nc s)), .ref h4, .ref h5, .int (sv_la s), .int (sv_st s), .int (sv_sw s), .int (sv_fl s), .int (sv_sk s), .int (sv_mu s)])), (w0, .inr (7, [.ref w1, .ref w2, .ref w3, .ref w4, .int (nI 48)])), (w1, .inl ((TY D)[0].1, 48, .inl (nf tM))), (w2, .inl ((TY D)[0].1, 48, .inl (nf tN))), (w3, .inl ((TY D)[0].1, 48, .inl (nf tS))), (w4, .inl ((TY D)[0].1, 84, .inl hT))]) rfl rfl rfl ?_
    refine g_goto (tgt := 88) O dX8_place_83 (by decide) ?_
    exact E 88 _ (SW w (12 * y + x)) _ dX8_place_88 (by rw [hla]; first | exact ⟨rfl, rfl⟩ | (rw [laF_n hw48]; exact ⟨rfl, rfl⟩))

set_option maxHeartbeats 4000000 in
set_option maxRecDepth 100000 in
theorem kX8_place_2 (l : Launch) (D : va_G) (z : Nat × Nat × Nat) (b0 : Nat) (w0 : Nat) (c0 : Nat) (f0 : Nat) (m0 : Nat) (t0 : Nat) (n0 : Nat) (hs : Bool) (y0 : Nat) (f1 : Nat) (f2 : Nat) (rc : Nat) (w1 : Nat) (w2 : Nat) (w3 : Nat) (w4 : Nat) (h0 : Nat) (h1 : Nat) (h2 : Nat) (h3 : Nat) (h4 : Nat) (h5 : Nat) (s : SV) (x : Nat) (y : Nat) (hx : x < 12) (hy : y < 12) (hla : sv_la s = -1 ∨ ∃ w, w < 48 ∧ sv_la s = nI w) : CM l yX8_place wsX8_place ({ frames := 3, cells := 0, slots := 0, locals := 71 } : Room) D z [.ref b0, .int (nI x), .int (nI y), .int (nI 2)] [(b0, .inr (8, [.ref w0, .ref h0, .ref c0, .ref f0, .ref m0, .ref t0, .ref y0, .ref n0, .int (bB hs)])), (f0, .inr (1, [.ref w0, .ref h0, .ref f1, .ref f2, .int (nI rc)])), (w0, .inr (7, [.ref w1, .ref w2, .ref w3, .ref w4, .int (nI 48)])), (w1, .inl ((TY D)[0].1, 48, .inl (nf tM))), (w2, .inl ((TY D)[0].1, 48, .inl (nf tN))), (w3, .inl ((TY D)[0].1, 48, .inl (nf tS))), (w4, .inl ((TY D)[0].1, 84, .inl hT)), (h0, .inr (5, [.ref h1, .ref h2, .ref h3, .int (nI (sv_nc s)), .ref h4, .ref h5, .int (sv_la s), .int (sv_st s), .int (sv_sw s), .int (sv_fl s), .int (sv_sk s), .int (sv_mu s)])), (h4, .inl ((TY D)[0].1, 4, .inl (sv_se s)))] (fun r_ w_ => r_ = some (.int (laF (sv_la s) (fun w => bB (stB s w (12 * y + x))))) ∧ w_ = [(b0, .inr (8, [.ref w0, .ref h0, .ref c0, .ref f0, .ref m0, .ref t0, .ref y0, .ref n0, .int (bB hs)])), (f0, .inr (1, [.ref w0, .ref h0, .ref f1, .ref f2, .int (nI rc)])), (w0, .inr (7, [.ref w1, .ref w2, .ref w3, .ref w4, .int (nI 48)])), (w1, .inl ((TY D)[0].1, 48, .inl (nf tM))), (w2, .inl ((TY D)[0].1, 48, .inl (nf tN))), (w3, .inl ((TY D)[0].1, 48, .inl (nf tS))), (w4, .inl ((TY D)[0].1, 84, .inl hT)), (h0, .inr (5, [.ref h1, .ref h2, .ref h3, .int (nI (sv_nc s)), .ref h4, .ref h5, .int (sv_la s), .int (sv_st s), .int (sv_sw s), .int (sv_fl s), .int (sv_sk s), .int (sv_mu s)])), (h4, .inl ((TY D)[0].1, 4, .inl (sv_se s)))]) 0 0 := by
  refine CM_int (own := RX8) (cc := cX8_place) (maxL := 4) (L0 := [(0, .ref b0), (1, .int (nI x)), (2, .int (nI y)), (3, .int (nI 2))]) (by decide) rfl rfl (Nat.le_of_ble_eq_true rfl) rfl (fun X O E => ?_)
  refine g_iload_n O dX8_place_0 1 rfl rfl ?_
  refine g_iload_n O dX8_place_1 2 rfl rfl ?_
  refine g_callS (As := [.int (nI x), .int (nI y)]) (wr := [(b0, .inr (8, [.ref w0, .ref h0, .ref c0, .ref f0, .ref m0, .ref t0, .ref y0, .ref n0, .int (bB hs)])), (f0, .inr (1, [.ref w0, .ref h0, .ref f1, .ref f2, .int (nI rc)])), (w0, .inr (7, [.ref w1, .ref w2, .ref w3, .ref w4, .int (nI 48)])), (w1, .inl ((TY D)[0].1, 48, .inl (nf tM))), (w2, .inl ((TY D)[0].1, 48, .inl (nf tN))), (w3, .inl ((TY D)[0].1, 48, .inl (nf tS))), (w4, .inl ((TY D)[0].1, 84, .inl hT)), (h0, .inr (5, [.ref h1, .ref h2, .ref h3, .int (nI (sv_nc s)), .ref h4, .ref h5, .int (sv_la s), .int (sv_st s), .int (sv_sw s), .int (sv_fl s), .int (sv_sk s), .int (sv_mu s)])), (h4, .inl ((TY D)[0].1, 4, .inl (sv_se s)))]) O (kX8_isPlace l D z (nI x) (nI y) ) gX8_place_X8_isPlace rfl rfl rfl 2 (by decide +kernel) (by decide) (by decide) [] [0, 1, 2, 3, 4, 5, 6, 7, 8] rfl (by decide) rfl (by decide) (by decide) rfl rfl (Nat.le_of_ble_eq_true rfl) dX8_place_2 (fun r_1 w_2 hp => ?_)
  obtain ⟨rfl, rfl⟩ := hp
  refine g_eq (st' := [.int (bB (rgB (nI x) 12 && rgB (nI y) 12))]) (ws' := [(b0, .inr (8, [.ref w0, .ref h0, .ref c0, .ref f0, .ref m0, .ref t0, .ref y0, .ref n0, .int (bB hs)])), (f0, .inr (1, [.ref w0, .ref h0, .ref f1, .ref f2, .int (nI rc)])), (w0, .inr (7, [.ref w1, .ref w2, .ref w3, .ref w4, .int (nI 48)])), (w1, .inl ((TY D)[0].1, 48, .inl (nf tM))), (w2, .inl ((TY D)[0].1, 48, .inl (nf tN))), (w3, .inl ((TY D)[0].1, 48, .inl (nf tS))), (w4, .inl ((TY D)[0].1, 84, .inl hT)), (h0, .inr (5, [.ref h1, .ref h2, .ref h3, .int (nI (sv_nc s)), .ref h4, .ref h5, .int (sv_la s), .int (sv_st s), .int (sv_sw s), .int (sv_fl s), .int (sv_sk s), .int (sv_mu s)])), (h4, .inl ((TY D)[0].1, 4, .inl (sv_se s)))]) rfl rfl rfl ?_
  refine g_if_neB (tgt := 10) O dX8_place_5 (by decide) (fun c_3 => ?_) (fun c_3 => absurd c_3 (by rw [rgB_t hx (by decide), rgB_t hy (by decide)]; decide))
  refine g_iload_n O dX8_place_10 3 rfl rfl ?_
  refine g_tableIn (off := 78) (tgt := 89) O dX8_place_11 (by decide +kernel) (by decide +kernel) (by decide +kernel) (by decide) ?_
  refine g_aload_n O dX8_place_89 0 rfl rfl ?_
  refine g_get O hiX8_place_X8 0 rfl rfl 1 (by decide) (by decide +kernel) rfl dX8_place_90 ?_
  refine g_getN O hiX8_place_X5 7 rfl rfl 6 (by decide) 23 rfl rfl dX8_place_93 ?_
  rcases hla with hla | ⟨w, hw48, hla⟩
  ·
    refine g_eq (st' := [.int (-1)]) (by rw [hla]) rfl rfl ?_
    refine g_callS (As := [.int (-1)]) (wr := [(b0, .inr (8, [.ref w0, .ref h0, .ref c0, .ref f0, .ref m0, .ref t0, .ref y0, .ref n0, .int (bB hs)])), (f0, .inr (1, [.ref w0, .ref h0, .ref f1, .ref f2, .int (nI rc)])), (w0, .inr (7, [.ref w1, .ref w2, .ref w3, .ref w4, .int (nI 48)])), (w1, .inl ((TY D)[0].1, 48, .inl (nf tM))), (w2, .inl ((TY D)[0].1, 48, .inl (nf tN))), (w3, .inl ((TY D)[0].1, 48, .inl (nf tS))), (w4, .inl ((TY D)[0].1, 84, .inl hT)), (h0, .inr (5, [.ref h1, .ref h2, .ref h3, .int (nI (sv_nc s)), .ref h4, .ref h5, .int (sv_la s), .int (sv_st s), .int (sv_sw s), .int (sv_fl s), .int (sv_sk s), .int (sv_mu s)])), (h4, .inl ((TY D)[0].1, 4, .inl (sv_se s)))]) O (kX8_isWay l D z (-1) ) gX8_place_X8_isWay rfl rfl rfl 1 (by decide +kernel) (by decide) (by decide) [] [0, 1, 2, 3, 4, 5, 6, 7, 8] rfl (by decide) rfl (by decide) (by decide) rfl rfl (Nat.le_of_ble_eq_true rfl) dX8_place_96 (fun r_4 w_5 hp => ?_)
    obtain ⟨rfl, rfl⟩ := hp
    refine g_eq (st' := [.int (bB (rgB (-1) 48))]) (ws' := [(b0, .inr (8, [.ref w0, .ref h0, .ref c0, .ref f0, .ref m0, .ref t0, .ref y0, .ref n0, .int (bB hs)])), (f0, .inr (1, [.ref w0, .ref h0, .ref f1, .ref f2, .int (nI rc)])), (w0, .inr (7, [.ref w1, .ref w2, .ref w3, .ref w4, .int (nI 48)])), (w1, .inl ((TY D)[0].1, 48, .inl (nf tM))), (w2, .inl ((TY D)[0].1, 48, .inl (nf tN))), (w3, .inl ((TY D)[0].1, 48, .inl (nf tS))), (w4, .inl ((TY D)[0].1, 84, .inl hT)), (h0, .inr (5, [.ref h1, .ref h2, .ref h3, .int (nI (sv_nc s)), .ref h4, .ref h5, .int (sv_la s), .int (sv_st s), .int (sv_sw s), .int (sv_fl s), .int (sv_sk s), .int (sv_mu s)])), (h4, .inl ((TY D)[0].1, 4, .inl (sv_se s)))]) rfl rfl rfl ?_
    refine g_if_eqB (tgt := 124) O dX8_place_99 (by decide) (fun c_6 => ?_) (fun c_6 => absurd c_6 (by decide +kernel))
    refine g_bipush (x := (-5)) O dX8_place_124 (by decide +kernel) ?_
    exact E 126 _ (-5) _ dX8_place_126 (by rw [hla]; first | exact ⟨rfl, rfl⟩ | (rw [laF_n hw48]; exact ⟨rfl, rfl⟩))
  ·
    refine g_eq (st' := [.int (nI w)]) (by rw [hla]) rfl rfl ?_
    refine g_callS (As := [.int (nI w)]) (wr := [(b0, .inr (8, [.ref w0, .ref h0, .ref c0, .ref f0, .ref m0, .ref t0, .ref y0, .ref n0, .int (bB hs)])), (f0, .inr (1, [.ref w0, .ref h0, .ref f1, .ref f2, .int (nI rc)])), (w0, .inr (7, [.ref w1, .ref w2, .ref w3, .ref w4, .int (nI 48)])), (w1, .inl ((TY D)[0].1, 48, .inl (nf tM))), (w2, .inl ((TY D)[0].1, 48, .inl (nf tN))), (w3, .inl ((TY D)[0].1, 48, .inl (nf tS))), (w4, .inl ((TY D)[0].1, 84, .inl hT)), (h0, .inr (5, [.ref h1, .ref h2, .ref h3, .int (nI (sv_nc s)), .ref h4, .ref h5, .int (sv_la s), .int (sv_st s), .int (sv_sw s), .int (sv_fl s), .int (sv_sk s), .int (sv_mu s)])), (h4, .inl ((TY D)[0].1, 4, .inl (sv_se s)))]) O (kX8_isWay l D z (nI w) ) gX8_place_X8_isWay rfl rfl rfl 1 (by decide +kernel) (by decide) (by decide) [] [0, 1, 2, 3, 4, 5, 6, 7, 8] rfl (by decide) rfl (by decide) (by decide) rfl rfl (Nat.le_of_ble_eq_true rfl) dX8_place_96 (fun r_7 w_8 hp => ?_)
    obtain ⟨rfl, rfl⟩ := hp
    refine g_eq (st' := [.int (bB (rgB (nI w) 48))]) (ws' := [(b0, .inr (8, [.ref w0, .ref h0, .ref c0, .ref f0, .ref m0, .ref t0, .ref y0, .ref n0, .int (bB hs)])), (f0, .inr (1, [.ref w0, .ref h0, .ref f1, .ref f2, .int (nI rc)])), (w0, .inr (7, [.ref w1, .ref w2, .ref w3, .ref w4, .int (nI 48)])), (w1, .inl ((TY D)[0].1, 48, .inl (nf tM))), (w2, .inl ((TY D)[0].1, 48, .inl (nf tN))), (w3, .inl ((TY D)[0].1, 48, .inl (nf tS))), (w4, .inl ((TY D)[0].1, 84, .inl hT)), (h0, .inr (5, [.ref h1, .ref h2, .ref h3, .int (nI (sv_nc s)), .ref h4, .ref h5, .int (sv_la s), .int (sv_st s), .int (sv_sw s), .int (sv_fl s), .int (sv_sk s), .int (sv_mu s)])), (h4, .inl ((TY D)[0].1, 4, .inl (sv_se s)))]) rfl rfl rfl ?_
    refine g_if_eqB (tgt := 124) O dX8_place_99 (by decide) (fun c_9 => absurd c_9 (by rw [rgB_t hw48 (by decide)]; decide)) (fun c_9 => ?_)
    refine g_aload_n O dX8_place_102 0 rfl rfl ?_
    refine g_get O hiX8_place_X8 0 rfl rfl 3 (by decide) (by decide +kernel) rfl dX8_place_103 ?_
    refine g_aload_n O dX8_place_106 0 rfl rfl ?_
    refine g_get O hiX8_place_X8 0 rfl rfl 1 (by decide) (by decide +kernel) rfl dX8_place_107 ?_
    refine g_getN O hiX8_place_X5 7 rfl rfl 6 (by decide) 23 rfl rfl dX8_place_110 ?_
    refine g_eq (st' := [.int (nI w), .ref f0]) (by rw [hla]) rfl rfl ?_
    refine g_iload_n O dX8_place_113 1 rfl rfl ?_
    refine g_iload_n O dX8_place_114 2 rfl rfl ?_
    refine g_callV (As := [.int (nI w), .int (nI x), .int (nI y)]) (wr := [(b0, .inr (8, [.ref w0, .ref h0, .ref c0, .ref f0, .ref m0, .ref t0, .ref y0, .ref n0, .int (bB hs)]))]) O (kX1_isStill l D z f0 f1 f2 rc w0 w1 w2 w3 w4 h0 h1 h2 h3 h4 h5 s w x y (by first | assumption | omega) (by first | assumption | omega) (by first | assumption | omega)) gX8_place_X1_isStill rfl rfl rfl 3 (by decide +kernel) (by decide) (by decide) (q0 := 0) rfl rfl rfl [1, 2, 3, 4, 5, 6, 7, 8] [0] rfl (by decide) rfl (by decide) (by decide) rfl rfl (Nat.le_of_ble_eq_true rfl) dX8_place_115 (fun r_10 w_11 hp => ?_)
    obtain ⟨rfl, rfl⟩ := hp
    refine g_eq (st' := [.int (bB (stB s w (12 * y + x)))]) (ws' := [(b0, .inr (8, [.ref w0, .ref h0, .ref c0, .ref f0, .ref m0, .ref t0, .ref y0, .ref n0, .int (bB hs)])), (f0, .inr (1, [.ref w0, .ref h0, .ref f1, .ref f2, .int (nI rc)])), (w0, .inr (7, [.ref w1, .ref w2, .ref w3, .ref w4, .int (nI 48)])), (w1, .inl ((TY D)[0].1, 48, .inl (nf tM))), (w2, .inl ((TY D)[0].1, 48, .inl (nf tN))), (w3, .inl ((TY D)[0].1, 48, .inl (nf tS))), (w4, .inl ((TY D)[0].1, 84, .inl hT)), (h0, .inr (5, [.ref h1, .ref h2, .ref h3, .int (nI (sv_nc s)), .ref h4, .ref h5, .int (sv_la s), .int (sv_st s), .int (sv_sw s), .int (sv_fl s), .int (sv_sk s), .int (sv_mu s)])), (h4, .inl ((TY D)[0].1, 4, .inl (sv_se s)))]) rfl rfl rfl ?_
    refine g_callS (As := [.int (bB (stB s w (12 * y + x)))]) (wr := [(b0, .inr (8, [.ref w0, .ref h0, .ref c0, .ref f0, .ref m0, .ref t0, .ref y0, .ref n0, .int (bB hs)])), (f0, .inr (1, [.ref w0, .ref h0, .ref f1, .ref f2, .int (nI rc)])), (w0, .inr (7, [.ref w1, .ref w2, .ref w3, .ref w4, .int (nI 48)])), (w1, .inl ((TY D)[0].1, 48, .inl (nf tM))), (w2, .inl ((TY D)[0].1, 48, .inl (nf tN))), (w3, .inl ((TY D)[0].1, 48, .inl (nf tS))), (w4, .inl ((TY D)[0].1, 84, .inl hT)), (h0, .inr (5, [.ref h1, .ref h2, .ref h3, .int (nI (sv_nc s)), .ref h4, .ref h5, .int (sv_la s), .int (sv_st s), .int (sv_sw s), .int (sv_fl s), .int (sv_sk s), .int (sv_mu s)])), (h4, .inl ((TY D)[0].1, 4, .inl (sv_se s)))]) O (kX8_asNumber l D z (stB s w (12 * y + x)) ) gX8_place_X8_asNumber rfl rfl rfl 1 (by decide +kernel) (by decide) (by decide) [] [0, 1, 2, 3, 4, 5, 6, 7, 8] rfl (by decide) rfl (by decide) (by decide) rfl rfl (Nat.le_of_ble_eq_true rfl) dX8_place_118 (fun r_12 w_13 hp => ?_)
    obtain ⟨rfl, rfl⟩ := hp
    refine g_eq (st' := [.int (bB (stB s w (12 * y + x)))]) (ws' := [(b0, .inr (8, [.ref w0, .ref h0, .ref c0, .ref f0, .ref m0, .ref t0, .ref y0, .ref n0, .int (bB hs)])), (f0, .inr (1, [.ref w0, .ref h0, .ref f1, .ref f2, .int (nI rc)])), (w0, .inr (7, [.ref w1, .ref w2, .ref w3, .ref w4, .int (nI 48)])), (w1, .inl ((TY D)[0].1, 48, .inl (nf tM))), (w2, .inl ((TY D)[0].1, 48, .inl (nf tN))), (w3, .inl ((TY D)[0].1, 48, .inl (nf tS))), (w4, .inl ((TY D)[0].1, 84, .inl hT)), (h0, .inr (5, [.ref h1, .ref h2, .ref h3, .int (nI (sv_nc s)), .ref h4, .ref h5, .int (sv_la s), .int (sv_st s), .int (sv_sw s), .int (sv_fl s), .int (sv_sk s), .int (sv_mu s)])), (h4, .inl ((TY D)[0].1, 4, .inl (sv_se s)))]) rfl rfl rfl ?_
    refine g_goto (tgt := 126) O dX8_place_121 (by decide) ?_
    exact E 126 _ (bB (stB s w (12 * y + x))) _ dX8_place_126 (by rw [hla]; first | exact ⟨rfl, rfl⟩ | (rw [laF_n hw48]; exact ⟨rfl, rfl⟩))

set_option maxHeartbeats 4000000 in
set_option maxRecDepth 100000 in
theorem kX8_place_3 (l : Launch) (D : va_G) (z : Nat × Nat × Nat) (b0 : Nat) (w0 : Nat) (c0 : Nat) (f0 : Nat) (m0 : Nat) (t0 : Nat) (n0 : Nat) (hs : Bool) (y0 : Nat) (h0 : Nat) (h1 : Nat) (h2 : Nat) (h3 : Nat) (h4 : Nat) (h5 : Nat) (s : SV) (x : Nat) (y : Nat) (hx : x < 12) (hy : y < 12) (hnc : sv_nc s ≤ 4) (hcc : ∀ j, j < sv_nc s → sv_cc s j < 12 ∧ sv_cr s j < 12) : CM l yX8_place wsX8_place ({ frames := 3, cells := 0, slots := 0, locals := 71 } : Room) D z [.ref b0, .int (nI x), .int (nI y), .int (nI 3)] [(b0, .inr (8, [.ref w0, .ref h0, .ref c0, .ref f0, .ref m0, .ref t0, .ref y0, .ref n0, .int (bB hs)])), (h0, .inr (5, [.ref h1, .ref h2, .ref h3, .int (nI (sv_nc s)), .ref h4, .ref h5, .int (sv_la s), .int (sv_st s), .int (sv_sw s), .int (sv_fl s), .int (sv_sk s), .int (sv_mu s)])), (h2, .inl ((TY D)[0].1, 4, .inl (nf (sv_cc s)))), (h3, .inl ((TY D)[0].1, 4, .inl (nf (sv_cr s))))] (fun r_ w_ => r_ = some (.int (laM (orM (fdB (fun j => sv_cc s j == x && sv_cr s j == y) (sv_nc s))))) ∧ w_ = [(b0, .inr (8, [.ref w0, .ref h0, .ref c0, .ref f0, .ref m0, .ref t0, .ref y0, .ref n0, .int (bB hs)])), (h0, .inr (5, [.ref h1, .ref h2, .ref h3, .int (nI (sv_nc s)), .ref h4, .ref h5, .int (sv_la s), .int (sv_st s), .int (sv_sw s), .int (sv_fl s), .int (sv_sk s), .int (sv_mu s)])), (h2, .inl ((TY D)[0].1, 4, .inl (nf (sv_cc s)))), (h3, .inl ((TY D)[0].1, 4, .inl (nf (sv_cr s))))]) 0 0 := by
  refine CM_int (own := RX8) (cc := cX8_place) (maxL := 4) (L0 := [(0, .ref b0), (1, .int (nI x)), (2, .int (nI y)), (3, .int (nI 3))]) (by decide) rfl rfl (Nat.le_of_ble_eq_true rfl) rfl (fun X O E => ?_)
  refine g_iload_n O dX8_place_0 1 rfl rfl ?_
  refine g_iload_n O dX8_place_1 2 rfl rfl ?_
  refine g_callS (As := [.int (nI x), .int (nI y)]) (wr := [(b0, .inr (8, [.ref w0, .ref h0, .ref c0, .ref f0, .ref m0, .ref t0, .ref y0, .ref n0, .int (bB hs)])), (h0, .inr (5, [.ref h1, .ref h2, .ref h3, .int (nI (sv_nc s)), .ref h4, .ref h5, .int (sv_la s), .int (sv_st s), .int (sv_sw s), .int (sv_fl s), .int (sv_sk s), .int (sv_mu s)])), (h2, .inl ((TY D)[0].1, 4, .inl (nf (sv_cc s)))), (h3, .inl ((TY D)[0].1, 4, .inl (nf (sv_cr s))))]) O (kX8_isPlace l D z (nI x) (nI y) ) gX8_place_X8_isPlace rfl rfl rfl 2 (by decide +kernel) (by decide) (by decide) [] [0, 1, 2, 3] rfl (by decide) rfl (by decide) (by decide) rfl rfl (Nat.le_of_ble_eq_true rfl) dX8_place_2 (fun r_1 w_2 hp => ?_)
  obtain ⟨rfl, rfl⟩ := hp
  refine g_eq (st' := [.int (bB (rgB (nI x) 12 && rgB (nI y) 12))]) (ws' := [(b0, .inr (8, [.ref w0, .ref h0, .ref c0, .ref f0, .ref m0, .ref t0, .ref y0, .ref n0, .int (bB hs)])), (h0, .inr (5, [.ref h1, .ref h2, .ref h3, .int (nI (sv_nc s)), .ref h4, .ref h5, .int (sv_la s), .int (sv_st s), .int (sv_sw s), .int (sv_fl s), .int (sv_sk s), .int (sv_mu s)])), (h2, .inl ((TY D)[0].1, 4, .inl (nf (sv_cc s)))), (h3, .inl ((TY D)[0].1, 4, .inl (nf (sv_cr s))))]) rfl rfl rfl ?_
  refine g_if_neB (tgt := 10) O dX8_place_5 (by decide) (fun c_3 => ?_) (fun c_3 => absurd c_3 (by rw [rgB_t hx (by decide), rgB_t hy (by decide)]; decide))
  refine g_iload_n O dX8_place_10 3 rfl rfl ?_
  refine g_tableIn (off := 116) (tgt := 127) O dX8_place_11 (by decide +kernel) (by decide +kernel) (by decide +kernel) (by decide) ?_
  refine g_aload_n O dX8_place_127 0 rfl rfl ?_
  refine g_get O hiX8_place_X8 0 rfl rfl 1 (by decide) (by decide +kernel) rfl dX8_place_128 ?_
  refine g_iload_n O dX8_place_131 1 rfl rfl ?_
  refine g_iload_n O dX8_place_132 2 rfl rfl ?_
  refine g_callV (As := [.int (nI x), .int (nI y)]) (wr := [(b0, .inr (8, [.ref w0, .ref h0, .ref c0, .ref f0, .ref m0, .ref t0, .ref y0, .ref n0, .int (bB hs)]))]) O (kX5_clampOn l D z h0 h1 h2 h3 h4 h5 (sv_nc s) (sv_la s) (sv_st s) (sv_sw s) (sv_fl s) (sv_sk s) (sv_mu s) (sv_cc s) (sv_cr s) x y (by first | assumption | omega) (by first | assumption | omega) (by first | assumption | omega) (by first | assumption | omega)) gX8_place_X5_clampOn rfl rfl rfl 2 (by decide +kernel) (by decide) (by decide) (q0 := 0) rfl rfl rfl [1, 2, 3] [0] rfl (by decide) rfl (by decide) (by decide) rfl rfl (Nat.le_of_ble_eq_true rfl) dX8_place_133 (fun r_4 w_5 hp => ?_)
  obtain ⟨rfl, rfl⟩ := hp
  refine g_eq (st' := [.int (orM (fdB (fun j => (sv_cc s) j == x && (sv_cr s) j == y) (sv_nc s)))]) (ws' := [(b0, .inr (8, [.ref w0, .ref h0, .ref c0, .ref f0, .ref m0, .ref t0, .ref y0, .ref n0, .int (bB hs)])), (h0, .inr (5, [.ref h1, .ref h2, .ref h3, .int (nI (sv_nc s)), .ref h4, .ref h5, .int (sv_la s), .int (sv_st s), .int (sv_sw s), .int (sv_fl s), .int (sv_sk s), .int (sv_mu s)])), (h2, .inl ((TY D)[0].1, 4, .inl (nf (sv_cc s)))), (h3, .inl ((TY D)[0].1, 4, .inl (nf (sv_cr s))))]) rfl rfl rfl ?_
  refine g_callS (As := [.int (orM (fdB (fun j => (sv_cc s) j == x && (sv_cr s) j == y) (sv_nc s)))]) (wr := [(b0, .inr (8, [.ref w0, .ref h0, .ref c0, .ref f0, .ref m0, .ref t0, .ref y0, .ref n0, .int (bB hs)])), (h0, .inr (5, [.ref h1, .ref h2, .ref h3, .int (nI (sv_nc s)), .ref h4, .ref h5, .int (sv_la s), .int (sv_st s), .int (sv_sw s), .int (sv_fl s), .int (sv_sk s), .int (sv_mu s)])), (h2, .inl ((TY D)[0].1, 4, .inl (nf (sv_cc s)))), (h3, .inl ((TY D)[0].1, 4, .inl (nf (sv_cr s))))]) O (kX8_orNone l D z (orM (fdB (fun j => (sv_cc s) j == x && (sv_cr s) j == y) (sv_nc s))) ) gX8_place_X8_orNone rfl rfl rfl 1 (by decide +kernel) (by decide) (by decide) [] [0, 1, 2, 3] rfl (by decide) rfl (by decide) (by decide) rfl rfl (Nat.le_of_ble_eq_true rfl) dX8_place_136 (fun r_6 w_7 hp => ?_)
  obtain ⟨rfl, rfl⟩ := hp
  refine g_eq (st' := [.int (laM (orM (fdB (fun j => (sv_cc s) j == x && (sv_cr s) j == y) (sv_nc s))))]) (ws' := [(b0, .inr (8, [.ref w0, .ref h0, .ref c0, .ref f0, .ref m0, .ref t0, .ref y0, .ref n0, .int (bB hs)])), (h0, .inr (5, [.ref h1, .ref h2, .ref h3, .int (nI (sv_nc s)), .ref h4, .ref h5, .int (sv_la s), .int (sv_st s), .int (sv_sw s), .int (sv_fl s), .int (sv_sk s), .int (sv_mu s)])), (h2, .inl ((TY D)[0].1, 4, .inl (nf (sv_cc s)))), (h3, .inl ((TY D)[0].1, 4, .inl (nf (sv_cr s))))]) rfl rfl rfl ?_
  exact E 139 _ (laM (orM (fdB (fun j => (sv_cc s) j == x && (sv_cr s) j == y) (sv_nc s)))) _ dX8_place_139 ⟨rfl, rfl⟩

set_option maxHeartbeats 4000000 in
set_option maxRecDepth 100000 in
theorem kX8_way_b1 (l : Launch) (D : va_G) (z : Nat × Nat × Nat) (b0 : Nat) (w0 : Nat) (c0 : Nat) (f0 : Nat) (m0 : Nat) (t0 : Nat) (n0 : Nat) (hs : Bool) (y0 : Nat) (h0 : Nat) (w : Int32) (k : Int32) (hb : rgB w 48 = false) : CM l yX8_way wsX8_way ({ frames := 4, cells := 0, slots := 0, locals := 94 } : Room) D z [.ref b0, .int w, .int k] [(b0, .inr (8, [.ref w0, .ref h0, .ref c0, .ref f0, .ref m0, .ref t0, .ref y0, .ref n0, .int (bB hs)]))] (fun r_ w_ => r_ = some (.int (-1)) ∧ w_ = [(b0, .inr (8, [.ref w0, .ref h0, .ref c0, .ref f0, .ref m0, .ref t0, .ref y0, .ref n0, .int (bB hs)]))]) 0 0 := by
  refine CM_int (own := RX8) (cc := cX8_way) (maxL := 3) (L0 := [(0, .ref b0), (1, .int w), (2, .int k)]) (by decide) rfl rfl (Nat.le_of_ble_eq_true rfl) rfl (fun X O E => ?_)
  refine g_iload_n O dX8_way_0 1 rfl rfl ?_
  refine g_callS (As := [.int w]) (wr := [(b0, .inr (8, [.ref w0, .ref h0, .ref c0, .ref f0, .ref m0, .ref t0, .ref y0, .ref n0, .int (bB hs)]))]) O (kX8_isWay l D z w ) gX8_way_X8_isWay rfl rfl rfl 1 (by decide +kernel) (by decide) (by decide) [] [0] rfl (by decide) rfl (by decide) (by decide) rfl rfl (Nat.le_of_ble_eq_true rfl) dX8_way_1 (fun r_1 w_2 hp => ?_)
  obtain ⟨rfl, rfl⟩ := hp
  refine g_eq (st' := [.int (bB (rgB w 48))]) (ws' := [(b0, .inr (8, [.ref w0, .ref h0, .ref c0, .ref f0, .ref m0, .ref t0, .ref y0, .ref n0, .int (bB hs)]))]) rfl rfl rfl ?_
  refine g_if_neB (tgt := 9) O dX8_way_4 (by decide) (fun c_3 => absurd c_3 (by rw [hb]; decide)) (fun c_3 => ?_)
  refine g_iconst (x := (-1)) O dX8_way_7 (by decide +kernel) ?_
  exact E 8 _ (-1) _ dX8_way_8 ⟨rfl, rfl⟩

set_option maxHeartbeats 4000000 in
set_option maxRecDepth 100000 in
theorem kX8_way_b2 (l : Launch) (D : va_G) (z : Nat × Nat × Nat) (b0 : Nat) (w0 : Nat) (c0 : Nat) (f0 : Nat) (m0 : Nat) (t0 : Nat) (n0 : Nat) (hs : Bool) (y0 : Nat) (h0 : Nat) (w : Nat) (k : Int32) (hw : w < 48) (hsw : k < 0 ∨ nI 8 ≤ k) : CM l yX8_way wsX8_way ({ frames := 4, cells := 0, slots := 0, locals := 94 } : Room) D z [.ref b0, .int (nI w), .int k] [(b0, .inr (8, [.ref w0, .ref h0, .ref c0, .ref f0, .ref m0, .ref t0, .ref y0, .ref n0, .int (bB hs)]))] (fun r_ w_ => r_ = some (.int (-2)) ∧ w_ = [(b0, .inr (8, [.ref w0, .ref h0, .ref c0, .ref f0, .ref m0, .ref t0, .ref y0, .ref n0, .int (bB hs)]))]) 0 0 := by
  refine CM_int (own := RX8) (cc := cX8_way) (maxL := 3) (L0 := [(0, .ref b0), (1, .int (nI w)), (2, .int k)]) (by decide) rfl rfl (Nat.le_of_ble_eq_true rfl) rfl (fun X O E => ?_)
  refine g_iload_n O dX8_way_0 1 rfl rfl ?_
  refine g_callS (As := [.int (nI w)]) (wr := [(b0, .inr (8, [.ref w0, .ref h0, .ref c0, .ref f0, .ref m0, .ref t0, .ref y0, .ref n0, .int (bB hs)]))]) O (kX8_isWay l D z (nI w) ) gX8_way_X8_isWay rfl rfl rfl 1 (by decide +kernel) (by decide) (by decide) [] [0] rfl (by decide) rfl (by decide) (by decide) rfl rfl (Nat.le_of_ble_eq_true rfl) dX8_way_1 (fun r_1 w_2 hp => ?_)
  obtain ⟨rfl, rfl⟩ := hp
  refine g_eq (st' := [.int (bB (rgB (nI w) 48))]) (ws' := [(b0, .inr (8, [.ref w0, .ref h0, .ref c0, .ref f0, .ref m0, .ref t0, .ref y0, .ref n0, .int (bB hs)]))]) rfl rfl rfl ?_
  refine g_if_neB (tgt := 9) O dX8_way_4 (by decide) (fun c_3 => ?_) (fun c_3 => absurd c_3 (by rw [rgB_t hw (by decide)]; decide))
  refine g_iload_n O dX8_way_9 2 rfl rfl ?_
  refine g_tableO (tgt := 134) (N := 8) O dX8_way_10 hsw (by decide) (by decide) (by decide) ?_
  refine g_bipush (x := (-2)) O dX8_way_134 (by decide +kernel) ?_
  exact E 136 _ (-2) _ dX8_way_136 ⟨rfl, rfl⟩

theorem hiX8_way_X7 : ∀ w ∈ wsX70, w ∈ wsX8_way := by decide +kernel
theorem hiX8_way_X8 : ∀ w ∈ wsX80, w ∈ wsX8_way := by decide +kernel
set_option maxHeartbeats 4000000 in
set_option maxRecDepth 100000 in
theorem kX8_way_0 (l : Launch) (D : va_G) (z : Nat × Nat × Nat) (b0 : Nat) (w0 : Nat) (c0 : Nat) (f0 : Nat) (m0 : Nat) (t0 : Nat) (n0 : Nat) (hs : Bool) (y0 : Nat) (h0 : Nat) (w1 : Nat) (w2 : Nat) (w3 : Nat) (w4 : Nat) (w : Nat) (hw : w < 48) : CM l yX8_way wsX8_way ({ frames := 4, cells := 0, slots := 0, locals := 94 } : Room) D z [.ref b0, .int (nI w), .int (nI 0)] [(b0, .inr (8, [.ref w0, .ref h0, .ref c0, .ref f0, .ref m0, .ref t0, .ref y0, .ref n0, .int (bB hs)])), (w0, .inr (7, [.ref w1, .ref w2, .ref w3, .ref w4, .int (nI 48)])), (w1, .inl ((TY D)[0].1, 48, .inl (nf tM))), (w2, .inl ((TY D)[0].1, 48, .inl (nf tN))), (w3, .inl ((TY D)[0].1, 48, .inl (nf tS))), (w4, .inl ((TY D)[0].1, 84, .inl hT))] (fun r_ w_ => r_ = some (.int (nI (tM w))) ∧ w_ = [(b0, .inr (8, [.ref w0, .ref h0, .ref c0, .ref f0, .ref m0, .ref t0, .ref y0, .ref n0, .int (bB hs)])), (w0, .inr (7, [.ref w1, .ref w2, .ref w3, .ref w4, .int (nI 48)])), (w1, .inl ((TY D)[0].1, 48, .inl (nf tM))), (w2, .inl ((TY D)[0].1, 48, .inl (nf tN))), (w3, .inl ((TY D)[0].1, 48, .inl (nf tS))), (w4, .inl ((TY D)[0].1, 84, .inl hT))]) 0 0 := by
  refine CM_int (own := RX8) (cc := cX8_way) (maxL := 3) (L0 := [(0, .ref b0), (1, .int (nI w)), (2, .int (nI 0))]) (by decide) rfl rfl (Nat.le_of_ble_eq_true rfl) rfl (fun X O E => ?_)
  refine g_iload_n O dX8_way_0 1 rfl rfl ?_
  refine g_callS (As := [.int (nI w)]) (wr := [(b0, .inr (8, [.ref w0, .ref h0, .ref c0, .ref f0, .ref m0, .ref t0, .ref y0, .ref n0, .int (bB hs)])), (w0, .inr (7, [.ref w1, .ref w2, .ref w3, .ref w4, .int (nI 48)])), (w1, .inl ((TY D)[0].1, 48, .inl (nf tM))), (w2, .inl ((TY D)[0].1, 48, .inl (nf tN))), (w3, .inl ((TY D)[0].1, 48, .inl (nf tS))), (w4, .inl ((TY D)[0].1, 84, .inl hT))]) O (kX8_isWay l D z (nI w) ) gX8_way_X8_isWay rfl rfl rfl 1 (by decide +kernel) (by decide) (by decide) [] [0, 1, 2, 3, 4, 5] rfl (by decide) rfl (by decide) (by decide) rfl rfl (Nat.le_of_ble_eq_true rfl) dX8_way_1 (fun r_1 w_2 hp => ?_)
  obtain ⟨rfl, rfl⟩ := hp
  refine g_eq (st' := [.int (bB (rgB (nI w) 48))]) (ws' := [(b0, .inr (8, [.ref w0, .ref h0, .ref c0, .ref f0, .ref m0, .ref t0, .ref y0, .ref n0, .int (bB hs)])), (w0, .inr (7, [.ref w1, .ref w2, .ref w3, .ref w4, .int (nI 48)])), (w1, .inl ((TY D)[0].1, 48, .inl (nf tM))), (w2, .inl ((TY D)[0].1, 48, .inl (nf tN))), (w3, .inl ((TY D)[0].1, 48, .inl (nf tS))), (w4, .inl ((TY D)[0].1, 84, .inl hT))]) rfl rfl rfl ?_
  refine g_if_neB (tgt := 9) O dX8_way_4 (by decide) (fun c_3 => ?_) (fun c_3 => absurd c_3 (by rw [rgB_t hw (by decide)]; decide))
  refine g_iload_n O dX8_way_9 2 rfl rfl ?_
  refine g_tableIn (off := 46) (tgt := 56) O dX8_way_10 (by decide +kernel) (by decide +kernel) (by decide +kernel) (by decide) ?_
  refine g_aload_n O dX8_way_56 0 rfl rfl ?_
  refine g_get O hiX8_way_X8 0 rfl rfl 0 (by decide) (by decide +kernel) rfl dX8_way_57 ?_
  refine g_getN O hiX8_way_X7 1 rfl rfl 0 (by decide) 0 rfl rfl dX8_way_60 ?_
  refine g_iload_n O dX8_way_63 1 rfl rfl ?_
  refine g_ialdN O 2 rfl (by omega) (by omega) dX8_way_64 ?_
  exact E 65 _ (nI (tM w)) _ dX8_way_65 ⟨rfl, rfl⟩

set_option maxHeartbeats 4000000 in
set_option maxRecDepth 100000 in
theorem kX8_way_1 (l : Launch) (D : va_G) (z : Nat × Nat × Nat) (b0 : Nat) (w0 : Nat) (c0 : Nat) (f0 : Nat) (m0 : Nat) (t0 : Nat) (n0 : Nat) (hs : Bool) (y0 : Nat) (h0 : Nat) (w1 : Nat) (w2 : Nat) (w3 : Nat) (w4 : Nat) (w : Nat) (hw : w < 48) : CM l yX8_way wsX8_way ({ frames := 4, cells := 0, slots := 0, locals := 94 } : Room) D z [.ref b0, .int (nI w), .int (nI 1)] [(b0, .inr (8, [.ref w0, .ref h0, .ref c0, .ref f0, .ref m0, .ref t0, .ref y0, .ref n0, .int (bB hs)])), (w0, .inr (7, [.ref w1, .ref w2, .ref w3, .ref w4, .int (nI 48)])), (w1, .inl ((TY D)[0].1, 48, .inl (nf tM))), (w2, .inl ((TY D)[0].1, 48, .inl (nf tN))), (w3, .inl ((TY D)[0].1, 48, .inl (nf tS))), (w4, .inl ((TY D)[0].1, 84, .inl hT))] (fun r_ w_ => r_ = some (.int (nI (tN w))) ∧ w_ = [(b0, .inr (8, [.ref w0, .ref h0, .ref c0, .ref f0, .ref m0, .ref t0, .ref y0, .ref n0, .int (bB hs)])), (w0, .inr (7, [.ref w1, .ref w2, .ref w3, .ref w4, .int (nI 48)])), (w1, .inl ((TY D)[0].1, 48, .inl (nf tM))), (w2, .inl ((TY D)[0].1, 48, .inl (nf tN))), (w3, .inl ((TY D)[0].1, 48, .inl (nf tS))), (w4, .inl ((TY D)[0].1, 84, .inl hT))]) 0 0 := by
  refine CM_int (own := RX8) (cc := cX8_way) (maxL := 3) (L0 := [(0, .ref b0), (1, .int (nI w)), (2, .int (nI 1))]) (by decide) rfl rfl (Nat.le_of_ble_eq_true rfl) rfl (fun X O E => ?_)
  refine g_iload_n O dX8_way_0 1 rfl rfl ?_
  refine g_callS (As := [.int (nI w)]) (wr := [(b0, .inr (8, [.ref w0, .ref h0, .ref c0, .ref f0, .ref m0, .ref t0, .ref y0, .ref n0, .int (bB hs)])), (w0, .inr (7, [.ref w1, .ref w2, .ref w3, .ref w4, .int (nI 48)])), (w1, .inl ((TY D)[0].1, 48, .inl (nf tM))), (w2, .inl ((TY D)[0].1, 48, .inl (nf tN))), (w3, .inl ((TY D)[0].1, 48, .inl (nf tS))), (w4, .inl ((TY D)[0].1, 84, .inl hT))]) O (kX8_isWay l D z (nI w) ) gX8_way_X8_isWay rfl rfl rfl 1 (by decide +kernel) (by decide) (by decide) [] [0, 1, 2, 3, 4, 5] rfl (by decide) rfl (by decide) (by decide) rfl rfl (Nat.le_of_ble_eq_true rfl) dX8_way_1 (fun r_1 w_2 hp => ?_)
  obtain ⟨rfl, rfl⟩ := hp
  refine g_eq (st' := [.int (bB (rgB (nI w) 48))]) (ws' := [(b0, .inr (8, [.ref w0, .ref h0, .ref c0, .ref f0, .ref m0, .ref t0, .ref y0, .ref n0, .int (bB hs)])), (w0, .inr (7, [.ref w1, .ref w2, .ref w3, .ref w4, .int (nI 48)])), (w1, .inl ((TY D)[0].1, 48, .inl (nf tM))), (w2, .inl ((TY D)[0].1, 48, .inl (nf tN))), (w3, .inl ((TY D)[0].1, 48, .inl (nf tS))), (w4, .inl ((TY D)[0].1, 84, .inl hT))]) rfl rfl rfl ?_
  refine g_if_neB (tgt := 9) O dX8_way_4 (by decide) (fun c_3 => ?_) (fun c_3 => absurd c_3 (by rw [rgB_t hw (by decide)]; decide))
  refine g_iload_n O dX8_way_9 2 rfl rfl ?_
  refine g_tableIn (off := 56) (tgt := 66) O dX8_way_10 (by decide +kernel) (by decide +kernel) (by decide +kernel) (by decide) ?_
  refine g_aload_n O dX8_way_66 0 rfl rfl ?_
  refine g_get O hiX8_way_X8 0 rfl rfl 0 (by decide) (by decide +kernel) rfl dX8_way_67 ?_
  refine g_getN O hiX8_way_X7 1 rfl rfl 1 (by decide) 1 rfl rfl dX8_way_70 ?_
  refine g_iload_n O dX8_way_73 1 rfl rfl ?_
  refine g_ialdN O 3 rfl (by omega) (by omega) dX8_way_74 ?_
  exact E 75 _ (nI (tN w)) _ dX8_way_75 ⟨rfl, rfl⟩

set_option maxHeartbeats 4000000 in
set_option maxRecDepth 100000 in
theorem kX8_way_2 (l : Launch) (D : va_G) (z : Nat × Nat × Nat) (b0 : Nat) (w0 : Nat) (c0 : Nat) (f0 : Nat) (m0 : Nat) (t0 : Nat) (n0 : Nat) (hs : Bool) (y0 : Nat) (h0 : Nat) (w1 : Nat) (w2 : Nat) (w3 : Nat) (w4 : Nat) (w : Nat) (hw : w < 48) : CM l yX8_way wsX8_way ({ frames := 4, cells := 0, slots := 0, locals := 94 } : Room) D z [.ref b0, .int (nI w), .int (nI 2)] [(b0, .inr (8, [.ref w0, .ref h0, .ref c0, .ref f0, .ref m0, .ref t0, .ref y0, .ref n0, .int (bB hs)])), (w0, .inr (7, [.ref w1, .ref w2, .ref w3, .ref w4, .int (nI 48)])), (w1, .inl ((TY D)[0].1, 48, .inl (nf tM))), (w2, .inl ((TY D)[0].1, 48, .inl (nf tN))), (w3, .inl ((TY D)[0].1, 48, .inl (nf tS))), (w4, .inl ((TY D)[0].1, 84, .inl hT))] (fun r_ w_ => r_ = some (.int (nI (tS w))) ∧ w_ = [(b0, .inr (8, [.ref w0, .ref h0, .ref c0, .ref f0, .ref m0, .ref t0, .ref y0, .ref n0, .int (bB hs)])), (w0, .inr (7, [.ref w1, .ref w2, .ref w3, .ref w4, .int (nI 48)])), (w1, .inl ((TY D)[0].1, 48, .inl (nf tM))), (w2, .inl ((TY D)[0].1, 48, .inl (nf tN))), (w3, .inl ((TY D)[0].1, 48, .inl (nf tS))), (w4, .inl ((TY D)[0].1, 84, .inl hT))]) 0 0 := by
  refine CM_int (own := RX8) (cc := cX8_way) (maxL := 3) (L0 := [(0, .ref b0), (1, .int (nI w)), (2, .int (nI 2))]) (by decide) rfl rfl (Nat.le_of_ble_eq_true rfl) rfl (fun X O E => ?_)
  refine g_iload_n O dX8_way_0 1 rfl rfl ?_
  refine g_callS (As := [.int (nI w)]) (wr := [(b0, .inr (8, [.ref w0, .ref h0, .ref c0, .ref f0, .ref m0, .ref t0, .ref y0, .ref n0, .int (bB hs)])), (w0, .inr (7, [.ref w1, .ref w2, .ref w3, .ref w4, .int (nI 48)])), (w1, .inl ((TY D)[0].1, 48, .inl (nf tM))), (w2, .inl ((TY D)[0].1, 48, .inl (nf tN))), (w3, .inl ((TY D)[0].1, 48, .inl (nf tS))), (w4, .inl ((TY D)[0].1, 84, .inl hT))]) O (kX8_isWay l D z (nI w) ) gX8_way_X8_isWay rfl rfl rfl 1 (by decide +kernel) (by decide) (by decide) [] [0, 1, 2, 3, 4, 5] rfl (by decide) rfl (by decide) (by decide) rfl rfl (Nat.le_of_ble_eq_true rfl) dX8_way_1 (fun r_1 w_2 hp => ?_)
  obtain ⟨rfl, rfl⟩ := hp
  refine g_eq (st' := [.int (bB (rgB (nI w) 48))]) (ws' := [(b0, .inr (8, [.ref w0, .ref h0, .ref c0, .ref f0, .ref m0, .ref t0, .ref y0, .ref n0, .int (bB hs)])), (w0, .inr (7, [.ref w1, .ref w2, .ref w3, .ref w4, .int (nI 48)])), (w1, .inl ((TY D)[0].1, 48, .inl (nf tM))), (w2, .inl ((TY D)[0].1, 48, .inl (nf tN))), (w3, .inl ((TY D)[0].1, 48, .inl (nf tS))), (w4, .inl ((TY D)[0].1, 84, .inl hT))]) rfl rfl rfl ?_
  refine g_if_neB (tgt := 9) O dX8_way_4 (by decide) (fun c_3 => ?_) (fun c_3 => absurd c_3 (by rw [rgB_t hw (by decide)]; decide))
  refine g_iload_n O dX8_way_9 2 rfl rfl ?_
  refine g_tableIn (off := 66) (tgt := 76) O dX8_way_10 (by decide +kernel) (by decide +kernel) (by decide +kernel) (by decide) ?_
  refine g_aload_n O dX8_way_76 0 rfl rfl ?_
  refine g_get O hiX8_way_X8 0 rfl rfl 0 (by decide) (by decide +kernel) rfl dX8_way_77 ?_
  refine g_getN O hiX8_way_X7 1 rfl rfl 2 (by decide) 2 rfl rfl dX8_way_80 ?_
  refine g_iload_n O dX8_way_83 1 rfl rfl ?_
  refine g_ialdN O 4 rfl (by omega) (by omega) dX8_way_84 ?_
  exact E 85 _ (nI (tS w)) _ dX8_way_85 ⟨rfl, rfl⟩

set_option maxHeartbeats 4000000 in
set_option maxRecDepth 100000 in
theorem kX8_way_3 (l : Launch) (D : va_G) (z : Nat × Nat × Nat) (b0 : Nat) (w0 : Nat) (c0 : Nat) (f0 : Nat) (m0 : Nat) (t0 : Nat) (n0 : Nat) (hs : Bool) (y0 : Nat) (h0 : Nat) (w1 : Nat) (w2 : Nat) (w3 : Nat) (w4 : Nat) (w : Nat) (hw : w < 48) : CM l yX8_way wsX8_way ({ frames := 4, cells := 0, slots := 0, locals := 94 } : Room) D z [.ref b0, .int (nI w), .int (nI 3)] [(b0, .inr (8, [.ref w0, .ref h0, .ref c0, .ref f0, .ref m0, .ref t0, .ref y0, .ref n0, .int (bB hs)])), (w0, .inr (7, [.ref w1, .ref w2, .ref w3, .ref w4, .int (nI 48)])), (w1, .inl ((TY D)[0].1, 48, .inl (nf tM))), (w2, .inl ((TY D)[0].1, 48, .inl (nf tN))), (w3, .inl ((TY D)[0].1, 48, .inl (nf tS))), (w4, .inl ((TY D)[0].1, 84, .inl hT))] (fun r_ w_ => r_ = some (.int (nI (10 * (tM w * tM w + tN w * tN w) + tS w))) ∧ w_ = [(b0, .inr (8, [.ref w0, .ref h0, .ref c0, .ref f0, .ref m0, .ref t0, .ref y0, .ref n0, .int (bB hs)])), (w0, .inr (7, [.ref w1, .ref w2, .ref w3, .ref w4, .int (nI 48)])), (w1, .inl ((TY D)[0].1, 48, .inl (nf tM))), (w2, .inl ((TY D)[0].1, 48, .inl (nf tN))), (w3, .inl ((TY D)[0].1, 48, .inl (nf tS))), (w4, .inl ((TY D)[0].1, 84, .inl hT))]) 0 0 := by
  refine CM_int (own := RX8) (cc := cX8_way) (maxL := 3) (L0 := [(0, .ref b0), (1, .int (nI w)), (2, .int (nI 3))]) (by decide) rfl rfl (Nat.le_of_ble_eq_true rfl) rfl (fun X O E => ?_)
  refine g_iload_n O dX8_way_0 1 rfl rfl ?_
  refine g_callS (As := [.int (nI w)]) (wr := [(b0, .inr (8, [.ref w0, .ref h0, .ref c0, .ref f0, .ref m0, .ref t0, .ref y0, .ref n0, .int (bB hs)])), (w0, .inr (7, [.ref w1, .ref w2, .ref w3, .ref w4, .int (nI 48)])), (w1, .inl ((TY D)[0].1, 48, .inl (nf tM))), (w2, .inl ((TY D)[0].1, 48, .inl (nf tN))), (w3, .inl ((TY D)[0].1, 48, .inl (nf tS))), (w4, .inl ((TY D)[0].1, 84, .inl hT))]) O (kX8_isWay l D z (nI w) ) gX8_way_X8_isWay rfl rfl rfl 1 (by decide +kernel) (by decide) (by decide) [] [0, 1, 2, 3, 4, 5] rfl (by decide) rfl (by decide) (by decide) rfl rfl (Nat.le_of_ble_eq_true rfl) dX8_way_1 (fun r_1 w_2 hp => ?_)
  obtain ⟨rfl, rfl⟩ := hp
  refine g_eq (st' := [.int (bB (rgB (nI w) 48))]) (ws' := [(b0, .inr (8, [.ref w0, .ref h0, .ref c0, .ref f0, .ref m0, .ref t0, .ref y0, .ref n0, .int (bB hs)])), (w0, .inr (7, [.ref w1, .ref w2, .ref w3, .ref w4, .int (nI 48)])), (w1, .inl ((TY D)[0].1, 48, .inl (nf tM))), (w2, .inl ((TY D)[0].1, 48, .inl (nf tN))), (w3, .inl ((TY D)[0].1, 48, .inl (nf tS))), (w4, .inl ((TY D)[0].1, 84, .inl hT))]) rfl rfl rfl ?_
  refine g_if_neB (tgt := 9) O dX8_way_4 (by decide) (fun c_3 => ?_) (fun c_3 => absurd c_3 (by rw [rgB_t hw (by decide)]; decide))
  refine g_iload_n O dX8_way_9 2 rfl rfl ?_
  refine g_tableIn (off := 76) (tgt := 86) O dX8_way_10 (by decide +kernel) (by decide +kernel) (by decide +kernel) (by decide) ?_
  refine g_aload_n O dX8_way_86 0 rfl rfl ?_
  refine g_get O hiX8_way_X8 0 rfl rfl 0 (by decide) (by decide +kernel) rfl dX8_way_87 ?_
  refine g_iload_n O dX8_way_90 1 rfl rfl ?_
  refine g_callV (As := [.int (nI w)]) (wr := [(b0, .inr (8, [.ref w0, .ref h0, .ref c0, .ref f0, .ref m0, .ref t0, .ref y0, .ref n0, .int (bB hs)]))]) O (kX7_noteOf l D z w0 w1 w2 w3 w4 w (by first | assumption | omega)) gX8_way_X7_noteOf rfl rfl rfl 1 (by decide +kernel) (by decide) (by decide) (q0 := 0) rfl rfl rfl [1, 2, 3, 4, 5] [0] rfl (by decide) rfl (by decide) (by decide) rfl rfl (Nat.le_of_ble_eq_true rfl) dX8_way_91 (fun r_4 w_5 hp => ?_)
  obtain ⟨rfl, rfl⟩ := hp
  refine g_eq (st' := [.int (nI (10 * (tM w * tM w + tN w * tN w) + tS w))]) (ws' := [(b0, .inr (8, [.ref w0, .ref h0, .ref c0, .ref f0, .ref m0, .ref t0, .ref y0, .ref n0, .int (bB hs)])), (w0, .inr (7, [.ref w1, .ref w2, .ref w3, .ref w4, .int (nI 48)])), (w1, .inl ((TY D)[0].1, 48, .inl (nf tM))), (w2, .inl ((TY D)[0].1, 48, .inl (nf tN))), (w3, .inl ((TY D)[0].1, 48, .inl (nf tS))), (w4, .inl ((TY D)[0].1, 84, .inl hT))]) rfl rfl rfl ?_
  exact E 94 _ (nI (10 * (tM w * tM w + tN w * tN w) + tS w)) _ dX8_way_94 ⟨rfl, rfl⟩

set_option maxHeartbeats 4000000 in
set_option maxRecDepth 100000 in
theorem kX8_way_4 (l : Launch) (D : va_G) (z : Nat × Nat × Nat) (b0 : Nat) (w0 : Nat) (c0 : Nat) (f0 : Nat) (m0 : Nat) (t0 : Nat) (n0 : Nat) (hs : Bool) (y0 : Nat) (f1 : Nat) (f2 : Nat) (rc : Nat) (w1 : Nat) (w2 : Nat) (w3 : Nat) (w4 : Nat) (h0 : Nat) (h1 : Nat) (h2 : Nat) (h3 : Nat) (h4 : Nat) (h5 : Nat) (s : SV) (w : Nat) (hw : w < 48) : CM l yX8_way wsX8_way ({ frames := 4, cells := 0, slots := 0, locals := 94 } : Room) D z [.ref b0, .int (nI w), .int (nI 4)] [(b0, .inr (8, [.ref w0, .ref h0, .ref c0, .ref f0, .ref m0, .ref t0, .ref y0, .ref n0, .int (bB hs)])), (f0, .inr (1, [.ref w0, .ref h0, .ref f1, .ref f2, .int (nI rc)])), (w0, .inr (7, [.ref w1, .ref w2, .ref w3, .ref w4, .int (nI 48)])), (w1, .inl ((TY D)[0].1, 48, .inl (nf tM))), (w2, .inl ((TY D)[0].1, 48, .inl (nf tN))), (w3, .inl ((TY D)[0].1, 48, .inl (nf tS))), (w4, .inl ((TY D)[0].1, 84, .inl hT)), (h0, .inr (5, [.ref h1, .ref h2, .ref h3, .int (nI (sv_nc s)), .ref h4, .ref h5, .int (sv_la s), .int (sv_st s), .int (sv_sw s), .int (sv_fl s), .int (sv_sk s), .int (sv_mu s)])), (h4, .inl ((TY D)[0].1, 4, .inl (sv_se s)))] (fun r_ w_ => r_ = some (.int (nI (cntB (fun p => stB s w p) 144))) ∧ w_ = [(b0, .inr (8, [.ref w0, .ref h0, .ref c0, .ref f0, .ref m0, .ref t0, .ref y0, .ref n0, .int (bB hs)])), (f0, .inr (1, [.ref w0, .ref h0, .ref f1, .ref f2, .int (nI rc)])), (w0, .inr (7, [.ref w1, .ref w2, .ref w3, .ref w4, .int (nI 48)])), (w1, .inl ((TY D)[0].1, 48, .inl (nf tM))), (w2, .inl ((TY D)[0].1, 48, .inl (nf tN))), (w3, .inl ((TY D)[0].1, 48, .inl (nf tS))), (w4, .inl ((TY D)[0].1, 84, .inl hT)), (h0, .inr (5, [.ref h1, .ref h2, .ref h3, .int (nI (sv_nc s)), .ref h4, .ref h5, .int (sv_la s), .int (sv_st s), .int (sv_sw s), .int (sv_fl s), .int (sv_sk s), .int (sv_mu s)])), (h4, .inl ((TY D)[0].1, 4, .inl (sv_se s)))]) 0 0 := by
  refine CM_int (own := RX8) (cc := cX8_way) (maxL := 3) (L0 := [(0, .ref b0), (1, .int (nI w)), (2, .int (nI 4))]) (by decide) rfl rfl (Nat.le_of_ble_eq_true rfl) rfl (fun X O E => ?_)
  refine g_iload_n O dX8_way_0 1 rfl rfl ?_
  refine g_callS (As := [.int (nI w)]) (wr := [(b0, .inr (8, [.ref w0, .ref h0, .ref c0, .ref f0, .ref m0, .ref t0, .ref y0, .ref n0, .int (bB hs)])), (f0, .inr (1, [.ref w0, .ref h0, .ref f1, .ref f2, .int (nI rc)])), (w0, .inr (7, [.ref w1, .ref w2, .ref w3, .ref w4, .int (nI 48)])), (w1, .inl ((TY D)[0].1, 48, .inl (nf tM))), (w2, .inl ((TY D)[0].1, 48, .inl (nf tN))), (w3, .inl ((TY D)[0].1, 48, .inl (nf tS))), (w4, .inl ((TY D)[0].1, 84, .inl hT)), (h0, .inr (5, [.ref h1, .ref h2, .ref h3, .int (nI (sv_nc s)), .ref h4, .ref h5, .int (sv_la s), .int (sv_st s), .int (sv_sw s), .int (sv_fl s), .int (sv_sk s), .int (sv_mu s)])), (h4, .inl ((TY D)[0].1, 4, .inl (sv_se s)))]) O (kX8_isWay l D z (nI w) ) gX8_way_X8_isWay rfl rfl rfl 1 (by decide +kernel) (by decide) (by decide) [] [0, 1, 2, 3, 4, 5, 6, 7, 8] rfl (by decide) rfl (by decide) (by decide) rfl rfl (Nat.le_of_ble_eq_true rfl) dX8_way_1 (fun r_1 w_2 hp => ?_)
  obtain ⟨rfl, rfl⟩ := hp
  refine g_eq (st' := [.int (bB (rgB (nI w) 48))]) (ws' := [(b0, .inr (8, [.ref w0, .ref h0, .ref c0, .ref f0, .ref m0, .ref t0, .ref y0, .ref n0, .int (bB hs)])), (f0, .inr (1, [.ref w0, .ref h0, .ref f1, .ref f2, .int (nI rc)])), (w0, .inr (7, [.ref w1, .ref w2, .ref w3, .ref w4, .int (nI 48)])), (w1, .inl ((TY D)[0].1, 48, .inl (nf tM))), (w2, .inl ((TY D)[0].1, 48, .inl (nf tN))), (w3, .inl ((TY D)[0].1, 48, .inl (nf tS))), (w4, .inl ((TY D)[0].1, 84, .inl hT)), (h0, .inr (5, [.ref h1, .ref h2, .ref h3, .int (nI (sv_nc s)), .ref h4, .ref h5, .int (sv_la s), .int (sv_st s), .int (sv_sw s), .int (sv_fl s), .int (sv_sk s), .int (sv_mu s)])), (h4, .inl ((TY D)[0].1, 4, .inl (sv_se s)))]) rfl rfl rfl ?_
  refine g_if_neB (tgt := 9) O dX8_way_4 (by decide) (fun c_3 => ?_) (fun c_3 => absurd c_3 (by rw [rgB_t hw (by decide)]; decide))
  refine g_iload_n O dX8_way_9 2 rfl rfl ?_
  refine g_tableIn (off := 85) (tgt := 95) O dX8_way_10 (by decide +kernel) (by decide +kernel) (by decide +kernel) (by decide) ?_
  refine g_aload_n O dX8_way_95 0 rfl rfl ?_
  refine g_get O hiX8_way_X8 0 rfl rfl 3 (by decide) (by decide +kernel) rfl dX8_way_96 ?_
  refine g_iload_n O dX8_way_99 1 rfl rfl ?_
  refine g_callV (As := [.int (nI w)]) (wr := [(b0, .inr (8, [.ref w0, .ref h0, .ref c0, .ref f0, .ref m0, .ref t0, .ref y0, .ref n0, .int (bB hs)]))]) O (kX1_stillPlaces l D z f0 f1 f2 rc w0 w1 w2 w3 w4 h0 h1 h2 h3 h4 h5 s w (by first | assumption | omega)) gX8_way_X1_stillPlaces rfl rfl rfl 1 (by decide +kernel) (by decide) (by decide) (q0 := 0) rfl rfl rfl [1, 2, 3, 4, 5, 6, 7, 8] [0] rfl (by decide) rfl (by decide) (by decide) rfl rfl (Nat.le_of_ble_eq_true rfl) dX8_way_100 (fun r_4 w_5 hp => ?_)
  obtain ⟨rfl, rfl⟩ := hp
  refine g_eq (st' := [.int (nI (cntB (fun p => stB s w p) 144))]) (ws' := [(b0, .inr (8, [.ref w0, .ref h0, .ref c0, .ref f0, .ref m0, .ref t0, .ref y0, .ref n0, .int (bB hs)])), (f0, .inr (1, [.ref w0, .ref h0, .ref f1, .ref f2, .int (nI rc)])), (w0, .inr (7, [.ref w1, .ref w2, .ref w3, .ref w4, .int (nI 48)])), (w1, .inl ((TY D)[0].1, 48, .inl (nf tM))), (w2, .inl ((TY D)[0].1, 48, .inl (nf tN))), (w3, .inl ((TY D)[0].1, 48, .inl (nf tS))), (w4, .inl ((TY D)[0].1, 84, .inl hT)), (h0, .inr (5, [.ref h1, .ref h2, .ref h3, .int (nI (sv_nc s)), .ref h4, .ref h5, .int (sv_la s), .int (sv_st s), .int (sv_sw s), .int (sv_fl s), .int (sv_sk s), .int (sv_mu s)])), (h4, .inl ((TY D)[0].1, 4, .inl (sv_se s)))]) rfl rfl rfl ?_
  exact E 103 _ (nI (cntB (fun p => stB s w p) 144)) _ dX8_way_103 ⟨rfl, rfl⟩

set_option maxHeartbeats 4000000 in
set_option maxRecDepth 100000 in
theorem kX8_way_5 (l : Launch) (D : va_G) (z : Nat × Nat × Nat) (b0 : Nat) (w0 : Nat) (c0 : Nat) (f0 : Nat) (m0 : Nat) (t0 : Nat) (n0 : Nat) (hs : Bool) (y0 : Nat) (f1 : Nat) (f2 : Nat) (t : VT) (w1 : Nat) (w2 : Nat) (w3 : Nat) (w4 : Nat) (h0 : Nat) (h1 : Nat) (h2 : Nat) (h3 : Nat) (h4 : Nat) (h5 : Nat) (s : SV) (w : Nat) (hw : w < 48) : CM l yX8_way wsX8_way ({ frames := 4, cells := 0, slots := 0, locals := 94 } : Room) D z [.ref b0, .int (nI w), .int (nI 5)] [(b0, .inr (8, [.ref w0, .ref h0, .ref c0, .ref f0, .ref m0, .ref t0, .ref y0, .ref n0, .int (bB hs)])), (f0, .inr (1, [.ref w0, .ref h0, .ref f1, .ref f2, .int (nI (vC t))])), (f1, .inl ((TY D)[1].1, 144, .inl (bf (vO t)))), (f2, .inl ((TY D)[0].1, 144, .inl (nf (vR t)))), (w0, .inr (7, [.ref w1, .ref w2, .ref w3, .ref w4, .int (nI 48)])), (w1, .inl ((TY D)[0].1, 48, .inl (nf tM))), (w2, .inl ((TY D)[0].1, 48, .inl (nf tN))), (w3, .inl ((TY D)[0].1, 48, .inl (nf tS))), (w4, .inl ((TY D)[0].1, 84, .inl hT)), (h0, .inr (5, [.ref h1, .ref h2, .ref h3, .int (nI (sv_nc s)), .ref h4, .ref h5, .int (sv_la s), .int (sv_st s), .int (sv_sw s), .int (sv_fl s), .int (sv_sk s), .int (sv_mu s)])), (h4, .inl ((TY D)[0].1, 4, .inl (sv_se s)))] (fun r_ w_ => r_ = some (.int (nI ((lnF s w (vR t) (vC t) 144).2))) ∧ w_ = [(b0, .inr (8, [.ref w0, .ref h0, .ref c0, .ref f0, .ref m0, .ref t0, .ref y0, .ref n0, .int (bB hs)])), (f0, .inr (1, [.ref w0, .ref h0, .ref f1, .ref f2, .int (nI (vC ((lnF s w (vR t) (vC t) 144).1)))])), (f1, .inl ((TY D)[1].1, 144, .inl (bf (vO ((lnF s w (vR t) (vC t) 144).1))))), (f2, .inl ((TY D)[0].1, 144, .inl (nf (vR ((lnF s w (vR t) (vC t) 144).1))))), (w0, .inr (7, [.ref w1, .ref w2, .ref w3, .ref w4, .int (nI 48)])), (w1, .inl ((TY D)[0].1, 48, .inl (nf tM))), (w2, .inl ((TY D)[0].1, 48, .inl (nf tN))), (w3, .inl ((TY D)[0].1, 48, .inl (nf tS))), (w4, .inl ((TY D)[0].1, 84, .inl hT)), (h0, .inr (5, [.ref h1, .ref h2, .ref h3, .int (nI (sv_nc s)), .ref h4, .ref h5, .int (sv_la s), .int (sv_st s), .int (sv_sw s), .int (sv_fl s), .int (sv_sk s), .int (sv_mu s)])), (h4, .inl ((TY D)[0].1, 4, .inl (sv_se s)))]) 0 0 := by
  refine CM_int (own := RX8) (cc := cX8_way) (maxL := 3) (L0 := [(0, .ref b0), (1, .int (nI w)), (2, .int (nI 5))]) (by decide) rfl rfl (Nat.le_of_ble_eq_true rfl) rfl (fun X O E => ?_)
  refine g_iload_n O dX8_way_0 1 rfl rfl ?_
  refine g_callS (As := [.int (nI w)]) (wr := [(b0, .inr (8, [.ref w0, .ref h0, .ref c0, .ref f0, .ref m0, .ref t0, .ref y0, .ref n0, .int (bB hs)])), (f0, .inr (1, [.ref w0, .ref h0, .ref f1, .ref f2, .int (nI (vC t))])), (f1, .inl ((TY D)[1].1, 144, .inl (bf (vO t)))), (f2, .inl ((TY D)[0].1, 144, .inl (nf (vR t)))), (w0, .inr (7, [.ref w1, .ref w2, .ref w3, .ref w4, .int (nI 48)])), (w1, .inl ((TY D)[0].1, 48, .inl (nf tM))), (w2, .inl ((TY D)[0].1, 48, .inl (nf tN))), (w3, .inl ((TY D)[0].1, 48, .inl (nf tS))), (w4, .inl ((TY D)[0].1, 84, .inl hT)), (h0, .inr (5, [.ref h1, .ref h2, .ref h3, .int (nI (sv_nc s)), .ref h4, .ref h5, .int (sv_la s), .int (sv_st s), .int (sv_sw s), .int (sv_fl s), .int (sv_sk s), .int (sv_mu s)])), (h4, .inl ((TY D)[0].1, 4, .inl (sv_se s)))]) O (kX8_isWay l D z (nI w) ) gX8_way_X8_isWay rfl rfl rfl 1 (by decide +kernel) (by decide) (by decide) [] [0, 1, 2, 3, 4, 5, 6, 7, 8, 9, 10] rfl (by decide) rfl (by decide) (by decide) rfl rfl (Nat.le_of_ble_eq_true rfl) dX8_way_1 (fun r_1 w_2 hp => ?_)
  obtain ⟨rfl, rfl⟩ := hp
  refine g_eq (st' := [.int (bB (rgB (nI w) 48))]) (ws' := [(b0, .inr (8, [.ref w0, .ref h0, .ref c0, .ref f0, .ref m0, .ref t0, .ref y0, .ref n0, .int (bB hs)])), (f0, .inr (1, [.ref w0, .ref h0, .ref f1, .ref f2, .int (nI (vC t))])), (f1, .inl ((TY D)[1].1, 144, .inl (bf (vO t)))), (f2, .inl ((TY D)[0].1, 144, .inl (nf (vR t)))), (w0, .inr (7, [.ref w1, .ref w2, .ref w3, .ref w4, .int (nI 48)])), (w1, .inl ((TY D)[0].1, 48, .inl (nf tM))), (w2, .inl ((TY D)[0].1, 48, .inl (nf tN))), (w3, .inl ((TY D)[0].1, 48, .inl (nf tS))), (w4, .inl ((TY D)[0].1, 84, .inl hT)), (h0, .inr (5, [.ref h1, .ref h2, .ref h3, .int (nI (sv_nc s)), .ref h4, .ref h5, .int (sv_la s), .int (sv_st s), .int (sv_sw s), .int (sv_fl s), .int (sv_sk s), .int (sv_mu s)])), (h4, .inl ((TY D)[0].1, 4, .inl (sv_se s)))]) rfl rfl rfl ?_
  refine g_if_neB (tgt := 9) O dX8_way_4 (by decide) (fun c_3 => ?_) (fun c_3 => absurd c_3 (by rw [rgB_t hw (by decide)]; decide))
  refine g_iload_n O dX8_way_9 2 rfl rfl ?_
  refine g_tableIn (off := 94) (tgt := 104) O dX8_way_10 (by decide +kernel) (by decide +kernel) (by decide +kernel) (by decide) ?_
  refine g_aload_n O dX8_way_104 0 rfl rfl ?_
  refine g_get O hiX8_way_X8 0 rfl rfl 3 (by decide) (by decide +kernel) rfl dX8_way_105 ?_
  refine g_iload_n O dX8_way_108 1 rfl rfl ?_
  refine g_callV (As := [.int (nI w)]) (wr := [(b0, .inr (8, [.ref w0, .ref h0, .ref c0, .ref f0, .ref m0, .ref t0, .ref y0, .ref n0, .int (bB hs)]))]) O (kX1_lines l D z f0 f1 f2 w0 w1 w2 w3 w4 h0 h1 h2 h3 h4 h5 s t w (by first | assumption | omega)) gX8_way_X1_lines rfl rfl rfl 1 (by decide +kernel) (by decide) (by decide) (q0 := 0) rfl rfl rfl [1, 2, 3, 4, 5, 6, 7, 8, 9, 10] [0] rfl (by decide) rfl (by decide) (by decide) rfl rfl (Nat.le_of_ble_eq_true rfl) dX8_way_109 (fun r_4 w_5 hp => ?_)
  obtain ⟨rfl, rfl⟩ := hp
  refine g_eq (st' := [.int (nI ((lnF s w (vR t) (vC t) 144).2))]) (ws' := [(b0, .inr (8, [.ref w0, .ref h0, .ref c0, .ref f0, .ref m0, .ref t0, .ref y0, .ref n0, .int (bB hs)])), (f0, .inr (1, [.ref w0, .ref h0, .ref f1, .ref f2, .int (nI (vC ((lnF s w (vR t) (vC t) 144).1)))])), (f1, .inl ((TY D)[1].1, 144, .inl (bf (vO ((lnF s w (vR t) (vC t) 144).1))))), (f2, .inl ((TY D)[0].1, 144, .inl (nf (vR ((lnF s w (vR t) (vC t) 144).1))))), (w0, .inr (7, [.ref w1, .ref w2, .ref w3, .ref w4, .int (nI 48)])), (w1, .inl ((TY D)[0].1, 48, .inl (nf tM))), (w2, .inl ((TY D)[0].1, 48, .inl (nf tN))), (w3, .inl ((TY D)[0].1, 48, .inl (nf tS))), (w4, .inl ((TY D)[0].1, 84, .inl hT)), (h0, .inr (5, [.ref h1, .ref h2, .ref h3, .int (nI (sv_nc s)), .ref h4, .ref h5, .int (sv_la s), .int (sv_st s), .int (sv_sw s), .int (sv_fl s), .int (sv_sk s), .int (sv_mu s)])), (h4, .inl ((TY D)[0].1, 4, .inl (sv_se s)))]) rfl rfl rfl ?_
  exact E 112 _ (nI ((lnF s w (vR t) (vC t) 144).2)) _ dX8_way_112 ⟨rfl, rfl⟩

set_option maxHeartbeats 4000000 in
set_option maxRecDepth 100000 in
theorem kX8_way_6 (l : Launch) (D : va_G) (z : Nat × Nat × Nat) (b0 : Nat) (w0 : Nat) (c0 : Nat) (f0 : Nat) (m0 : Nat) (t0 : Nat) (n0 : Nat) (hs : Bool) (y0 : Nat) (f1 : Nat) (f2 : Nat) (rc : Nat) (w1 : Nat) (w2 : Nat) (w3 : Nat) (w4 : Nat) (h0 : Nat) (h1 : Nat) (h2 : Nat) (h3 : Nat) (h4 : Nat) (h5 : Nat) (s : SV) (w : Nat) (hw : w < 48) : CM l yX8_way wsX8_way ({ frames := 4, cells := 0, slots := 0, locals := 94 } : Room) D z [.ref b0, .int (nI w), .int (nI 6)] [(b0, .inr (8, [.ref w0, .ref h0, .ref c0, .ref f0, .ref m0, .ref t0, .ref y0, .ref n0, .int (bB hs)])), (f0, .inr (1, [.ref w0, .ref h0, .ref f1, .ref f2, .int (nI rc)])), (w0, .inr (7, [.ref w1, .ref w2, .ref w3, .ref w4, .int (nI 48)])), (w1, .inl ((TY D)[0].1, 48, .inl (nf tM))), (w2, .inl ((TY D)[0].1, 48, .inl (nf tN))), (w3, .inl ((TY D)[0].1, 48, .inl (nf tS))), (w4, .inl ((TY D)[0].1, 84, .inl hT)), (h0, .inr (5, [.ref h1, .ref h2, .ref h3, .int (nI (sv_nc s)), .ref h4, .ref h5, .int (sv_la s), .int (sv_st s), .int (sv_sw s), .int (sv_fl s), .int (sv_sk s), .int (sv_mu s)])), (h4, .inl ((TY D)[0].1, 4, .inl (sv_se s))), (h1, .inl ((TY D)[0].1, 144, .inl (nf (sv_g s))))] (fun r_ w_ => r_ = some (.int (nI (gsN s w 144))) ∧ w_ = [(b0, .inr (8, [.ref w0, .ref h0, .ref c0, .ref f0, .ref m0, .ref t0, .ref y0, .ref n0, .int (bB hs)])), (f0, .inr (1, [.ref w0, .ref h0, .ref f1, .ref f2, .int (nI rc)])), (w0, .inr (7, [.ref w1, .ref w2, .ref w3, .ref w4, .int (nI 48)])), (w1, .inl ((TY D)[0].1, 48, .inl (nf tM))), (w2, .inl ((TY D)[0].1, 48, .inl (nf tN))), (w3, .inl ((TY D)[0].1, 48, .inl (nf tS))), (w4, .inl ((TY D)[0].1, 84, .inl hT)), (h0, .inr (5, [.ref h1, .ref h2, .ref h3, .int (nI (sv_nc s)), .ref h4, .ref h5, .int (sv_la s), .int (sv_st s), .int (sv_sw s), .int (sv_fl s), .int (sv_sk s), .int (sv_mu s)])), (h4, .inl ((TY D)[0].1, 4, .inl (sv_se s))), (h1, .inl ((TY D)[0].1, 144, .inl (nf (sv_g s))))]) 0 0 := by
  refine CM_int (own := RX8) (cc := cX8_way) (maxL := 3) (L0 := [(0, .ref b0), (1, .int (nI w)), (2, .int (nI 6))]) (by decide) rfl rfl (Nat.le_of_ble_eq_true rfl) rfl (fun X O E => ?_)
  refine g_iload_n O dX8_way_0 1 rfl rfl ?_
  refine g_callS (As := [.int (nI w)]) (wr := [(b0, .inr (8, [.ref w0, .ref h0, .ref c0, .ref f0, .ref m0, .ref t0, .ref y0, .ref n0, .int (bB hs)])), (f0, .inr (1, [.ref w0, .ref h0, .ref f1, .ref f2, .int (nI rc)])), (w0, .inr (7, [.ref w1, .ref w2, .ref w3, .ref w4, .int (nI 48)])), (w1, .inl ((TY D)[0].1, 48, .inl (nf tM))), (w2, .inl ((TY D)[0].1, 48, .inl (nf tN))), (w3, .inl ((TY D)[0].1, 48, .inl (nf tS))), (w4, .inl ((TY D)[0].1, 84, .inl hT)), (h0, .inr (5, [.ref h1, .ref h2, .ref h3, .int (nI (sv_nc s)), .ref h4, .ref h5, .int (sv_la s), .int (sv_st s), .int (sv_sw s), .int (sv_fl s), .int (sv_sk s), .int (sv_mu s)])), (h4, .inl ((TY D)[0].1, 4, .inl (sv_se s))), (h1, .inl ((TY D)[0].1, 144, .inl (nf (sv_g s))))]) O (kX8_isWay l D z (nI w) ) gX8_way_X8_isWay rfl rfl rfl 1 (by decide +kernel) (by decide) (by decide) [] [0, 1, 2, 3, 4, 5, 6, 7, 8, 9] rfl (by decide) rfl (by decide) (by decide) rfl rfl (Nat.le_of_ble_eq_true rfl) dX8_way_1 (fun r_1 w_2 hp => ?_)
  obtain ⟨rfl, rfl⟩ := hp
  refine g_eq (st' := [.int (bB (rgB (nI w) 48))]) (ws' := [(b0, .inr (8, [.ref w0, .ref h0, .ref c0, .ref f0, .ref m0, .ref t0, .ref y0, .ref n0, .int (bB hs)])), (f0, .inr (1, [.ref w0, .ref h0, .ref f1, .ref f2, .int (nI rc)])), (w0, .inr (7, [.ref w1, .ref w2, .ref w3, .ref w4, .int (nI 48)])), (w1, .inl ((TY D)[0].1, 48, .inl (nf tM))), (w2, .inl ((TY D)[0].1, 48, .inl (nf tN))), (w3, .inl ((TY D)[0].1, 48, .inl (nf tS))), (w4, .inl ((TY D)[0].1, 84, .inl hT)), (h0, .inr (5, [.ref h1, .ref h2, .ref h3, .int (nI (sv_nc s)), .ref h4, .ref h5, .int (sv_la s), .int (sv_st s), .int (sv_sw s), .int (sv_fl s), .int (sv_sk s), .int (sv_mu s)])), (h4, .inl ((TY D)[0].1, 4, .inl (sv_se s))), (h1, .inl ((TY D)[0].1, 144, .inl (nf (sv_g s))))]) rfl rfl rfl ?_
  refine g_if_neB (tgt := 9) O dX8_way_4 (by decide) (fun c_3 => ?_) (fun c_3 => absurd c_3 (by rw [rgB_t hw (by decide)]; decide))
  refine g_iload_n O dX8_way_9 2 rfl rfl ?_
  refine g_tableIn (off := 103) (tgt := 113) O dX8_way_10 (by decide +kernel) (by decide +kernel) (by decide +kernel) (by decide) ?_
  refine g_aload_n O dX8_way_113 0 rfl rfl ?_
  refine g_get O hiX8_way_X8 0 rfl rfl 3 (by decide) (by decide +kernel) rfl dX8_way_114 ?_
  refine g_iload_n O dX8_way_117 1 rfl rfl ?_
  refine g_callV (As := [.int (nI w)]) (wr := [(b0, .inr (8, [.ref w0, .ref h0, .ref c0, .ref f0, .ref m0, .ref t0, .ref y0, .ref n0, .int (bB hs)]))]) O (kX1_grainsOnLines l D z f0 f1 f2 rc w0 w1 w2 w3 w4 h0 h1 h2 h3 h4 h5 s w (by first | assumption | omega)) gX8_way_X1_grainsOnLines rfl rfl rfl 1 (by decide +kernel) (by decide) (by decide) (q0 := 0) rfl rfl rfl [1, 2, 3, 4, 5, 6, 7, 8, 9] [0] rfl (by decide) rfl (by decide) (by decide) rfl rfl (Nat.le_of_ble_eq_true rfl) dX8_way_118 (fun r_4 w_5 hp => ?_)
  obtain ⟨rfl, rfl⟩ := hp
  refine g_eq (st' := [.int (nI (gsN s w 144))]) (ws' := [(b0, .inr (8, [.ref w0, .ref h0, .ref c0, .ref f0, .ref m0, .ref t0, .ref y0, .ref n0, .int (bB hs)])), (f0, .inr (1, [.ref w0, .ref h0, .ref f1, .ref f2, .int (nI rc)])), (w0, .inr (7, [.ref w1, .ref w2, .ref w3, .ref w4, .int (nI 48)])), (w1, .inl ((TY D)[0].1, 48, .inl (nf tM))), (w2, .inl ((TY D)[0].1, 48, .inl (nf tN))), (w3, .inl ((TY D)[0].1, 48, .inl (nf tS))), (w4, .inl ((TY D)[0].1, 84, .inl hT)), (h0, .inr (5, [.ref h1, .ref h2, .ref h3, .int (nI (sv_nc s)), .ref h4, .ref h5, .int (sv_la s), .int (sv_st s), .int (sv_sw s), .int (sv_fl s), .int (sv_sk s), .int (sv_mu s)])), (h4, .inl ((TY D)[0].1, 4, .inl (sv_se s))), (h1, .inl ((TY D)[0].1, 144, .inl (nf (sv_g s))))]) rfl rfl rfl ?_
  exact E 121 _ (nI (gsN s w 144)) _ dX8_way_121 ⟨rfl, rfl⟩

set_option maxHeartbeats 4000000 in
set_option maxRecDepth 100000 in
theorem kX8_way_7 (l : Launch) (D : va_G) (z : Nat × Nat × Nat) (b0 : Nat) (w0 : Nat) (c0 : Nat) (f0 : Nat) (m0 : Nat) (t0 : Nat) (n0 : Nat) (hs : Bool) (y0 : Nat) (c1 : Nat) (c2 : Nat) (pn : Nat) (w1 : Nat) (w2 : Nat) (w3 : Nat) (w4 : Nat) (h0 : Nat) (h1 : Nat) (h2 : Nat) (h3 : Nat) (h4 : Nat) (h5 : Nat) (s : SV) (w : Nat) (hw : w < 48) (hnc : sv_nc s ≤ 4) (hcc : ∀ j, j < sv_nc s → sv_cc s j < 12 ∧ sv_cr s j < 12) : CM l yX8_way wsX8_way ({ frames := 4, cells := 0, slots := 0, locals := 94 } : Room) D z [.ref b0, .int (nI w), .int (nI 7)] [(b0, .inr (8, [.ref w0, .ref h0, .ref c0, .ref f0, .ref m0, .ref t0, .ref y0, .ref n0, .int (bB hs)])), (c0, .inr (0, [.ref w0, .ref h0, .ref c1, .int (nI pn), .ref c2])), (w0, .inr (7, [.ref w1, .ref w2, .ref w3, .ref w4, .int (nI 48)])), (w1, .inl ((TY D)[0].1, 48, .inl (nf tM))), (w2, .inl ((TY D)[0].1, 48, .inl (nf tN))), (w3, .inl ((TY D)[0].1, 48, .inl (nf tS))), (w4, .inl ((TY D)[0].1, 84, .inl hT)), (h0, .inr (5, [.ref h1, .ref h2, .ref h3, .int (nI (sv_nc s)), .ref h4, .ref h5, .int (sv_la s), .int (sv_st s), .int (sv_sw s), .int (sv_fl s), .int (sv_sk s), .int (sv_mu s)])), (h2, .inl ((TY D)[0].1, 4, .inl (nf (sv_cc s)))), (h3, .inl ((TY D)[0].1, 4, .inl (nf (sv_cr s)))), (h4, .inl ((TY D)[0].1, 4, .inl (sv_se s)))] (fun r_ w_ => r_ = some (.int (bB (clB s w))) ∧ w_ = [(b0, .inr (8, [.ref w0, .ref h0, .ref c0, .ref f0, .ref m0, .ref t0, .ref y0, .ref n0, .int (bB hs)])), (c0, .inr (0, [.ref w0, .ref h0, .ref c1, .int (nI pn), .ref c2])), (w0, .inr (7, [.ref w1, .ref w2, .ref w3, .ref w4, .int (nI 48)])), (w1, .inl ((TY D)[0].1, 48, .inl (nf tM))), (w2, .inl ((TY D)[0].1, 48, .inl (nf tN))), (w3, .inl ((TY D)[0].1, 48, .inl (nf tS))), (w4, .inl ((TY D)[0].1, 84, .inl hT)), (h0, .inr (5, [.ref h1, .ref h2, .ref h3, .int (nI (sv_nc s)), .ref h4, .ref h5, .int (sv_la s), .int (sv_st s), .int (sv_sw s), .int (sv_fl s), .int (sv_sk s), .int (sv_mu s)])), (h2, .inl ((TY D)[0].1, 4, .inl (nf (sv_cc s)))), (h3, .inl ((TY D)[0].1, 4, .inl (nf (sv_cr s)))), (h4, .inl ((TY D)[0].1, 4, .inl (sv_se s)))]) 0 0 := by
  refine CM_int (own := RX8) (cc := cX8_way) (maxL := 3) (L0 := [(0, .ref b0), (1, .int (nI w)), (2, .int (nI 7))]) (by decide) rfl rfl (Nat.le_of_ble_eq_true rfl) rfl (fun X O E => ?_)
  refine g_iload_n O dX8_way_0 1 rfl rfl ?_
  refine g_callS (As := [.int (nI w)]) (wr := [(b0, .inr (8, [.ref w0, .ref h0, .ref c0, .ref f0, .ref m0, .ref t0, .ref y0, .ref n0, .int (bB hs)])), (c0, .inr (0, [.ref w0, .ref h0, .ref c1, .int (nI pn), .ref c2])), (w0, .inr (7, [.ref w1, .ref w2, .ref w3, .ref w4, .int (nI 48)])), (w1, .inl ((TY D)[0].1, 48, .inl (nf tM))), (w2, .inl ((TY D)[0].1, 48, .inl (nf tN))), (w3, .inl ((TY D)[0].1, 48, .inl (nf tS))), (w4, .inl ((TY D)[0].1, 84, .inl hT)), (h0, .inr (5, [.ref h1, .ref h2, .ref h3, .int (nI (sv_nc s)), .ref h4, .ref h5, .int (sv_la s), .int (sv_st s), .int (sv_sw s), .int (sv_fl s), .int (sv_sk s), .int (sv_mu s)])), (h2, .inl ((TY D)[0].1, 4, .inl (nf (sv_cc s)))), (h3, .inl ((TY D)[0].1, 4, .inl (nf (sv_cr s)))), (h4, .inl ((TY D)[0].1, 4, .inl (sv_se s)))]) O (kX8_isWay l D z (nI w) ) gX8_way_X8_isWay rfl rfl rfl 1 (by decide +kernel) (by decide) (by decide) [] [0, 1, 2, 3, 4, 5, 6, 7, 8, 9, 10] rfl (by decide) rfl (by decide) (by decide) rfl rfl (Nat.le_of_ble_eq_true rfl) dX8_way_1 (fun r_1 w_2 hp => ?_)
  obtain ⟨rfl, rfl⟩ := hp
  refine g_eq (st' := [.int (bB (rgB (nI w) 48))]) (ws' := [(b0, .inr (8, [.ref w0, .ref h0, .ref c0, .ref f0, .ref m0, .ref t0, .ref y0, .ref n0, .int (bB hs)])), (c0, .inr (0, [.ref w0, .ref h0, .ref c1, .int (nI pn), .ref c2])), (w0, .inr (7, [.ref w1, .ref w2, .ref w3, .ref w4, .int (nI 48)])), (w1, .inl ((TY D)[0].1, 48, .inl (nf tM))), (w2, .inl ((TY D)[0].1, 48, .inl (nf tN))), (w3, .inl ((TY D)[0].1, 48, .inl (nf tS))), (w4, .inl ((TY D)[0].1, 84, .inl hT)), (h0, .inr (5, [.ref h1, .ref h2, .ref h3, .int (nI (sv_nc s)), .ref h4, .ref h5, .int (sv_la s), .int (sv_st s), .int (sv_sw s), .int (sv_fl s), .int (sv_sk s), .int (sv_mu s)])), (h2, .inl ((TY D)[0].1, 4, .inl (nf (sv_cc s)))), (h3, .inl ((TY D)[0].1, 4, .inl (nf (sv_cr s)))), (h4, .inl ((TY D)[0].1, 4, .inl (sv_se s)))]) rfl rfl rfl ?_
  refine g_if_neB (tgt := 9) O dX8_way_4 (by decide) (fun c_3 => ?_) (fun c_3 => absurd c_3 (by rw [rgB_t hw (by decide)]; decide))
  refine g_iload_n O dX8_way_9 2 rfl rfl ?_
  refine g_tableIn (off := 112) (tgt := 122) O dX8_way_10 (by decide +kernel) (by decide +kernel) (by decide +kernel) (by decide) ?_
  refine g_aload_n O dX8_way_122 0 rfl rfl ?_
  refine g_get O hiX8_way_X8 0 rfl rfl 2 (by decide) (by decide +kernel) rfl dX8_way_123 ?_
  refine g_iload_n O dX8_way_126 1 rfl rfl ?_
  refine g_callV (As := [.int (nI w)]) (wr := [(b0, .inr (8, [.ref w0, .ref h0, .ref c0, .ref f0, .ref m0, .ref t0, .ref y0, .ref n0, .int (bB hs)]))]) O (kX0_clampsAllow l D z c0 c1 c2 pn w0 w1 w2 w3 w4 h0 h1 h2 h3 h4 h5 s w (by first | assumption | omega) (by first | assumption | omega) (by first | assumption | omega)) gX8_way_X0_clampsAllow rfl rfl rfl 1 (by decide +kernel) (by decide) (by decide) (q0 := 0) rfl rfl rfl [1, 2, 3, 4, 5, 6, 7, 8, 9, 10] [0] rfl (by decide) rfl (by decide) (by decide) rfl rfl (Nat.le_of_ble_eq_true rfl) dX8_way_127 (fun r_4 w_5 hp => ?_)
  obtain ⟨rfl, rfl⟩ := hp
  refine g_eq (st' := [.int (bB (clB s w))]) (ws' := [(b0, .inr (8, [.ref w0, .ref h0, .ref c0, .ref f0, .ref m0, .ref t0, .ref y0, .ref n0, .int (bB hs)])), (c0, .inr (0, [.ref w0, .ref h0, .ref c1, .int (nI pn), .ref c2])), (w0, .inr (7, [.ref w1, .ref w2, .ref w3, .ref w4, .int (nI 48)])), (w1, .inl ((TY D)[0].1, 48, .inl (nf tM))), (w2, .inl ((TY D)[0].1, 48, .inl (nf tN))), (w3, .inl ((TY D)[0].1, 48, .inl (nf tS))), (w4, .inl ((TY D)[0].1, 84, .inl hT)), (h0, .inr (5, [.ref h1, .ref h2, .ref h3, .int (nI (sv_nc s)), .ref h4, .ref h5, .int (sv_la s), .int (sv_st s), .int (sv_sw s), .int (sv_fl s), .int (sv_sk s), .int (sv_mu s)])), (h2, .inl ((TY D)[0].1, 4, .inl (nf (sv_cc s)))), (h3, .inl ((TY D)[0].1, 4, .inl (nf (sv_cr s)))), (h4, .inl ((TY D)[0].1, 4, .inl (sv_se s)))]) rfl rfl rfl ?_
  refine g_callS (As := [.int (bB (clB s w))]) (wr := [(b0, .inr (8, [.ref w0, .ref h0, .ref c0, .ref f0, .ref m0, .ref t0, .ref y0, .ref n0, .int (bB hs)])), (c0, .inr (0, [.ref w0, .ref h0, .ref c1, .int (nI pn), .ref c2])), (w0, .inr (7, [.ref w1, .ref w2, .ref w3, .ref w4, .int (nI 48)])), (w1, .inl ((TY D)[0].1, 48, .inl (nf tM))), (w2, .inl ((TY D)[0].1, 48, .inl (nf tN))), (w3, .inl ((TY D)[0].1, 48, .inl (nf tS))), (w4, .inl ((TY D)[0].1, 84, .inl hT)), (h0, .inr (5, [.ref h1, .ref h2, .ref h3, .int (nI (sv_nc s)), .ref h4, .ref h5, .int (sv_la s), .int (sv_st s), .int (sv_sw s), .int (sv_fl s), .int (sv_sk s), .int (sv_mu s)])), (h2, .inl ((TY D)[0].1, 4, .inl (nf (sv_cc s)))), (h3, .inl ((TY D)[0].1, 4, .inl (nf (sv_cr s)))), (h4, .inl ((TY D)[0].1, 4, .inl (sv_se s)))]) O (kX8_asNumber l D z (clB s w) ) gX8_way_X8_asNumber rfl rfl rfl 1 (by decide +kernel) (by decide) (by decide) [] [0, 1, 2, 3, 4, 5, 6, 7, 8, 9, 10] rfl (by decide) rfl (by decide) (by decide) rfl rfl (Nat.le_of_ble_eq_true rfl) dX8_way_130 (fun r_6 w_7 hp => ?_)
  obtain ⟨rfl, rfl⟩ := hp
  refine g_eq (st' := [.int (bB (clB s w))]) (ws' := [(b0, .inr (8, [.ref w0, .ref h0, .ref c0, .ref f0, .ref m0, .ref t0, .ref y0, .ref n0, .int (bB hs)])), (c0, .inr (0, [.ref w0, .ref h0, .ref c1, .int (nI pn), .ref c2])), (w0, .inr (7, [.ref w1, .ref w2, .ref w3, .ref w4, .int (nI 48)])), (w1, .inl ((TY D)[0].1, 48, .inl (nf tM))), (w2, .inl ((TY D)[0].1, 48, .inl (nf tN))), (w3, .inl ((TY D)[0].1, 48, .inl (nf tS))), (w4, .inl ((TY D)[0].1, 84, .inl hT)), (h0, .inr (5, [.ref h1, .ref h2, .ref h3, .int (nI (sv_nc s)), .ref h4, .ref h5, .int (sv_la s), .int (sv_st s), .int (sv_sw s), .int (sv_fl s), .int (sv_sk s), .int (sv_mu s)])), (h2, .inl ((TY D)[0].1, 4, .inl (nf (sv_cc s)))), (h3, .inl ((TY D)[0].1, 4, .inl (nf (sv_cr s)))), (h4, .inl ((TY D)[0].1, 4, .inl (sv_se s)))]) rfl rfl rfl ?_
  exact E 133 _ (bB (clB s w)) _ dX8_way_133 ⟨rfl, rfl⟩

set_option maxHeartbeats 4000000 in
set_option maxRecDepth 100000 in
theorem kX8_swing_b1 (l : Launch) (D : va_G) (z : Nat × Nat × Nat) (b0 : Nat) (w0 : Nat) (c0 : Nat) (f0 : Nat) (m0 : Nat) (t0 : Nat) (n0 : Nat) (hs : Bool) (y0 : Nat) (h0 : Nat) (w : Int32) (x : Int32) (y : Int32) (hb : rgB w 48 = false) : CM l yX8_swing wsX8_swing ({ frames := 2, cells := 0, slots := 0, locals := 48 } : Room) D z [.ref b0, .int w, .int x, .int y] [(b0, .inr (8, [.ref w0, .ref h0, .ref c0, .ref f0, .ref m0, .ref t0, .ref y0, .ref n0, .int (bB hs)]))] (fun r_ w_ => r_ = some (.int (-1)) ∧ w_ = [(b0, .inr (8, [.ref w0, .ref h0, .ref c0, .ref f0, .ref m0, .ref t0, .ref y0, .ref n0, .int (bB hs)]))]) 0 0 := by
  refine CM_int (own := RX8) (cc := cX8_swing) (maxL := 4) (L0 := [(0, .ref b0), (1, .int w), (2, .int x), (3, .int y)]) (by decide) rfl rfl (Nat.le_of_ble_eq_true rfl) rfl (fun X O E => ?_)
  refine g_iload_n O dX8_swing_0 1 rfl rfl ?_
  refine g_callS (As := [.int w]) (wr := [(b0, .inr (8, [.ref w0, .ref h0, .ref c0, .ref f0, .ref m0, .ref t0, .ref y0, .ref n0, .int (bB hs)]))]) O (kX8_isWay l D z w ) gX8_swing_X8_isWay rfl rfl rfl 1 (by decide +kernel) (by decide) (by decide) [] [0] rfl (by decide) rfl (by decide) (by decide) rfl rfl (Nat.le_of_ble_eq_true rfl) dX8_swing_1 (fun r_1 w_2 hp => ?_)
  obtain ⟨rfl, rfl⟩ := hp
  refine g_eq (st' := [.int (bB (rgB w 48))]) (ws' := [(b0, .inr (8, [.ref w0, .ref h0, .ref c0, .ref f0, .ref m0, .ref t0, .ref y0, .ref n0, .int (bB hs)]))]) rfl rfl rfl ?_
  refine g_if_eqB (tgt := 15) O dX8_swing_4 (by decide) (fun c_3 => ?_) (fun c_3 => absurd c_3 (by rw [hb]; decide))
  refine g_iconst (x := (-1)) O dX8_swing_15 (by decide +kernel) ?_
  exact E 16 _ (-1) _ dX8_swing_16 ⟨rfl, rfl⟩

set_option maxHeartbeats 4000000 in
set_option maxRecDepth 100000 in
theorem kX8_swing_b2 (l : Launch) (D : va_G) (z : Nat × Nat × Nat) (b0 : Nat) (w0 : Nat) (c0 : Nat) (f0 : Nat) (m0 : Nat) (t0 : Nat) (n0 : Nat) (hs : Bool) (y0 : Nat) (h0 : Nat) (w : Nat) (x : Int32) (y : Int32) (hw : w < 48) (hb : (rgB x 12 && rgB y 12) = false) : CM l yX8_swing wsX8_swing ({ frames := 2, cells := 0, slots := 0, locals := 48 } : Room) D z [.ref b0, .int (nI w), .int x, .int y] [(b0, .inr (8, [.ref w0, .ref h0, .ref c0, .ref f0, .ref m0, .ref t0, .ref y0, .ref n0, .int (bB hs)]))] (fun r_ w_ => r_ = some (.int (-1)) ∧ w_ = [(b0, .inr (8, [.ref w0, .ref h0, .ref c0, .ref f0, .ref m0, .ref t0, .ref y0, .ref n0, .int (bB hs)]))]) 0 0 := by
  refine CM_int (own := RX8) (cc := cX8_swing) (maxL := 4) (L0 := [(0, .ref b0), (1, .int (nI w)), (2, .int x), (3, .int y)]) (by decide) rfl rfl (Nat.le_of_ble_eq_true rfl) rfl (fun X O E => ?_)
  refine g_iload_n O dX8_swing_0 1 rfl rfl ?_
  refine g_callS (As := [.int (nI w)]) (wr := [(b0, .inr (8, [.ref w0, .ref h0, .ref c0, .ref f0, .ref m0, .ref t0, .ref y0, .ref n0, .int (bB hs)]))]) O (kX8_isWay l D z (nI w) ) gX8_swing_X8_isWay rfl rfl rfl 1 (by decide +kernel) (by decide) (by decide) [] [0] rfl (by decide) rfl (by decide) (by decide) rfl rfl (Nat.le_of_ble_eq_true rfl) dX8_swing_1 (fun r_1 w_2 hp => ?_)
  obtain ⟨rfl, rfl⟩ := hp
  refine g_eq (st' := [.int (bB (rgB (nI w) 48))]) (ws' := [(b0, .inr (8, [.ref w0, .ref h0, .ref c0, .ref f0, .ref m0, .ref t0, .ref y0, .ref n0, .int (bB hs)]))]) rfl rfl rfl ?_
  refine g_if_eqB (tgt := 15) O dX8_swing_4 (by decide) (fun c_3 => absurd c_3 (by rw [rgB_t hw (by decide)]; decide)) (fun c_3 => ?_)
  refine g_iload_n O dX8_swing_7 2 rfl rfl ?_
  refine g_iload_n O dX8_swing_8 3 rfl rfl ?_
  refine g_callS (As := [.int x, .int y]) (wr := [(b0, .inr (8, [.ref w0, .ref h0, .ref c0, .ref f0, .ref m0, .ref t0, .ref y0, .ref n0, .int (bB hs)]))]) O (kX8_isPlace l D z x y ) gX8_swing_X8_isPlace rfl rfl rfl 2 (by decide +kernel) (by decide) (by decide) [] [0] rfl (by decide) rfl (by decide) (by decide) rfl rfl (Nat.le_of_ble_eq_true rfl) dX8_swing_9 (fun r_4 w_5 hp => ?_)
  obtain ⟨rfl, rfl⟩ := hp
  refine g_eq (st' := [.int (bB (rgB x 12 && rgB y 12))]) (ws' := [(b0, .inr (8, [.ref w0, .ref h0, .ref c0, .ref f0, .ref m0, .ref t0, .ref y0, .ref n0, .int (bB hs)]))]) rfl rfl rfl ?_
  refine g_if_neB (tgt := 17) O dX8_swing_12 (by decide) (fun c_6 => absurd c_6 (by rw [hb]; decide)) (fun c_6 => ?_)
  refine g_iconst (x := (-1)) O dX8_swing_15 (by decide +kernel) ?_
  exact E 16 _ (-1) _ dX8_swing_16 ⟨rfl, rfl⟩

theorem hiX8_swing_X8 : ∀ w ∈ wsX80, w ∈ wsX8_swing := by decide +kernel
set_option maxHeartbeats 4000000 in
set_option maxRecDepth 100000 in
theorem kX8_swing_ok (l : Launch) (D : va_G) (z : Nat × Nat × Nat) (b0 : Nat) (w0 : Nat) (c0 : Nat) (f0 : Nat) (m0 : Nat) (t0 : Nat) (n0 : Nat) (hs : Bool) (y0 : Nat) (h0 : Nat) (w1 : Nat) (w2 : Nat) (w3 : Nat) (w4 : Nat) (w : Nat) (x : Nat) (y : Nat) (hw : w < 48) (hx : x < 12) (hy : y < 12) : CM l yX8_swing wsX8_swing ({ frames := 2, cells := 0, slots := 0, locals := 48 } : Room) D z [.ref b0, .int (nI w), .int (nI x), .int (nI y)] [(b0, .inr (8, [.ref w0, .ref h0, .ref c0, .ref f0, .ref m0, .ref t0, .ref y0, .ref n0, .int (bB hs)])), (w0, .inr (7, [.ref w1, .ref w2, .ref w3, .ref w4, .int (nI 48)])), (w1, .inl ((TY D)[0].1, 48, .inl (nf tM))), (w2, .inl ((TY D)[0].1, 48, .inl (nf tN))), (w3, .inl ((TY D)[0].1, 48, .inl (nf tS))), (w4, .inl ((TY D)[0].1, 84, .inl hT))] (fun r_ w_ => r_ = some (.int (SW w (12 * y + x))) ∧ w_ = [(b0, .inr (8, [.ref w0, .ref h0, .ref c0, .ref f0, .ref m0, .ref t0, .ref y0, .ref n0, .int (bB hs)])), (w0, .inr (7, [.ref w1, .ref w2, .ref w3, .ref w4, .int (nI 48)])), (w1, .inl ((TY D)[0].1, 48, .inl (nf tM))), (w2, .inl ((TY D)[0].1, 48, .inl (nf tN))), (w3, .inl ((TY D)[0].1, 48, .inl (nf tS))), (w4, .inl ((TY D)[0].1, 84, .inl hT))]) 0 0 := by
  refine CM_int (own := RX8) (cc := cX8_swing) (maxL := 4) (L0 := [(0, .ref b0), (1, .int (nI w)), (2, .int (nI x)), (3, .int (nI y))]) (by decide) rfl rfl (Nat.le_of_ble_eq_true rfl) rfl (fun X O E => ?_)
  refine g_iload_n O dX8_swing_0 1 rfl rfl ?_
  refine g_callS (As := [.int (nI w)]) (wr := [(b0, .inr (8, [.ref w0, .ref h0, .ref c0, .ref f0, .ref m0, .ref t0, .ref y0, .ref n0, .int (bB hs)])), (w0, .inr (7, [.ref w1, .ref w2, .ref w3, .ref w4, .int (nI 48)])), (w1, .inl ((TY D)[0].1, 48, .inl (nf tM))), (w2, .inl ((TY D)[0].1, 48, .inl (nf tN))), (w3, .inl ((TY D)[0].1, 48, .inl (nf tS))), (w4, .inl ((TY D)[0].1, 84, .inl hT))]) O (kX8_isWay l D z (nI w) ) gX8_swing_X8_isWay rfl rfl rfl 1 (by decide +kernel) (by decide) (by decide) [] [0, 1, 2, 3, 4, 5] rfl (by decide) rfl (by decide) (by decide) rfl rfl (Nat.le_of_ble_eq_true rfl) dX8_swing_1 (fun r_1 w_2 hp => ?_)
  obtain ⟨rfl, rfl⟩ := hp
  refine g_eq (st' := [.int (bB (rgB (nI w) 48))]) (ws' := [(b0, .inr (8, [.ref w0, .ref h0, .ref c0, .ref f0, .ref m0, .ref t0, .ref y0, .ref n0, .int (bB hs)])), (w0, .inr (7, [.ref w1, .ref w2, .ref w3, .ref w4, .int (nI 48)])), (w1, .inl ((TY D)[0].1, 48, .inl (nf tM))), (w2, .inl ((TY D)[0].1, 48, .inl (nf tN))), (w3, .inl ((TY D)[0].1, 48, .inl (nf tS))), (w4, .inl ((TY D)[0].1, 84, .inl hT))]) rfl rfl rfl ?_
  refine g_if_eqB (tgt := 15) O dX8_swing_4 (by decide) (fun c_3 => absurd c_3 (by rw [rgB_t hw (by decide)]; decide)) (fun c_3 => ?_)
  refine g_iload_n O dX8_swing_7 2 rfl rfl ?_
  refine g_iload_n O dX8_swing_8 3 rfl rfl ?_
  refine g_callS (As := [.int (nI x), .int (nI y)]) (wr := [(b0, .inr (8, [.ref w0, .ref h0, .ref c0, .ref f0, .ref m0, .ref t0, .ref y0, .ref n0, .int (bB hs)])), (w0, .inr (7, [.ref w1, .ref w2, .ref w3, .ref w4, .int (nI 48)])), (w1, .inl ((TY D)[0].1, 48, .inl (nf tM))), (w2, .inl ((TY D)[0].1, 48, .inl (nf tN))), (w3, .inl ((TY D)[0].1, 48, .inl (nf tS))), (w4, .inl ((TY D)[0].1, 84, .inl hT))]) O (kX8_isPlace l D z (nI x) (nI y) ) gX8_swing_X8_isPlace rfl rfl rfl 2 (by decide +kernel) (by decide) (by decide) [] [0, 1, 2, 3, 4, 5] rfl (by decide) rfl (by decide) (by decide) rfl rfl (Nat.le_of_ble_eq_true rfl) dX8_swing_9 (fun r_4 w_5 hp => ?_)
  obtain ⟨rfl, rfl⟩ := hp
  refine g_eq (st' := [.int (bB (rgB (nI x) 12 && rgB (nI y) 12))]) (ws' := [(b0, .inr (8, [.ref w0, .ref h0, .ref c0, .ref f0, .ref m0, .ref t0, .ref y0, .ref n0, .int (bB hs)])), (w0, .inr (7, [.ref w1, .ref w2, .ref w3, .ref w4, .int (nI 48)])), (w1, .inl ((TY D)[0].1, 48, .inl (nf tM))), (w2, .inl ((TY D)[0].1, 48, .inl (nf tN))), (w3, .inl ((TY D)[0].1, 48, .inl (nf tS))), (w4, .inl ((TY D)[0].1, 84, .inl hT))]) rfl rfl rfl ?_
  refine g_if_neB (tgt := 17) O dX8_swing_12 (by decide) (fun c_6 => ?_) (fun c_6 => absurd c_6 (by rw [rgB_t hx (by decide), rgB_t hy (by decide)]; decide))
  refine g_aload_n O dX8_swing_17 0 rfl rfl ?_
  refine g_get O hiX8_swing_X8 0 rfl rfl 0 (by decide) (by decide +kernel) rfl dX8_swing_18 ?_
  refine g_iload_n O dX8_swing_21 1 rfl rfl ?_
  refine g_iload_n O dX8_swing_22 2 rfl rfl ?_
  refine g_iload_n O dX8_swing_23 3 rfl rfl ?_
  refine g_callV (As := [.int (nI w), .int (nI x), .int (nI y)]) (wr := [(b0, .inr (8, [.ref w0, .ref h0, .ref c0, .ref f0, .ref m0, .ref t0, .ref y0, .ref n0, .int (bB hs)]))]) O (kX7_swingAt l D z w0 w1 w2 w3 w4 w x y (by first | assumption | omega) (by first | assumption | omega) (by first | assumption | omega)) gX8_swing_X7_swingAt rfl rfl rfl 3 (by decide +kernel) (by decide) (by decide) (q0 := 0) rfl rfl rfl [1, 2, 3, 4, 5] [0] rfl (by decide) rfl (by decide) (by decide) rfl rfl (Nat.le_of_ble_eq_true rfl) dX8_swing_24 (fun r_7 w_8 hp => ?_)
  obtain ⟨rfl, rfl⟩ := hp
  refine g_eq (st' := [.int (SW w (12 * y + x))]) (ws' := [(b0, .inr (8, [.ref w0, .ref h0, .ref c0, .ref f0, .ref m0, .ref t0, .ref y0, .ref n0, .int (bB hs)])), (w0, .inr (7, [.ref w1, .ref w2, .ref w3, .ref w4, .int (nI 48)])), (w1, .inl ((TY D)[0].1, 48, .inl (nf tM))), (w2, .inl ((TY D)[0].1, 48, .inl (nf tN))), (w3, .inl ((TY D)[0].1, 48, .inl (nf tS))), (w4, .inl ((TY D)[0].1, 84, .inl hT))]) rfl rfl rfl ?_
  exact E 27 _ (SW w (12 * y + x)) _ dX8_swing_27 ⟨rfl, rfl⟩

set_option maxHeartbeats 4000000 in
set_option maxRecDepth 100000 in
theorem kX8_sounds_b1 (l : Launch) (D : va_G) (z : Nat × Nat × Nat) (b0 : Nat) (w0 : Nat) (c0 : Nat) (f0 : Nat) (m0 : Nat) (t0 : Nat) (n0 : Nat) (hs : Bool) (y0 : Nat) (h0 : Nat) (x : Int32) (y : Int32) (hb : (rgB x 4 && rgB y 12) = false) : CM l yX8_sounds wsX8_sounds ({ frames := 5, cells := 0, slots := 0, locals := 117 } : Room) D z [.ref b0, .int x, .int y] [(b0, .inr (8, [.ref w0, .ref h0, .ref c0, .ref f0, .ref m0, .ref t0, .ref y0, .ref n0, .int (bB hs)]))] (fun r_ w_ => r_ = some (.int (-1)) ∧ w_ = [(b0, .inr (8, [.ref w0, .ref h0, .ref c0, .ref f0, .ref m0, .ref t0, .ref y0, .ref n0, .int (bB hs)]))]) 0 0 := by
  refine CM_int (own := RX8) (cc := cX8_sounds) (maxL := 3) (L0 := [(0, .ref b0), (1, .int x), (2, .int y)]) (by decide) rfl rfl (Nat.le_of_ble_eq_true rfl) rfl (fun X O E => ?_)
  refine g_iload_n O dX8_sounds_0 1 rfl rfl ?_
  refine g_iload_n O dX8_sounds_1 2 rfl rfl ?_
  refine g_callS (As := [.int x, .int y]) (wr := [(b0, .inr (8, [.ref w0, .ref h0, .ref c0, .ref f0, .ref m0, .ref t0, .ref y0, .ref n0, .int (bB hs)]))]) O (kX8_isBow l D z x y ) gX8_sounds_X8_isBow rfl rfl rfl 2 (by decide +kernel) (by decide) (by decide) [] [0] rfl (by decide) rfl (by decide) (by decide) rfl rfl (Nat.le_of_ble_eq_true rfl) dX8_sounds_2 (fun r_1 w_2 hp => ?_)
  obtain ⟨rfl, rfl⟩ := hp
  refine g_eq (st' := [.int (bB (rgB x 4 && rgB y 12))]) (ws' := [(b0, .inr (8, [.ref w0, .ref h0, .ref c0, .ref f0, .ref m0, .ref t0, .ref y0, .ref n0, .int (bB hs)]))]) rfl rfl rfl ?_
  refine g_if_neB (tgt := 10) O dX8_sounds_5 (by decide) (fun c_3 => absurd c_3 (by rw [hb]; decide)) (fun c_3 => ?_)
  refine g_iconst (x := (-1)) O dX8_sounds_8 (by decide +kernel) ?_
  exact E 9 _ (-1) _ dX8_sounds_9 ⟨rfl, rfl⟩

theorem hiX8_sounds_X8 : ∀ w ∈ wsX80, w ∈ wsX8_sounds := by decide +kernel
set_option maxHeartbeats 4000000 in
set_option maxRecDepth 100000 in
theorem kX8_sounds_ok (l : Launch) (D : va_G) (z : Nat × Nat × Nat) (b0 : Nat) (w0 : Nat) (c0 : Nat) (f0 : Nat) (m0 : Nat) (t0 : Nat) (n0 : Nat) (hs : Bool) (y0 : Nat) (c1 : Nat) (c2 : Nat) (pn : Nat) (w1 : Nat) (w2 : Nat) (w3 : Nat) (w4 : Nat) (h0 : Nat) (h1 : Nat) (h2 : Nat) (h3 : Nat) (h4 : Nat) (h5 : Nat) (s : SV) (x : Nat) (y : Nat) (hx : x < 4) (hy : y < 12) (hnc : sv_nc s ≤ 4) (hcc : ∀ j, j < sv_nc s → sv_cc s j < 12 ∧ sv_cr s j < 12) : CM l yX8_sounds wsX8_sounds ({ frames := 5, cells := 0, slots := 0, locals := 117 } : Room) D z [.ref b0, .int (nI x), .int (nI y)] [(b0, .inr (8, [.ref w0, .ref h0, .ref c0, .ref f0, .ref m0, .ref t0, .ref y0, .ref n0, .int (bB hs)])), (c0, .inr (0, [.ref w0, .ref h0, .ref c1, .int (nI pn), .ref c2])), (w0, .inr (7, [.ref w1, .ref w2, .ref w3, .ref w4, .int (nI 48)])), (w1, .inl ((TY D)[0].1, 48, .inl (nf tM))), (w2, .inl ((TY D)[0].1, 48, .inl (nf tN))), (w3, .inl ((TY D)[0].1, 48, .inl (nf tS))), (w4, .inl ((TY D)[0].1, 84, .inl hT)), (h0, .inr (5, [.ref h1, .ref h2, .ref h3, .int (nI (sv_nc s)), .ref h4, .ref h5, .int (sv_la s), .int (sv_st s), .int (sv_sw s), .int (sv_fl s), .int (sv_sk s), .int (sv_mu s)])), (h2, .inl ((TY D)[0].1, 4, .inl (nf (sv_cc s)))), (h3, .inl ((TY D)[0].1, 4, .inl (nf (sv_cr s)))), (h4, .inl ((TY D)[0].1, 4, .inl (sv_se s)))] (fun r_ w_ => r_ = some (.int (laM (orM (wyO s (bpN x y))))) ∧ w_ = [(b0, .inr (8, [.ref w0, .ref h0, .ref c0, .ref f0, .ref m0, .ref t0, .ref y0, .ref n0, .int (bB hs)])), (c0, .inr (0, [.ref w0, .ref h0, .ref c1, .int (nI pn), .ref c2])), (w0, .inr (7, [.ref w1, .ref w2, .ref w3, .ref w4, .int (nI 48)])), (w1, .inl ((TY D)[0].1, 48, .inl (nf tM))), (w2, .inl ((TY D)[0].1, 48, .inl (nf tN))), (w3, .inl ((TY D)[0].1, 48, .inl (nf tS))), (w4, .inl ((TY D)[0].1, 84, .inl hT)), (h0, .inr (5, [.ref h1, .ref h2, .ref h3, .int (nI (sv_nc s)), .ref h4, .ref h5, .int (sv_la s), .int (sv_st s), .int (sv_sw s), .int (sv_fl s), .int (sv_sk s), .int (sv_mu s)])), (h2, .inl ((TY D)[0].1, 4, .inl (nf (sv_cc s)))), (h3, .inl ((TY D)[0].1, 4, .inl (nf (sv_cr s)))), (h4, .inl ((TY D)[0].1, 4, .inl (sv_se s)))]) 0 0 := by
  refine CM_int (own := RX8) (cc := cX8_sounds) (maxL := 3) (L0 := [(0, .ref b0), (1, .int (nI x)), (2, .int (nI y))]) (by decide) rfl rfl (Nat.le_of_ble_eq_true rfl) rfl (fun X O E => ?_)
  refine g_iload_n O dX8_sounds_0 1 rfl rfl ?_
  refine g_iload_n O dX8_sounds_1 2 rfl rfl ?_
  refine g_callS (As := [.int (nI x), .int (nI y)]) (wr := [(b0, .inr (8, [.ref w0, .ref h0, .ref c0, .ref f0, .ref m0, .ref t0, .ref y0, .ref n0, .int (bB hs)])), (c0, .inr (0, [.ref w0, .ref h0, .ref c1, .int (nI pn), .ref c2])), (w0, .inr (7, [.ref w1, .ref w2, .ref w3, .ref w4, .int (nI 48)])), (w1, .inl ((TY D)[0].1, 48, .inl (nf tM))), (w2, .inl ((TY D)[0].1, 48, .inl (nf tN))), (w3, .inl ((TY D)[0].1, 48, .inl (nf tS))), (w4, .inl ((TY D)[0].1, 84, .inl hT)), (h0, .inr (5, [.ref h1, .ref h2, .ref h3, .int (nI (sv_nc s)), .ref h4, .ref h5, .int (sv_la s), .int (sv_st s), .int (sv_sw s), .int (sv_fl s), .int (sv_sk s), .int (sv_mu s)])), (h2, .inl ((TY D)[0].1, 4, .inl (nf (sv_cc s)))), (h3, .inl ((TY D)[0].1, 4, .inl (nf (sv_cr s)))), (h4, .inl ((TY D)[0].1, 4, .inl (sv_se s)))]) O (kX8_isBow l D z (nI x) (nI y) ) gX8_sounds_X8_isBow rfl rfl rfl 2 (by decide +kernel) (by decide) (by decide) [] [0, 1, 2, 3, 4, 5, 6, 7, 8, 9, 10] rfl (by decide) rfl (by decide) (by decide) rfl rfl (Nat.le_of_ble_eq_true rfl) dX8_sounds_2 (fun r_1 w_2 hp => ?_)
  obtain ⟨rfl, rfl⟩ := hp
  refine g_eq (st' := [.int (bB (rgB (nI x) 4 && rgB (nI y) 12))]) (ws' := [(b0, .inr (8, [.ref w0, .ref h0, .ref c0, .ref f0, .ref m0, .ref t0, .ref y0, .ref n0, .int (bB hs)])), (c0, .inr (0, [.ref w0, .ref h0, .ref c1, .int (nI pn), .ref c2])), (w0, .inr (7, [.ref w1, .ref w2, .ref w3, .ref w4, .int (nI 48)])), (w1, .inl ((TY D)[0].1, 48, .inl (nf tM))), (w2, .inl ((TY D)[0].1, 48, .inl (nf tN))), (w3, .inl ((TY D)[0].1, 48, .inl (nf tS))), (w4, .inl ((TY D)[0].1, 84, .inl hT)), (h0, .inr (5, [.ref h1, .ref h2, .ref h3, .int (nI (sv_nc s)), .ref h4, .ref h5, .int (sv_la s), .int (sv_st s), .int (sv_sw s), .int (sv_fl s), .int (sv_sk s), .int (sv_mu s)])), (h2, .inl ((TY D)[0].1, 4, .inl (nf (sv_cc s)))), (h3, .inl ((TY D)[0].1, 4, .inl (nf (sv_cr s)))), (h4, .inl ((TY D)[0].1, 4, .inl (sv_se s)))]) rfl rfl rfl ?_
  refine g_if_neB (tgt := 10) O dX8_sounds_5 (by decide) (fun c_3 => ?_) (fun c_3 => absurd c_3 (by rw [rgB_t hx (by decide), rgB_t hy (by decide)]; decide))
  refine g_aload_n O dX8_sounds_10 0 rfl rfl ?_
  refine g_get O hiX8_sounds_X8 0 rfl rfl 2 (by decide) (by decide +kernel) rfl dX8_sounds_11 ?_
  refine g_iload_n O dX8_sounds_14 1 rfl rfl ?_
  refine g_iload_n O dX8_sounds_15 2 rfl rfl ?_
  refine g_callV (As := [.int (nI x), .int (nI y)]) (wr := [(b0, .inr (8, [.ref w0, .ref h0, .ref c0, .ref f0, .ref m0, .ref t0, .ref y0, .ref n0, .int (bB hs)]))]) O (kX0_wayFor l D z c0 c1 c2 pn w0 w1 w2 w3 w4 h0 h1 h2 h3 h4 h5 s x y (by first | assumption | omega) (by first | assumption | omega) (by first | assumption | omega) (by first | assumption | omega)) gX8_sounds_X0_wayFor rfl rfl rfl 2 (by decide +kernel) (by decide) (by decide) (q0 := 0) rfl rfl rfl [1, 2, 3, 4, 5, 6, 7, 8, 9, 10] [0] rfl (by decide) rfl (by decide) (by decide) rfl rfl (Nat.le_of_ble_eq_true rfl) dX8_sounds_16 (fun r_4 w_5 hp => ?_)
  obtain ⟨rfl, rfl⟩ := hp
  refine g_eq (st' := [.int (orM (wyO s (bpN x y)))]) (ws' := [(b0, .inr (8, [.ref w0, .ref h0, .ref c0, .ref f0, .ref m0, .ref t0, .ref y0, .ref n0, .int (bB hs)])), (c0, .inr (0, [.ref w0, .ref h0, .ref c1, .int (nI pn), .ref c2])), (w0, .inr (7, [.ref w1, .ref w2, .ref w3, .ref w4, .int (nI 48)])), (w1, .inl ((TY D)[0].1, 48, .inl (nf tM))), (w2, .inl ((TY D)[0].1, 48, .inl (nf tN))), (w3, .inl ((TY D)[0].1, 48, .inl (nf tS))), (w4, .inl ((TY D)[0].1, 84, .inl hT)), (h0, .inr (5, [.ref h1, .ref h2, .ref h3, .int (nI (sv_nc s)), .ref h4, .ref h5, .int (sv_la s), .int (sv_st s), .int (sv_sw s), .int (sv_fl s), .int (sv_sk s), .int (sv_mu s)])), (h2, .inl ((TY D)[0].1, 4, .inl (nf (sv_cc s)))), (h3, .inl ((TY D)[0].1, 4, .inl (nf (sv_cr s)))), (h4, .inl ((TY D)[0].1, 4, .inl (sv_se s)))]) rfl rfl rfl ?_
  refine g_callS (As := [.int (orM (wyO s (bpN x y)))]) (wr := [(b0, .inr (8, [.ref w0, .ref h0, .ref c0, .ref f0, .ref m0, .ref t0, .ref y0, .ref n0, .int (bB hs)])), (c0, .inr (0, [.ref w0, .ref h0, .ref c1, .int (nI pn), .ref c2])), (w0, .inr (7, [.ref w1, .ref w2, .ref w3, .ref w4, .int (nI 48)])), (w1, .inl ((TY D)[0].1, 48, .inl (nf tM))), (w2, .inl ((TY D)[0].1, 48, .inl (nf tN))), (w3, .inl ((TY D)[0].1, 48, .inl (nf tS))), (w4, .inl ((TY D)[0].1, 84, .inl hT)), (h0, .inr (5, [.ref h1, .ref h2, .ref h3, .int (nI (sv_nc s)), .ref h4, .ref h5, .int (sv_la s), .int (sv_st s), .int (sv_sw s), .int (sv_fl s), .int (sv_sk s), .int (sv_mu s)])), (h2, .inl ((TY D)[0].1, 4, .inl (nf (sv_cc s)))), (h3, .inl ((TY D)[0].1, 4, .inl (nf (sv_cr s)))), (h4, .inl ((TY D)[0].1, 4, .inl (sv_se s)))]) O (kX8_orNone l D z (orM (wyO s (bpN x y))) ) gX8_sounds_X8_orNone rfl rfl rfl 1 (by decide +kernel) (by decide) (by decide) [] [0, 1, 2, 3, 4, 5, 6, 7, 8, 9, 10] rfl (by decide) rfl (by decide) (by decide) rfl rfl (Nat.le_of_ble_eq_true rfl) dX8_sounds_19 (fun r_6 w_7 hp => ?_)
  obtain ⟨rfl, rfl⟩ := hp
  refine g_eq (st' := [.int (laM (orM (wyO s (bpN x y))))]) (ws' := [(b0, .inr (8, [.ref w0, .ref h0, .ref c0, .ref f0, .ref m0, .ref t0, .ref y0, .ref n0, .int (bB hs)])), (c0, .inr (0, [.ref w0, .ref h0, .ref c1, .int (nI pn), .ref c2])), (w0, .inr (7, [.ref w1, .ref w2, .ref w3, .ref w4, .int (nI 48)])), (w1, .inl ((TY D)[0].1, 48, .inl (nf tM))), (w2, .inl ((TY D)[0].1, 48, .inl (nf tN))), (w3, .inl ((TY D)[0].1, 48, .inl (nf tS))), (w4, .inl ((TY D)[0].1, 84, .inl hT)), (h0, .inr (5, [.ref h1, .ref h2, .ref h3, .int (nI (sv_nc s)), .ref h4, .ref h5, .int (sv_la s), .int (sv_st s), .int (sv_sw s), .int (sv_fl s), .int (sv_sk s), .int (sv_mu s)])), (h2, .inl ((TY D)[0].1, 4, .inl (nf (sv_cc s)))), (h3, .inl ((TY D)[0].1, 4, .inl (nf (sv_cr s)))), (h4, .inl ((TY D)[0].1, 4, .inl (sv_se s)))]) rfl rfl rfl ?_
  exact E 22 _ (laM (orM (wyO s (bpN x y)))) _ dX8_sounds_22 ⟨rfl, rfl⟩

set_option maxHeartbeats 4000000 in
set_option maxRecDepth 100000 in
theorem kX8_why_b1 (l : Launch) (D : va_G) (z : Nat × Nat × Nat) (b0 : Nat) (w0 : Nat) (c0 : Nat) (f0 : Nat) (m0 : Nat) (t0 : Nat) (n0 : Nat) (hs : Bool) (y0 : Nat) (h0 : Nat) (w : Int32) (x : Int32) (y : Int32) (hb : rgB w 48 = false) : CM l yX8_why wsX8_why ({ frames := 6, cells := 0, slots := 0, locals := 140 } : Room) D z [.ref b0, .int w, .int x, .int y] [(b0, .inr (8, [.ref w0, .ref h0, .ref c0, .ref f0, .ref m0, .ref t0, .ref y0, .ref n0, .int (bB hs)]))] (fun r_ w_ => r_ = some (.int (-1)) ∧ w_ = [(b0, .inr (8, [.ref w0, .ref h0, .ref c0, .ref f0, .ref m0, .ref t0, .ref y0, .ref n0, .int (bB hs)]))]) 0 0 := by
  refine CM_int (own := RX8) (cc := cX8_why) (maxL := 4) (L0 := [(0, .ref b0), (1, .int w), (2, .int x), (3, .int y)]) (by decide) rfl rfl (Nat.le_of_ble_eq_true rfl) rfl (fun X O E => ?_)
  refine g_iload_n O dX8_why_0 1 rfl rfl ?_
  refine g_callS (As := [.int w]) (wr := [(b0, .inr (8, [.ref w0, .ref h0, .ref c0, .ref f0, .ref m0, .ref t0, .ref y0, .ref n0, .int (bB hs)]))]) O (kX8_isWay l D z w ) gX8_why_X8_isWay rfl rfl rfl 1 (by decide +kernel) (by decide) (by decide) [] [0] rfl (by decide) rfl (by decide) (by decide) rfl rfl (Nat.le_of_ble_eq_true rfl) dX8_why_1 (fun r_1 w_2 hp => ?_)
  obtain ⟨rfl, rfl⟩ := hp
  refine g_eq (st' := [.int (bB (rgB w 48))]) (ws' := [(b0, .inr (8, [.ref w0, .ref h0, .ref c0, .ref f0, .ref m0, .ref t0, .ref y0, .ref n0, .int (bB hs)]))]) rfl rfl rfl ?_
  refine g_if_eqB (tgt := 15) O dX8_why_4 (by decide) (fun c_3 => ?_) (fun c_3 => absurd c_3 (by rw [hb]; decide))
  refine g_iconst (x := (-1)) O dX8_why_15 (by decide +kernel) ?_
  exact E 16 _ (-1) _ dX8_why_16 ⟨rfl, rfl⟩

set_option maxHeartbeats 4000000 in
set_option maxRecDepth 100000 in
theorem kX8_why_b2 (l : Launch) (D : va_G) (z : Nat × Nat × Nat) (b0 : Nat) (w0 : Nat) (c0 : Nat) (f0 : Nat) (m0 : Nat) (t0 : Nat) (n0 : Nat) (hs : Bool) (y0 : Nat) (h0 : Nat) (w : Nat) (x : Int32) (y : Int32) (hw : w < 48) (hb : (rgB x 4 && rgB y 12) = false) : CM l yX8_why wsX8_why ({ frames := 6, cells := 0, slots := 0, locals := 140 } : Room) D z [.ref b0, .int (nI w), .int x, .int y] [(b0, .inr (8, [.ref w0, .ref h0, .ref c0, .ref f0, .ref m0, .ref t0, .ref y0, .ref n0, .int (bB hs)]))] (fun r_ w_ => r_ = some (.int (-1)) ∧ w_ = [(b0, .inr (8, [.ref w0, .ref h0, .ref c0, .ref f0, .ref m0, .ref t0, .ref y0, .ref n0, .int (bB hs)]))]) 0 0 := by
  refine CM_int (own := RX8) (cc := cX8_why) (maxL := 4) (L0 := [(0, .ref b0), (1, .int (nI w)), (2, .int x), (3, .int y)]) (by decide) rfl rfl (Nat.le_of_ble_eq_true rfl) rfl (fun X O E => ?_)
  refine g_iload_n O dX8_why_0 1 rfl rfl ?_
  refine g_callS (As := [.int (nI w)]) (wr := [(b0, .inr (8, [.ref w0, .ref h0, .ref c0, .ref f0, .ref m0, .ref t0, .ref y0, .ref n0, .int (bB hs)]))]) O (kX8_isWay l D z (nI w) ) gX8_why_X8_isWay rfl rfl rfl 1 (by decide +kernel) (by decide) (by decide) [] [0] rfl (by decide) rfl (by decide) (by decide) rfl rfl (Nat.le_of_ble_eq_true rfl) dX8_why_1 (fun r_1 w_2 hp => ?_)
  obtain ⟨rfl, rfl⟩ := hp
  refine g_eq (st' := [.int (bB (rgB (nI w) 48))]) (ws' := [(b0, .inr (8, [.ref w0, .ref h0, .ref c0, .ref f0, .ref m0, .ref t0, .ref y0, .ref n0, .int (bB hs)]))]) rfl rfl rfl ?_
  refine g_if_eqB (tgt := 15) O dX8_why_4 (by decide) (fun c_3 => absurd c_3 (by rw [rgB_t hw (by decide)]; decide)) (fun c_3 => ?_)
  refine g_iload_n O dX8_why_7 2 rfl rfl ?_
  refine g_iload_n O dX8_why_8 3 rfl rfl ?_
  refine g_callS (As := [.int x, .int y]) (wr := [(b0, .inr (8, [.ref w0, .ref h0, .ref c0, .ref f0, .ref m0, .ref t0, .ref y0, .ref n0, .int (bB hs)]))]) O (kX8_isBow l D z x y ) gX8_why_X8_isBow rfl rfl rfl 2 (by decide +kernel) (by decide) (by decide) [] [0] rfl (by decide) rfl (by decide) (by decide) rfl rfl (Nat.le_of_ble_eq_true rfl) dX8_why_9 (fun r_4 w_5 hp => ?_)
  obtain ⟨rfl, rfl⟩ := hp
  refine g_eq (st' := [.int (bB (rgB x 4 && rgB y 12))]) (ws' := [(b0, .inr (8, [.ref w0, .ref h0, .ref c0, .ref f0, .ref m0, .ref t0, .ref y0, .ref n0, .int (bB hs)]))]) rfl rfl rfl ?_
  refine g_if_neB (tgt := 17) O dX8_why_12 (by decide) (fun c_6 => absurd c_6 (by rw [hb]; decide)) (fun c_6 => ?_)
  refine g_iconst (x := (-1)) O dX8_why_15 (by decide +kernel) ?_
  exact E 16 _ (-1) _ dX8_why_16 ⟨rfl, rfl⟩

theorem hiX8_why_X8 : ∀ w ∈ wsX80, w ∈ wsX8_why := by decide +kernel
set_option maxHeartbeats 4000000 in
set_option maxRecDepth 100000 in
theorem kX8_why_ok (l : Launch) (D : va_G) (z : Nat × Nat × Nat) (b0 : Nat) (w0 : Nat) (c0 : Nat) (f0 : Nat) (m0 : Nat) (t0 : Nat) (n0 : Nat) (hs : Bool) (y0 : Nat) (c1 : Nat) (c2 : Nat) (pn : Nat) (w1 : Nat) (w2 : Nat) (w3 : Nat) (w4 : Nat) (h0 : Nat) (h1 : Nat) (h2 : Nat) (h3 : Nat) (h4 : Nat) (h5 : Nat) (s : SV) (w : Nat) (x : Nat) (y : Nat) (hw : w < 48) (hx : x < 4) (hy : y < 12) (hnc : sv_nc s ≤ 4) (hcc : ∀ j, j < sv_nc s → sv_cc s j < 12 ∧ sv_cr s j < 12) : CM l yX8_why wsX8_why ({ frames := 6, cells := 0, slots := 0, locals := 140 } : Room) D z [.ref b0, .int (nI w), .int (nI x), .int (nI y)] [(b0, .inr (8, [.ref w0, .ref h0, .ref c0, .ref f0, .ref m0, .ref t0, .ref y0, .ref n0, .int (bB hs)])), (c0, .inr (0, [.ref w0, .ref h0, .ref c1, .int (nI pn), .ref c2])), (w0, .inr (7, [.ref w1, .ref w2, .ref w3, .ref w4, .int (nI 48)])), (w1, .inl ((TY D)[0].1, 48, .inl (nf tM))), (w2, .inl ((TY D)[0].1, 48, .inl (nf tN))), (w3, .inl ((TY D)[0].1, 48, .inl (nf tS))), (w4, .inl ((TY D)[0].1, 84, .inl hT)), (h0, .inr (5, [.ref h1, .ref h2, .ref h3, .int (nI (sv_nc s)), .ref h4, .ref h5, .int (sv_la s), .int (sv_st s), .int (sv_sw s), .int (sv_fl s), .int (sv_sk s), .int (sv_mu s)])), (h2, .inl ((TY D)[0].1, 4, .inl (nf (sv_cc s)))), (h3, .inl ((TY D)[0].1, 4, .inl (nf (sv_cr s)))), (h4, .inl ((TY D)[0].1, 4, .inl (sv_se s)))] (fun r_ w_ => r_ = some (.int (nI (rsN s w (bpN x y)))) ∧ w_ = [(b0, .inr (8, [.ref w0, .ref h0, .ref c0, .ref f0, .ref m0, .ref t0, .ref y0, .ref n0, .int (bB hs)])), (c0, .inr (0, [.ref w0, .ref h0, .ref c1, .int (nI pn), .ref c2])), (w0, .inr (7, [.ref w1, .ref w2, .ref w3, .ref w4, .int (nI 48)])), (w1, .inl ((TY D)[0].1, 48, .inl (nf tM))), (w2, .inl ((TY D)[0].1, 48, .inl (nf tN))), (w3, .inl ((TY D)[0].1, 48, .inl (nf tS))), (w4, .inl ((TY D)[0].1, 84, .inl hT)), (h0, .inr (5, [.ref h1, .ref h2, .ref h3, .int (nI (sv_nc s)), .ref h4, .ref h5, .int (sv_la s), .int (sv_st s), .int (sv_sw s), .int (sv_fl s), .int (sv_sk s), .int (sv_mu s)])), (h2, .inl ((TY D)[0].1, 4, .inl (nf (sv_cc s)))), (h3, .inl ((TY D)[0].1, 4, .inl (nf (sv_cr s)))), (h4, .inl ((TY D)[0].1, 4, .inl (sv_se s)))]) 0 0 := by
  refine CM_int (own := RX8) (cc := cX8_why) (maxL := 4) (L0 := [(0, .ref b0), (1, .int (nI w)), (2, .int (nI x)), (3, .int (nI y))]) (by decide) rfl rfl (Nat.le_of_ble_eq_true rfl) rfl (fun X O E => ?_)
  refine g_iload_n O dX8_why_0 1 rfl rfl ?_
  refine g_callS (As := [.int (nI w)]) (wr := [(b0, .inr (8, [.ref w0, .ref h0, .ref c0, .ref f0, .ref m0, .ref t0, .ref y0, .ref n0, .int (bB hs)])), (c0, .inr (0, [.ref w0, .ref h0, .ref c1, .int (nI pn), .ref c2])), (w0, .inr (7, [.ref w1, .ref w2, .ref w3, .ref w4, .int (nI 48)])), (w1, .inl ((TY D)[0].1, 48, .inl (nf tM))), (w2, .inl ((TY D)[0].1, 48, .inl (nf tN))), (w3, .inl ((TY D)[0].1, 48, .inl (nf tS))), (w4, .inl ((TY D)[0].1, 84, .inl hT)), (h0, .inr (5, [.ref h1, .ref h2, .ref h3, .int (nI (sv_nc s)), .ref h4, .ref h5, .int (sv_la s), .int (sv_st s), .int (sv_sw s), .int (sv_fl s), .int (sv_sk s), .int (sv_mu s)])), (h2, .inl ((TY D)[0].1, 4, .inl (nf (sv_cc s)))), (h3, .inl ((TY D)[0].1, 4, .inl (nf (sv_cr s)))), (h4, .inl ((TY D)[0].1, 4, .inl (sv_se s)))]) O (kX8_isWay l D z (nI w) ) gX8_why_X8_isWay rfl rfl rfl 1 (by decide +kernel) (by decide) (by decide) [] [0, 1, 2, 3, 4, 5, 6, 7, 8, 9, 10] rfl (by decide) rfl (by decide) (by decide) rfl rfl (Nat.le_of_ble_eq_true rfl) dX8_why_1 (fun r_1 w_2 hp => ?_)
  obtain ⟨rfl, rfl⟩ := hp
  refine g_eq (st' := [.int (bB (rgB (nI w) 48))]) (ws' := [(b0, .inr (8, [.ref w0, .ref h0, .ref c0, .ref f0, .ref m0, .ref t0, .ref y0, .ref n0, .int (bB hs)])), (c0, .inr (0, [.ref w0, .ref h0, .ref c1, .int (nI pn), .ref c2])), (w0, .inr (7, [.ref w1, .ref w2, .ref w3, .ref w4, .int (nI 48)])), (w1, .inl ((TY D)[0].1, 48, .inl (nf tM))), (w2, .inl ((TY D)[0].1, 48, .inl (nf tN))), (w3, .inl ((TY D)[0].1, 48, .inl (nf tS))), (w4, .inl ((TY D)[0].1, 84, .inl hT)), (h0, .inr (5, [.ref h1, .ref h2, .ref h3, .int (nI (sv_nc s)), .ref h4, .ref h5, .int (sv_la s), .int (sv_st s), .int (sv_sw s), .int (sv_fl s), .int (sv_sk s), .int (sv_mu s)])), (h2, .inl ((TY D)[0].1, 4, .inl (nf (sv_cc s)))), (h3, .inl ((TY D)[0].1, 4, .inl (nf (sv_cr s)))), (h4, .inl ((TY D)[0].1, 4, .inl (sv_se s)))]) rfl rfl rfl ?_
  refine g_if_eqB (tgt := 15) O dX8_why_4 (by decide) (fun c_3 => absurd c_3 (by rw [rgB_t hw (by decide)]; decide)) (fun c_3 => ?_)
  refine g_iload_n O dX8_why_7 2 rfl rfl ?_
  refine g_iload_n O dX8_why_8 3 rfl rfl ?_
  refine g_callS (As := [.int (nI x), .int (nI y)]) (wr := [(b0, .inr (8, [.ref w0, .ref h0, .ref c0, .ref f0, .ref m0, .ref t0, .ref y0, .ref n0, .int (bB hs)])), (c0, .inr (0, [.ref w0, .ref h0, .ref c1, .int (nI pn), .ref c2])), (w0, .inr (7, [.ref w1, .ref w2, .ref w3, .ref w4, .int (nI 48)])), (w1, .inl ((TY D)[0].1, 48, .inl (nf tM))), (w2, .inl ((TY D)[0].1, 48, .inl (nf tN))), (w3, .inl ((TY D)[0].1, 48, .inl (nf tS))), (w4, .inl ((TY D)[0].1, 84, .inl hT)), (h0, .inr (5, [.ref h1, .ref h2, .ref h3, .int (nI (sv_nc s)), .ref h4, .ref h5, .int (sv_la s), .int (sv_st s), .int (sv_sw s), .int (sv_fl s), .int (sv_sk s), .int (sv_mu s)])), (h2, .inl ((TY D)[0].1, 4, .inl (nf (sv_cc s)))), (h3, .inl ((TY D)[0].1, 4, .inl (nf (sv_cr s)))), (h4, .inl ((TY D)[0].1, 4, .inl (sv_se s)))]) O (kX8_isBow l D z (nI x) (nI y) ) gX8_why_X8_isBow rfl rfl rfl 2 (by decide +kernel) (by decide) (by decide) [] [0, 1, 2, 3, 4, 5, 6, 7, 8, 9, 10] rfl (by decide) rfl (by decide) (by decide) rfl rfl (Nat.le_of_ble_eq_true rfl) dX8_why_9 (fun r_4 w_5 hp => ?_)
  obtain ⟨rfl, rfl⟩ := hp
  refine g_eq (st' := [.int (bB (rgB (nI x) 4 && rgB (nI y) 12))]) (ws' := [(b0, .inr (8, [.ref w0, .ref h0, .ref c0, .ref f0, .ref m0, .ref t0, .ref y0, .ref n0, .int (bB hs)])), (c0, .inr (0, [.ref w0, .ref h0, .ref c1, .int (nI pn), .ref c2])), (w0, .inr (7, [.ref w1, .ref w2, .ref w3, .ref w4, .int (nI 48)])), (w1, .inl ((TY D)[0].1, 48, .inl (nf tM))), (w2, .inl ((TY D)[0].1, 48, .inl (nf tN))), (w3, .inl ((TY D)[0].1, 48, .inl (nf tS))), (w4, .inl ((TY D)[0].1, 84, .inl hT)), (h0, .inr (5, [.ref h1, .ref h2, .ref h3, .int (nI (sv_nc s)), .ref h4, .ref h5, .int (sv_la s), .int (sv_st s), .int (sv_sw s), .int (sv_fl s), .int (sv_sk s), .int (sv_mu s)])), (h2, .inl ((TY D)[0].1, 4, .inl (nf (sv_cc s)))), (h3, .inl ((TY D)[0].1, 4, .inl (nf (sv_cr s)))), (h4, .inl ((TY D)[0].1, 4, .inl (sv_se s)))]) rfl rfl rfl ?_
  refine g_if_neB (tgt := 17) O dX8_why_12 (by decide) (fun c_6 => ?_) (fun c_6 => absurd c_6 (by rw [rgB_t hx (by decide), rgB_t hy (by decide)]; decide))
  refine g_aload_n O dX8_why_17 0 rfl rfl ?_
  refine g_get O hiX8_why_X8 0 rfl rfl 2 (by decide) (by decide +kernel) rfl dX8_why_18 ?_
  refine g_iload_n O dX8_why_21 1 rfl rfl ?_
  refine g_iload_n O dX8_why_22 2 rfl rfl ?_
  refine g_iload_n O dX8_why_23 3 rfl rfl ?_
  refine g_callV (As := [.int (nI w), .int (nI x), .int (nI y)]) (wr := [(b0, .inr (8, [.ref w0, .ref h0, .ref c0, .ref f0, .ref m0, .ref t0, .ref y0, .ref n0, .int (bB hs)]))]) O (kX0_reasonOf l D z c0 c1 c2 pn w0 w1 w2 w3 w4 h0 h1 h2 h3 h4 h5 s w x y (by first | assumption | omega) (by first | assumption | omega) (by first | assumption | omega) (by first | assumption | omega) (by first | assumption | omega)) gX8_why_X0_reasonOf rfl rfl rfl 3 (by decide +kernel) (by decide) (by decide) (q0 := 0) rfl rfl rfl [1, 2, 3, 4, 5, 6, 7, 8, 9, 10] [0] rfl (by decide) rfl (by decide) (by decide) rfl rfl (Nat.le_of_ble_eq_true rfl) dX8_why_24 (fun r_7 w_8 hp => ?_)
  obtain ⟨rfl, rfl⟩ := hp
  refine g_eq (st' := [.int (nI (rsN s w (bpN x y)))]) (ws' := [(b0, .inr (8, [.ref w0, .ref h0, .ref c0, .ref f0, .ref m0, .ref t0, .ref y0, .ref n0, .int (bB hs)])), (c0, .inr (0, [.ref w0, .ref h0, .ref c1, .int (nI pn), .ref c2])), (w0, .inr (7, [.ref w1, .ref w2, .ref w3, .ref w4, .int (nI 48)])), (w1, .inl ((TY D)[0].1, 48, .inl (nf tM))), (w2, .inl ((TY D)[0].1, 48, .inl (nf tN))), (w3, .inl ((TY D)[0].1, 48, .inl (nf tS))), (w4, .inl ((TY D)[0].1, 84, .inl hT)), (h0, .inr (5, [.ref h1, .ref h2, .ref h3, .int (nI (sv_nc s)), .ref h4, .ref h5, .int (sv_la s), .int (sv_st s), .int (sv_sw s), .int (sv_fl s), .int (sv_sk s), .int (sv_mu s)])), (h2, .inl ((TY D)[0].1, 4, .inl (nf (sv_cc s)))), (h3, .inl ((TY D)[0].1, 4, .inl (nf (sv_cr s)))), (h4, .inl ((TY D)[0].1, 4, .inl (sv_se s)))]) rfl rfl rfl ?_
  exact E 27 _ (nI (rsN s w (bpN x y))) _ dX8_why_27 ⟨rfl, rfl⟩

set_option maxHeartbeats 4000000 in
set_option maxRecDepth 100000 in
theorem kX8_possible_b1 (l : Launch) (D : va_G) (z : Nat × Nat × Nat) (b0 : Nat) (w0 : Nat) (c0 : Nat) (f0 : Nat) (m0 : Nat) (t0 : Nat) (n0 : Nat) (hs : Bool) (y0 : Nat) (h0 : Nat) (k : Int32) (hb : k < 0) : CM l yX8_possible wsX8_possible ({ frames := 6, cells := 0, slots := 0, locals := 138 } : Room) D z [.ref b0, .int k] [(b0, .inr (8, [.ref w0, .ref h0, .ref c0, .ref f0, .ref m0, .ref t0, .ref y0, .ref n0, .int (bB hs)]))] (fun r_ w_ => r_ = some (.int (-2)) ∧ w_ = [(b0, .inr (8, [.ref w0, .ref h0, .ref c0, .ref f0, .ref m0, .ref t0, .ref y0, .ref n0, .int (bB hs)]))]) 0 0 := by
  refine CM_int (own := RX8) (cc := cX8_possible) (maxL := 2) (L0 := [(0, .ref b0), (1, .int k)]) (by decide) rfl rfl (Nat.le_of_ble_eq_true rfl) rfl (fun X O E => ?_)
  refine g_iload_n O dX8_possible_0 1 rfl rfl ?_
  refine g_if_ge (tgt := 7) O dX8_possible_1 (by decide) (fun c_1 => (by exact absurd hb (Int32.not_lt.mpr c_1))) (fun c_1 => ?_)
  refine g_bipush (x := (-2)) O dX8_possible_4 (by decide +kernel) ?_
  exact E 6 _ (-2) _ dX8_possible_6 ⟨rfl, rfl⟩

theorem hiX8_possible_X0 : ∀ w ∈ wsX00, w ∈ wsX8_possible := by decide +kernel
theorem hiX8_possible_X8 : ∀ w ∈ wsX80, w ∈ wsX8_possible := by decide +kernel
set_option maxHeartbeats 4000000 in
set_option maxRecDepth 100000 in
theorem kX8_possible_b2 (l : Launch) (D : va_G) (z : Nat × Nat × Nat) (b0 : Nat) (w0 : Nat) (c0 : Nat) (f0 : Nat) (m0 : Nat) (t0 : Nat) (n0 : Nat) (hs : Bool) (y0 : Nat) (c1 : Nat) (c2 : Nat) (pn : Nat) (pf : Nat → Nat) (tk : Nat → Bool) (w1 : Nat) (w2 : Nat) (w3 : Nat) (w4 : Nat) (h0 : Nat) (h1 : Nat) (h2 : Nat) (h3 : Nat) (h4 : Nat) (h5 : Nat) (s : SV) (k : Nat) (hnc : sv_nc s ≤ 4) (hcc : ∀ j, j < sv_nc s → sv_cc s j < 12 ∧ sv_cr s j < 12) (hk : k < 2147483648) (hb : cntB (fpP s) 48 ≤ k) : CM l yX8_possible wsX8_possible ({ frames := 6, cells := 0, slots := 0, locals := 138 } : Room) D z [.ref b0, .int (nI k)] [(b0, .inr (8, [.ref w0, .ref h0, .ref c0, .ref f0, .ref m0, .ref t0, .ref y0, .ref n0, .int (bB hs)])), (c0, .inr (0, [.ref w0, .ref h0, .ref c1, .int (nI pn), .ref c2])), (c1, .inl ((TY D)[0].1, 48, .inl (nf pf))), (c2, .inl ((TY D)[1].1, 48, .inl (bf tk))), (w0, .inr (7, [.ref w1, .ref w2, .ref w3, .ref w4, .int (nI 48)])), (w1, .inl ((TY D)[0].1, 48, .inl (nf tM))), (w2, .inl ((TY D)[0].1, 48, .inl (nf tN))), (w3, .inl ((TY D)[0].1, 48, .inl (nf tS))), (w4, .inl ((TY D)[0].1, 84, .inl hT)), (h0, .inr (5, [.ref h1, .ref h2, .ref h3, .int (nI (sv_nc s)), .ref h4, .ref h5, .int (sv_la s), .int (sv_st s), .int (sv_sw s), .int (sv_fl s), .int (sv_sk s), .int (sv_mu s)])), (h2, .inl ((TY D)[0].1, 4, .inl (nf (sv_cc s)))), (h3, .inl ((TY D)[0].1, 4, .inl (nf (sv_cr s)))), (h4, .inl ((TY D)[0].1, 4, .inl (sv_se s)))] (fun r_ w_ => r_ = some (.int (-5)) ∧ w_ = [(b0, .inr (8, [.ref w0, .ref h0, .ref c0, .ref f0, .ref m0, .ref t0, .ref y0, .ref n0, .int (bB hs)])), (c0, .inr (0, [.ref w0, .ref h0, .ref c1, .int (nI (cntB (fpP s) 48)), .ref c2])), (c1, .inl ((TY D)[0].1, 48, .inl (nf (fpF s pf 48)))), (c2, .inl ((TY D)[1].1, 48, .inl (bf (fpK s 48)))), (w0, .inr (7, [.ref w1, .ref w2, .ref w3, .ref w4, .int (nI 48)])), (w1, .inl ((TY D)[0].1, 48, .inl (nf tM))), (w2, .inl ((TY D)[0].1, 48, .inl (nf tN))), (w3, .inl ((TY D)[0].1, 48, .inl (nf tS))), (w4, .inl ((TY D)[0].1, 84, .inl hT)), (h0, .inr (5, [.ref h1, .ref h2, .ref h3, .int (nI (sv_nc s)), .ref h4, .ref h5, .int (sv_la s), .int (sv_st s), .int (sv_sw s), .int (sv_fl s), .int (sv_sk s), .int (sv_mu s)])), (h2, .inl ((TY D)[0].1, 4, .inl (nf (sv_cc s)))), (h3, .inl ((TY D)[0].1, 4, .inl (nf (sv_cr s)))), (h4, .inl ((TY D)[0].1, 4, .inl (sv_se s)))]) 0 0 := by
  refine CM_int (own := RX8) (cc := cX8_possible) (maxL := 2) (L0 := [(0, .ref b0), (1, .int (nI k))]) (by decide) rfl rfl (Nat.le_of_ble_eq_true rfl) rfl (fun X O E => ?_)
  have hcl := cntB_le (fpP s) 48
  refine g_iload_n O dX8_possible_0 1 rfl rfl ?_
  refine g_if_geN (tgt := 7) O (by omega) dX8_possible_1 (by decide) ?_
  refine g_aload_n O dX8_possible_7 0 rfl rfl ?_
  refine g_get O hiX8_possible_X8 0 rfl rfl 2 (by decide) (by decide +kernel) rfl dX8_possible_8 ?_
  refine g_callV (As := []) (wr := [(b0, .inr (8, [.ref w0, .ref h0, .ref c0, .ref f0, .ref m0, .ref t0, .ref y0, .ref n0, .int (bB hs)]))]) O (kX0_findPossible l D z c0 c1 c2 pn w0 w1 w2 w3 w4 h0 h1 h2 h3 h4 h5 s pf tk (by first | assumption | omega) (by first | assumption | omega)) gX8_possible_X0_findPossible rfl rfl rfl 0 (by decide +kernel) (by decide) (by decide) (q0 := 0) rfl rfl rfl [1, 2, 3, 4, 5, 6, 7, 8, 9, 10, 11, 12] [0] rfl (by decide) rfl (by decide) (by decide) rfl rfl (Nat.le_of_ble_eq_true rfl) dX8_possible_11 (fun r_2 w_3 hp => ?_)
  obtain ⟨rfl, rfl⟩ := hp
  refine g_eq (st' := []) (ws' := [(b0, .inr (8, [.ref w0, .ref h0, .ref c0, .ref f0, .ref m0, .ref t0, .ref y0, .ref n0, .int (bB hs)])), (c0, .inr (0, [.ref w0, .ref h0, .ref c1, .int (nI (cntB (fpP s) 48)), .ref c2])), (c1, .inl ((TY D)[0].1, 48, .inl (nf (fpF s pf 48)))), (c2, .inl ((TY D)[1].1, 48, .inl (bf (fpK s 48)))), (w0, .inr (7, [.ref w1, .ref w2, .ref w3, .ref w4, .int (nI 48)])), (w1, .inl ((TY D)[0].1, 48, .inl (nf tM))), (w2, .inl ((TY D)[0].1, 48, .inl (nf tN))), (w3, .inl ((TY D)[0].1, 48, .inl (nf tS))), (w4, .inl ((TY D)[0].1, 84, .inl hT)), (h0, .inr (5, [.ref h1, .ref h2, .ref h3, .int (nI (sv_nc s)), .ref h4, .ref h5, .int (sv_la s), .int (sv_st s), .int (sv_sw s), .int (sv_fl s), .int (sv_sk s), .int (sv_mu s)])), (h2, .inl ((TY D)[0].1, 4, .inl (nf (sv_cc s)))), (h3, .inl ((TY D)[0].1, 4, .inl (nf (sv_cr s)))), (h4, .inl ((TY D)[0].1, 4, .inl (sv_se s)))]) rfl rfl rfl ?_
  refine g_iload_n O dX8_possible_14 1 rfl rfl ?_
  refine g_aload_n O dX8_possible_15 0 rfl rfl ?_
  refine g_get O hiX8_possible_X8 0 rfl rfl 2 (by decide) (by decide +kernel) rfl dX8_possible_16 ?_
  refine g_getN O hiX8_possible_X0 1 rfl rfl 3 (by decide) 31 rfl rfl dX8_possible_19 ?_
  refine g_icmp_geN (tgt := 37) O (by omega) (by omega) dX8_possible_22 (by decide) (fun c_4 => ?_) (fun c_4 => (by exfalso; omega))
  refine g_bipush (x := (-5)) O dX8_possible_37 (by decide +kernel) ?_
  exact E 39 _ (-5) _ dX8_possible_39 ⟨rfl, rfl⟩

set_option maxHeartbeats 4000000 in
set_option maxRecDepth 100000 in
theorem kX8_possible_ok (l : Launch) (D : va_G) (z : Nat × Nat × Nat) (b0 : Nat) (w0 : Nat) (c0 : Nat) (f0 : Nat) (m0 : Nat) (t0 : Nat) (n0 : Nat) (hs : Bool) (y0 : Nat) (c1 : Nat) (c2 : Nat) (pn : Nat) (pf : Nat → Nat) (tk : Nat → Bool) (w1 : Nat) (w2 : Nat) (w3 : Nat) (w4 : Nat) (h0 : Nat) (h1 : Nat) (h2 : Nat) (h3 : Nat) (h4 : Nat) (h5 : Nat) (s : SV) (k : Nat) (hnc : sv_nc s ≤ 4) (hcc : ∀ j, j < sv_nc s → sv_cc s j < 12 ∧ sv_cr s j < 12) (hb : k < cntB (fpP s) 48) : CM l yX8_possible wsX8_possible ({ frames := 6, cells := 0, slots := 0, locals := 138 } : Room) D z [.ref b0, .int (nI k)] [(b0, .inr (8, [.ref w0, .ref h0, .ref c0, .ref f0, .ref m0, .ref t0, .ref y0, .ref n0, .int (bB hs)])), (c0, .inr (0, [.ref w0, .ref h0, .ref c1, .int (nI pn), .ref c2])), (c1, .inl ((TY D)[0].1, 48, .inl (nf pf))), (c2, .inl ((TY D)[1].1, 48, .inl (bf tk))), (w0, .inr (7, [.ref w1, .ref w2, .ref w3, .ref w4, .int (nI 48)])), (w1, .inl ((TY D)[0].1, 48, .inl (nf tM))), (w2, .inl ((TY D)[0].1, 48, .inl (nf tN))), (w3, .inl ((TY D)[0].1, 48, .inl (nf tS))), (w4, .inl ((TY D)[0].1, 84, .inl hT)), (h0, .inr (5, [.ref h1, .ref h2, .ref h3, .int (nI (sv_nc s)), .ref h4, .ref h5, .int (sv_la s), .int (sv_st s), .int (sv_sw s), .int (sv_fl s), .int (sv_sk s), .int (sv_mu s)])), (h2, .inl ((TY D)[0].1, 4, .inl (nf (sv_cc s)))), (h3, .inl ((TY D)[0].1, 4, .inl (nf (sv_cr s)))), (h4, .inl ((TY D)[0].1, 4, .inl (sv_se s)))] (fun r_ w_ => r_ = some (.int (nI (fpF s pf 48 k))) ∧ w_ = [(b0, .inr (8, [.ref w0, .ref h0, .ref c0, .ref f0, .ref m0, .ref t0, .ref y0, .ref n0, .int (bB hs)])), (c0, .inr (0, [.ref w0, .ref h0, .ref c1, .int (nI (cntB (fpP s) 48)), .ref c2])), (c1, .inl ((TY D)[0].1, 48, .inl (nf (fpF s pf 48)))), (c2, .inl ((TY D)[1].1, 48, .inl (bf (fpK s 48)))), (w0, .inr (7, [.ref w1, .ref w2, .ref w3, .ref w4, .int (nI 48)])), (w1, .inl ((TY D)[0].1, 48, .inl (nf tM))), (w2, .inl ((TY D)[0].1, 48, .inl (nf tN))), (w3, .inl ((TY D)[0].1, 48, .inl (nf tS))), (w4, .inl ((TY D)[0].1, 84, .inl hT)), (h0, .inr (5, [.ref h1, .ref h2, .ref h3, .int (nI (sv_nc s)), .ref h4, .ref h5, .int (sv_la s), .int (sv_st s), .int (sv_sw s), .int (sv_fl s), .int (sv_sk s), .int (sv_mu s)])), (h2, .inl ((TY D)[0].1, 4, .inl (nf (sv_cc s)))), (h3, .inl ((TY D)[0].1, 4, .inl (nf (sv_cr s)))), (h4, .inl ((TY D)[0].1, 4, .inl (sv_se s)))]) 0 0 := by
  refine CM_int (own := RX8) (cc := cX8_possible) (maxL := 2) (L0 := [(0, .ref b0), (1, .int (nI k))]) (by decide) rfl rfl (Nat.le_of_ble_eq_true rfl) rfl (fun X O E => ?_)
  have hcl := cntB_le (fpP s) 48
  refine g_iload_n O dX8_possible_0 1 rfl rfl ?_
  refine g_if_geN (tgt := 7) O (by omega) dX8_possible_1 (by decide) ?_
  refine g_aload_n O dX8_possible_7 0 rfl rfl ?_
  refine g_get O hiX8_possible_X8 0 rfl rfl 2 (by decide) (by decide +kernel) rfl dX8_possible_8 ?_
  refine g_callV (As := []) (wr := [(b0, .inr (8, [.ref w0, .ref h0, .ref c0, .ref f0, .ref m0, .ref t0, .ref y0, .ref n0, .int (bB hs)]))]) O (kX0_findPossible l D z c0 c1 c2 pn w0 w1 w2 w3 w4 h0 h1 h2 h3 h4 h5 s pf tk (by first | assumption | omega) (by first | assumption | omega)) gX8_possible_X0_findPossible rfl rfl rfl 0 (by decide +kernel) (by decide) (by decide) (q0 := 0) rfl rfl rfl [1, 2, 3, 4, 5, 6, 7, 8, 9, 10, 11, 12] [0] rfl (by decide) rfl (by decide) (by decide) rfl rfl (Nat.le_of_ble_eq_true rfl) dX8_possible_11 (fun r_2 w_3 hp => ?_)
  obtain ⟨rfl, rfl⟩ := hp
  refine g_eq (st' := []) (ws' := [(b0, .inr (8, [.ref w0, .ref h0, .ref c0, .ref f0, .ref m0, .ref t0, .ref y0, .ref n0, .int (bB hs)])), (c0, .inr (0, [.ref w0, .ref h0, .ref c1, .int (nI (cntB (fpP s) 48)), .ref c2])), (c1, .inl ((TY D)[0].1, 48, .inl (nf (fpF s pf 48)))), (c2, .inl ((TY D)[1].1, 48, .inl (bf (fpK s 48)))), (w0, .inr (7, [.ref w1, .ref w2, .ref w3, .ref w4, .int (nI 48)])), (w1, .inl ((TY D)[0].1, 48, .inl (nf tM))), (w2, .inl ((TY D)[0].1, 48, .inl (nf tN))), (w3, .inl ((TY D)[0].1, 48, .inl (nf tS))), (w4, .inl ((TY D)[0].1, 84, .inl hT)), (h0, .inr (5, [.ref h1, .ref h2, .ref h3, .int (nI (sv_nc s)), .ref h4, .ref h5, .int (sv_la s), .int (sv_st s), .int (sv_sw s), .int (sv_fl s), .int (sv_sk s), .int (sv_mu s)])), (h2, .inl ((TY D)[0].1, 4, .inl (nf (sv_cc s)))), (h3, .inl ((TY D)[0].1, 4, .inl (nf (sv_cr s)))), (h4, .inl ((TY D)[0].1, 4, .inl (sv_se s)))]) rfl rfl rfl ?_
  refine g_iload_n O dX8_possible_14 1 rfl rfl ?_
  refine g_aload_n O dX8_possible_15 0 rfl rfl ?_
  refine g_get O hiX8_possible_X8 0 rfl rfl 2 (by decide) (by decide +kernel) rfl dX8_possible_16 ?_
  refine g_getN O hiX8_possible_X0 1 rfl rfl 3 (by decide) 31 rfl rfl dX8_possible_19 ?_
  refine g_icmp_geN (tgt := 37) O (by omega) (by omega) dX8_possible_22 (by decide) (fun c_4 => (by exfalso; omega)) (fun c_4 => ?_)
  refine g_aload_n O dX8_possible_25 0 rfl rfl ?_
  refine g_get O hiX8_possible_X8 0 rfl rfl 2 (by decide) (by decide +kernel) rfl dX8_possible_26 ?_
  refine g_getN O hiX8_possible_X0 1 rfl rfl 2 (by decide) 30 rfl rfl dX8_possible_29 ?_
  refine g_iload_n O dX8_possible_32 1 rfl rfl ?_
  refine g_ialdN O 2 rfl (by omega) (by omega) dX8_possible_33 ?_
  refine g_goto (tgt := 39) O dX8_possible_34 (by decide) ?_
  exact E 39 _ (nI ((fpF s pf 48) k)) _ dX8_possible_39 ⟨rfl, rfl⟩

set_option maxHeartbeats 4000000 in
set_option maxRecDepth 100000 in
theorem kX8_waiting_b1 (l : Launch) (D : va_G) (z : Nat × Nat × Nat) (b0 : Nat) (w0 : Nat) (c0 : Nat) (f0 : Nat) (m0 : Nat) (t0 : Nat) (n0 : Nat) (hs : Bool) (y0 : Nat) (h0 : Nat) (j : Int32) (k : Int32) (hb : j < 0 ∨ k < 0 ∨ nI 3 < k) : CM l yX8_waiting wsX8_waiting ({ frames := 5, cells := 0, slots := 0, locals := 117 } : Room) D z [.ref b0, .int j, .int k] [(b0, .inr (8, [.ref w0, .ref h0, .ref c0, .ref f0, .ref m0, .ref t0, .ref y0, .ref n0, .int (bB hs)]))] (fun r_ w_ => r_ = some (.int (-2)) ∧ w_ = [(b0, .inr (8, [.ref w0, .ref h0, .ref c0, .ref f0, .ref m0, .ref t0, .ref y0, .ref n0, .int (bB hs)]))]) 0 0 := by
  refine CM_int (own := RX8) (cc := cX8_waiting) (maxL := 3) (L0 := [(0, .ref b0), (1, .int j), (2, .int k)]) (by decide) rfl rfl (Nat.le_of_ble_eq_true rfl) rfl (fun X O E => ?_)
  refine g_iload_n O dX8_waiting_0 1 rfl rfl ?_
  refine g_if_lt (tgt := 13) O dX8_waiting_1 (by decide) (fun c_1 => ?_) (fun c_1 => ?_)
  ·
    refine g_bipush (x := (-2)) O dX8_waiting_13 (by decide +kernel) ?_
    exact E 15 _ (-2) _ dX8_waiting_15 ⟨rfl, rfl⟩
  ·
    refine g_iload_n O dX8_waiting_4 2 rfl rfl ?_
    refine g_if_lt (tgt := 13) O dX8_waiting_5 (by decide) (fun c_2 => ?_) (fun c_2 => ?_)
    ·
      refine g_bipush (x := (-2)) O dX8_waiting_13 (by decide +kernel) ?_
      exact E 15 _ (-2) _ dX8_waiting_15 ⟨rfl, rfl⟩
    ·
      refine g_iload_n O dX8_waiting_8 2 rfl rfl ?_
      refine g_iconst (x := (nI 3)) O dX8_waiting_9 (by decide +kernel) ?_
      refine g_icmp_le (tgt := 16) O dX8_waiting_10 (by decide) (fun c_3 => (by rcases hb with h | h | h; exact absurd h ‹_›; exact absurd h ‹_›; exact absurd c_3 (Int32.not_le.mpr h))) (fun c_3 => ?_)
      refine g_bipush (x := (-2)) O dX8_waiting_13 (by decide +kernel) ?_
      exact E 15 _ (-2) _ dX8_waiting_15 ⟨rfl, rfl⟩

theorem hiX8_waiting_X4 : ∀ w ∈ wsX40, w ∈ wsX8_waiting := by decide +kernel
theorem hiX8_waiting_X5 : ∀ w ∈ wsX50, w ∈ wsX8_waiting := by decide +kernel
theorem hiX8_waiting_X8 : ∀ w ∈ wsX80, w ∈ wsX8_waiting := by decide +kernel
set_option maxHeartbeats 4000000 in
set_option maxRecDepth 100000 in
theorem kX8_waiting_b2 (l : Launch) (D : va_G) (z : Nat × Nat × Nat) (b0 : Nat) (w0 : Nat) (c0 : Nat) (f0 : Nat) (m0 : Nat) (t0 : Nat) (n0 : Nat) (hs : Bool) (y0 : Nat) (h0 : Nat) (h1 : Nat) (h2 : Nat) (h3 : Nat) (h4 : Nat) (h5 : Nat) (h6 : Nat) (h7 : Nat) (h8 : Nat) (s : SV) (j : Nat) (k : Nat) (hj : j < 2147483648) (hk : k < 4) (hps : sv_ps s ≤ 16) (hb : sv_ps s ≤ j) : CM l yX8_waiting wsX8_waiting ({ frames := 5, cells := 0, slots := 0, locals := 117 } : Room) D z [.ref b0, .int (nI j), .int (nI k)] [(b0, .inr (8, [.ref w0, .ref h0, .ref c0, .ref f0, .ref m0, .ref t0, .ref y0, .ref n0, .int (bB hs)])), (h0, .inr (5, [.ref h1, .ref h2, .ref h3, .int (nI (sv_nc s)), .ref h4, .ref h5, .int (sv_la s), .int (sv_st s), .int (sv_sw s), .int (sv_fl s), .int (sv_sk s), .int (sv_mu s)])), (h5, .inr (4, [.int (nI 16), .ref h6, .ref h7, .ref h8, .int (nI (sv_ps s))])), (h6, .inl ((TY D)[0].1, 16, .inl (nf (sv_fs s)))), (h7, .inl ((TY D)[0].1, 16, .inl (nf (sv_fa s)))), (h8, .inl ((TY D)[0].1, 16, .inl (nf (sv_fk s))))] (fun r_ w_ => r_ = some (.int (-5)) ∧ w_ = [(b0, .inr (8, [.ref w0, .ref h0, .ref c0, .ref f0, .ref m0, .ref t0, .ref y0, .ref n0, .int (bB hs)])), (h0, .inr (5, [.ref h1, .ref h2, .ref h3, .int (nI (sv_nc s)), .ref h4, .ref h5, .int (sv_la s), .int (sv_st s), .int (sv_sw s), .int (sv_fl s), .int (sv_sk s), .int (sv_mu s)])), (h5, .inr (4, [.int (nI 16), .ref h6, .ref h7, .ref h8, .int (nI (sv_ps s))])), (h6, .inl ((TY D)[0].1, 16, .inl (nf (sv_fs s)))), (h7, .inl ((TY D)[0].1, 16, .inl (nf (sv_fa s)))), (h8, .inl ((TY D)[0].1, 16, .inl (nf (sv_fk s))))]) 0 0 := by
  refine CM_int (own := RX8) (cc := cX8_waiting) (maxL := 3) (L0 := [(0, .ref b0), (1, .int (nI j)), (2, .int (nI k))]) (by decide) rfl rfl (Nat.le_of_ble_eq_true rfl) rfl (fun X O E => ?_)
  refine g_iload_n O dX8_waiting_0 1 rfl rfl ?_
  refine g_if_ltN (tgt := 13) O (by omega) dX8_waiting_1 (by decide) ?_
  refine g_iload_n O dX8_waiting_4 2 rfl rfl ?_
  refine g_if_ltN (tgt := 13) O (by omega) dX8_waiting_5 (by decide) ?_
  refine g_iload_n O dX8_waiting_8 2 rfl rfl ?_
  refine g_iconst (x := (nI 3)) O dX8_waiting_9 (by decide +kernel) ?_
  refine g_icmp_leN (tgt := 16) O (by omega) (by omega) dX8_waiting_10 (by decide) (fun c_3 => ?_) (fun c_3 => (by exfalso; omega))
  refine g_iload_n O dX8_waiting_16 1 rfl rfl ?_
  refine g_aload_n O dX8_waiting_17 0 rfl rfl ?_
  refine g_get O hiX8_waiting_X8 0 rfl rfl 1 (by decide) (by decide +kernel) rfl dX8_waiting_18 ?_
  refine g_getN O hiX8_waiting_X5 1 rfl rfl 5 (by decide) 22 rfl rfl dX8_waiting_21 ?_
  refine g_getN O hiX8_waiting_X4 2 rfl rfl 4 (by decide) 7 rfl rfl dX8_waiting_24 ?_
  refine g_icmp_ltN (tgt := 33) O (by omega) (by omega) dX8_waiting_27 (by decide) (fun c_4 => (by exfalso; omega)) (fun c_4 => ?_)
  refine g_bipush (x := (-5)) O dX8_waiting_30 (by decide +kernel) ?_
  exact E 32 _ (-5) _ dX8_waiting_32 ⟨rfl, rfl⟩

set_option maxHeartbeats 4000000 in
set_option maxRecDepth 100000 in
theorem kX8_waiting_0 (l : Launch) (D : va_G) (z : Nat × Nat × Nat) (b0 : Nat) (w0 : Nat) (c0 : Nat) (f0 : Nat) (m0 : Nat) (t0 : Nat) (n0 : Nat) (hs : Bool) (y0 : Nat) (h0 : Nat) (h1 : Nat) (h2 : Nat) (h3 : Nat) (h4 : Nat) (h5 : Nat) (h6 : Nat) (h7 : Nat) (h8 : Nat) (s : SV) (j : Nat) (hps : sv_ps s ≤ 16) (hb : j < sv_ps s) : CM l yX8_waiting wsX8_waiting ({ frames := 5, cells := 0, slots := 0, locals := 117 } : Room) D z [.ref b0, .int (nI j), .int (nI 0)] [(b0, .inr (8, [.ref w0, .ref h0, .ref c0, .ref f0, .ref m0, .ref t0, .ref y0, .ref n0, .int (bB hs)])), (h0, .inr (5, [.ref h1, .ref h2, .ref h3, .int (nI (sv_nc s)), .ref h4, .ref h5, .int (sv_la s), .int (sv_st s), .int (sv_sw s), .int (sv_fl s), .int (sv_sk s), .int (sv_mu s)])), (h5, .inr (4, [.int (nI 16), .ref h6, .ref h7, .ref h8, .int (nI (sv_ps s))])), (h6, .inl ((TY D)[0].1, 16, .inl (nf (sv_fs s)))), (h7, .inl ((TY D)[0].1, 16, .inl (nf (sv_fa s)))), (h8, .inl ((TY D)[0].1, 16, .inl (nf (sv_fk s))))] (fun r_ w_ => r_ = some (.int (nI (sv_fs s j))) ∧ w_ = [(b0, .inr (8, [.ref w0, .ref h0, .ref c0, .ref f0, .ref m0, .ref t0, .ref y0, .ref n0, .int (bB hs)])), (h0, .inr (5, [.ref h1, .ref h2, .ref h3, .int (nI (sv_nc s)), .ref h4, .ref h5, .int (sv_la s), .int (sv_st s), .int (sv_sw s), .int (sv_fl s), .int (sv_sk s), .int (sv_mu s)])), (h5, .inr (4, [.int (nI 16), .ref h6, .ref h7, .ref h8, .int (nI (sv_ps s))])), (h6, .inl ((TY D)[0].1, 16, .inl (nf (sv_fs s)))), (h7, .inl ((TY D)[0].1, 16, .inl (nf (sv_fa s)))), (h8, .inl ((TY D)[0].1, 16, .inl (nf (sv_fk s))))]) 0 0 := by
  refine CM_int (own := RX8) (cc := cX8_waiting) (maxL := 3) (L0 := [(0, .ref b0), (1, .int (nI j)), (2, .int (nI 0))]) (by decide) rfl rfl (Nat.le_of_ble_eq_true rfl) rfl (fun X O E => ?_)
  refine g_iload_n O dX8_waiting_0 1 rfl rfl ?_
  refine g_if_ltN (tgt := 13) O (by omega) dX8_waiting_1 (by decide) ?_
  refine g_iload_n O dX8_waiting_4 2 rfl rfl ?_
  refine g_if_ltN (tgt := 13) O (by omega) dX8_waiting_5 (by decide) ?_
  refine g_iload_n O dX8_waiting_8 2 rfl rfl ?_
  refine g_iconst (x := (nI 3)) O dX8_waiting_9 (by decide +kernel) ?_
  refine g_icmp_leN (tgt := 16) O (by omega) (by omega) dX8_waiting_10 (by decide) (fun c_3 => ?_) (fun c_3 => absurd c_3 (by decide))
  refine g_iload_n O dX8_waiting_16 1 rfl rfl ?_
  refine g_aload_n O dX8_waiting_17 0 rfl rfl ?_
  refine g_get O hiX8_waiting_X8 0 rfl rfl 1 (by decide) (by decide +kernel) rfl dX8_waiting_18 ?_
  refine g_getN O hiX8_waiting_X5 1 rfl rfl 5 (by decide) 22 rfl rfl dX8_waiting_21 ?_
  refine g_getN O hiX8_waiting_X4 2 rfl rfl 4 (by decide) 7 rfl rfl dX8_waiting_24 ?_
  refine g_icmp_ltN (tgt := 33) O (by omega) (by omega) dX8_waiting_27 (by decide) (fun c_4 => ?_) (fun c_4 => (by exfalso; omega))
  refine g_iload_n O dX8_waiting_33 2 rfl rfl ?_
  refine g_tableIn (off := 26) (tgt := 60) O dX8_waiting_34 (by decide +kernel) (by decide +kernel) (by decide +kernel) (by decide) ?_
  refine g_aload_n O dX8_waiting_60 0 rfl rfl ?_
  refine g_get O hiX8_waiting_X8 0 rfl rfl 1 (by decide) (by decide +kernel) rfl dX8_waiting_61 ?_
  refine g_getN O hiX8_waiting_X5 1 rfl rfl 5 (by decide) 22 rfl rfl dX8_waiting_64 ?_
  refine g_getN O hiX8_waiting_X4 2 rfl rfl 1 (by decide) 3 rfl rfl dX8_waiting_67 ?_
  refine g_iload_n O dX8_waiting_70 1 rfl rfl ?_
  refine g_ialdN O 3 rfl (by omega) (by omega) dX8_waiting_71 ?_
  exact E 72 _ (nI ((sv_fs s) j)) _ dX8_waiting_72 ⟨rfl, rfl⟩

set_option maxHeartbeats 4000000 in
set_option maxRecDepth 100000 in
theorem kX8_waiting_1 (l : Launch) (D : va_G) (z : Nat × Nat × Nat) (b0 : Nat) (w0 : Nat) (c0 : Nat) (f0 : Nat) (m0 : Nat) (t0 : Nat) (n0 : Nat) (hs : Bool) (y0 : Nat) (h0 : Nat) (h1 : Nat) (h2 : Nat) (h3 : Nat) (h4 : Nat) (h5 : Nat) (h6 : Nat) (h7 : Nat) (h8 : Nat) (s : SV) (j : Nat) (hps : sv_ps s ≤ 16) (hb : j < sv_ps s) : CM l yX8_waiting wsX8_waiting ({ frames := 5, cells := 0, slots := 0, locals := 117 } : Room) D z [.ref b0, .int (nI j), .int (nI 1)] [(b0, .inr (8, [.ref w0, .ref h0, .ref c0, .ref f0, .ref m0, .ref t0, .ref y0, .ref n0, .int (bB hs)])), (h0, .inr (5, [.ref h1, .ref h2, .ref h3, .int (nI (sv_nc s)), .ref h4, .ref h5, .int (sv_la s), .int (sv_st s), .int (sv_sw s), .int (sv_fl s), .int (sv_sk s), .int (sv_mu s)])), (h5, .inr (4, [.int (nI 16), .ref h6, .ref h7, .ref h8, .int (nI (sv_ps s))])), (h6, .inl ((TY D)[0].1, 16, .inl (nf (sv_fs s)))), (h7, .inl ((TY D)[0].1, 16, .inl (nf (sv_fa s)))), (h8, .inl ((TY D)[0].1, 16, .inl (nf (sv_fk s))))] (fun r_ w_ => r_ = some (.int (nI (sv_fa s j))) ∧ w_ = [(b0, .inr (8, [.ref w0, .ref h0, .ref c0, .ref f0, .ref m0, .ref t0, .ref y0, .ref n0, .int (bB hs)])), (h0, .inr (5, [.ref h1, .ref h2, .ref h3, .int (nI (sv_nc s)), .ref h4, .ref h5, .int (sv_la s), .int (sv_st s), .int (sv_sw s), .int (sv_fl s), .int (sv_sk s), .int (sv_mu s)])), (h5, .inr (4, [.int (nI 16), .ref h6, .ref h7, .ref h8, .int (nI (sv_ps s))])), (h6, .inl ((TY D)[0].1, 16, .inl (nf (sv_fs s)))), (h7, .inl ((TY D)[0].1, 16, .inl (nf (sv_fa s)))), (h8, .inl ((TY D)[0].1, 16, .inl (nf (sv_fk s))))]) 0 0 := by
  refine CM_int (own := RX8) (cc := cX8_waiting) (maxL := 3) (L0 := [(0, .ref b0), (1, .int (nI j)), (2, .int (nI 1))]) (by decide) rfl rfl (Nat.le_of_ble_eq_true rfl) rfl (fun X O E => ?_)
  refine g_iload_n O dX8_waiting_0 1 rfl rfl ?_
  refine g_if_ltN (tgt := 13) O (by omega) dX8_waiting_1 (by decide) ?_
  refine g_iload_n O dX8_waiting_4 2 rfl rfl ?_
  refine g_if_ltN (tgt := 13) O (by omega) dX8_waiting_5 (by decide) ?_
  refine g_iload_n O dX8_waiting_8 2 rfl rfl ?_
  refine g_iconst (x := (nI 3)) O dX8_waiting_9 (by decide +kernel) ?_
  refine g_icmp_leN (tgt := 16) O (by omega) (by omega) dX8_waiting_10 (by decide) (fun c_3 => ?_) (fun c_3 => absurd c_3 (by decide))
  refine g_iload_n O dX8_waiting_16 1 rfl rfl ?_
  refine g_aload_n O dX8_waiting_17 0 rfl rfl ?_
  refine g_get O hiX8_waiting_X8 0 rfl rfl 1 (by decide) (by decide +kernel) rfl dX8_waiting_18 ?_
  refine g_getN O hiX8_waiting_X5 1 rfl rfl 5 (by decide) 22 rfl rfl dX8_waiting_21 ?_
  refine g_getN O hiX8_waiting_X4 2 rfl rfl 4 (by decide) 7 rfl rfl dX8_waiting_24 ?_
  refine g_icmp_ltN (tgt := 33) O (by omega) (by omega) dX8_waiting_27 (by decide) (fun c_4 => ?_) (fun c_4 => (by exfalso; omega))
  refine g_iload_n O dX8_waiting_33 2 rfl rfl ?_
  refine g_tableIn (off := 39) (tgt := 73) O dX8_waiting_34 (by decide +kernel) (by decide +kernel) (by decide +kernel) (by decide) ?_
  refine g_aload_n O dX8_waiting_73 0 rfl rfl ?_
  refine g_get O hiX8_waiting_X8 0 rfl rfl 1 (by decide) (by decide +kernel) rfl dX8_waiting_74 ?_
  refine g_getN O hiX8_waiting_X5 1 rfl rfl 5 (by decide) 22 rfl rfl dX8_waiting_77 ?_
  refine g_getN O hiX8_waiting_X4 2 rfl rfl 2 (by decide) 4 rfl rfl dX8_waiting_80 ?_
  refine g_iload_n O dX8_waiting_83 1 rfl rfl ?_
  refine g_ialdN O 4 rfl (by omega) (by omega) dX8_waiting_84 ?_
  exact E 85 _ (nI ((sv_fa s) j)) _ dX8_waiting_85 ⟨rfl, rfl⟩

set_option maxHeartbeats 4000000 in
set_option maxRecDepth 100000 in
theorem kX8_waiting_2 (l : Launch) (D : va_G) (z : Nat × Nat × Nat) (b0 : Nat) (w0 : Nat) (c0 : Nat) (f0 : Nat) (m0 : Nat) (t0 : Nat) (n0 : Nat) (hs : Bool) (y0 : Nat) (h0 : Nat) (h1 : Nat) (h2 : Nat) (h3 : Nat) (h4 : Nat) (h5 : Nat) (h6 : Nat) (h7 : Nat) (h8 : Nat) (s : SV) (j : Nat) (hps : sv_ps s ≤ 16) (hb : j < sv_ps s) : CM l yX8_waiting wsX8_waiting ({ frames := 5, cells := 0, slots := 0, locals := 117 } : Room) D z [.ref b0, .int (nI j), .int (nI 2)] [(b0, .inr (8, [.ref w0, .ref h0, .ref c0, .ref f0, .ref m0, .ref t0, .ref y0, .ref n0, .int (bB hs)])), (h0, .inr (5, [.ref h1, .ref h2, .ref h3, .int (nI (sv_nc s)), .ref h4, .ref h5, .int (sv_la s), .int (sv_st s), .int (sv_sw s), .int (sv_fl s), .int (sv_sk s), .int (sv_mu s)])), (h5, .inr (4, [.int (nI 16), .ref h6, .ref h7, .ref h8, .int (nI (sv_ps s))])), (h6, .inl ((TY D)[0].1, 16, .inl (nf (sv_fs s)))), (h7, .inl ((TY D)[0].1, 16, .inl (nf (sv_fa s)))), (h8, .inl ((TY D)[0].1, 16, .inl (nf (sv_fk s))))] (fun r_ w_ => r_ = some (.int (nI (sv_fk s j))) ∧ w_ = [(b0, .inr (8, [.ref w0, .ref h0, .ref c0, .ref f0, .ref m0, .ref t0, .ref y0, .ref n0, .int (bB hs)])), (h0, .inr (5, [.ref h1, .ref h2, .ref h3, .int (nI (sv_nc s)), .ref h4, .ref h5, .int (sv_la s), .int (sv_st s), .int (sv_sw s), .int (sv_fl s), .int (sv_sk s), .int (sv_mu s)])), (h5, .inr (4, [.int (nI 16), .ref h6, .ref h7, .ref h8, .int (nI (sv_ps s))])), (h6, .inl ((TY D)[0].1, 16, .inl (nf (sv_fs s)))), (h7, .inl ((TY D)[0].1, 16, .inl (nf (sv_fa s)))), (h8, .inl ((TY D)[0].1, 16, .inl (nf (sv_fk s))))]) 0 0 := by
  refine CM_int (own := RX8) (cc := cX8_waiting) (maxL := 3) (L0 := [(0, .ref b0), (1, .int (nI j)), (2, .int (nI 2))]) (by decide) rfl rfl (Nat.le_of_ble_eq_true rfl) rfl (fun X O E => ?_)
  refine g_iload_n O dX8_waiting_0 1 rfl rfl ?_
  refine g_if_ltN (tgt := 13) O (by omega) dX8_waiting_1 (by decide) ?_
  refine g_iload_n O dX8_waiting_4 2 rfl rfl ?_
  refine g_if_ltN (tgt := 13) O (by omega) dX8_waiting_5 (by decide) ?_
  refine g_iload_n O dX8_waiting_8 2 rfl rfl ?_
  refine g_iconst (x := (nI 3)) O dX8_waiting_9 (by decide +kernel) ?_
  refine g_icmp_leN (tgt := 16) O (by omega) (by omega) dX8_waiting_10 (by decide) (fun c_3 => ?_) (fun c_3 => absurd c_3 (by decide))
  refine g_iload_n O dX8_waiting_16 1 rfl rfl ?_
  refine g_aload_n O dX8_waiting_17 0 rfl rfl ?_
  refine g_get O hiX8_waiting_X8 0 rfl rfl 1 (by decide) (by decide +kernel) rfl dX8_waiting_18 ?_
  refine g_getN O hiX8_waiting_X5 1 rfl rfl 5 (by decide) 22 rfl rfl dX8_waiting_21 ?_
  refine g_getN O hiX8_waiting_X4 2 rfl rfl 4 (by decide) 7 rfl rfl dX8_waiting_24 ?_
  refine g_icmp_ltN (tgt := 33) O (by omega) (by omega) dX8_waiting_27 (by decide) (fun c_4 => ?_) (fun c_4 => (by exfalso; omega))
  refine g_iload_n O dX8_waiting_33 2 rfl rfl ?_
  refine g_tableIn (off := 52) (tgt := 86) O dX8_waiting_34 (by decide +kernel) (by decide +kernel) (by decide +kernel) (by decide) ?_
  refine g_aload_n O dX8_waiting_86 0 rfl rfl ?_
  refine g_get O hiX8_waiting_X8 0 rfl rfl 1 (by decide) (by decide +kernel) rfl dX8_waiting_87 ?_
  refine g_getN O hiX8_waiting_X5 1 rfl rfl 5 (by decide) 22 rfl rfl dX8_waiting_90 ?_
  refine g_getN O hiX8_waiting_X4 2 rfl rfl 3 (by decide) 5 rfl rfl dX8_waiting_93 ?_
  refine g_iload_n O dX8_waiting_96 1 rfl rfl ?_
  refine g_ialdN O 5 rfl (by omega) (by omega) dX8_waiting_97 ?_
  exact E 98 _ (nI ((sv_fk s) j)) _ dX8_waiting_98 ⟨rfl, rfl⟩

set_option maxHeartbeats 4000000 in
set_option maxRecDepth 100000 in
theorem kX8_waiting_3 (l : Launch) (D : va_G) (z : Nat × Nat × Nat) (b0 : Nat) (w0 : Nat) (c0 : Nat) (f0 : Nat) (m0 : Nat) (t0 : Nat) (n0 : Nat) (hs : Bool) (y0 : Nat) (c1 : Nat) (c2 : Nat) (pn : Nat) (w1 : Nat) (w2 : Nat) (w3 : Nat) (w4 : Nat) (h0 : Nat) (h1 : Nat) (h2 : Nat) (h3 : Nat) (h4 : Nat) (h5 : Nat) (h6 : Nat) (h7 : Nat) (h8 : Nat) (s : SV) (j : Nat) (hnc : sv_nc s ≤ 4) (hcc : ∀ j, j < sv_nc s → sv_cc s j < 12 ∧ sv_cr s j < 12) (hps : sv_ps s ≤ 16) (hpc : ∀ j, j < sv_ps s → sv_fs s j < 4 ∧ sv_fa s j < 12 ∧ 1 ≤ sv_fk s j ∧ sv_fk s j ≤ 20) (hb : j < sv_ps s) : CM l yX8_waiting wsX8_waiting ({ frames := 5, cells := 0, slots := 0, locals := 117 } : Room) D z [.ref b0, .int (nI j), .int (nI 3)] [(b0, .inr (8, [.ref w0, .ref h0, .ref c0, .ref f0, .ref m0, .ref t0, .ref y0, .ref n0, .int (bB hs)])), (c0, .inr (0, [.ref w0, .ref h0, .ref c1, .int (nI pn), .ref c2])), (w0, .inr (7, [.ref w1, .ref w2, .ref w3, .ref w4, .int (nI 48)])), (w1, .inl ((TY D)[0].1, 48, .inl (nf tM))), (w2, .inl ((TY D)[0].1, 48, .inl (nf tN))), (w3, .inl ((TY D)[0].1, 48, .inl (nf tS))), (w4, .inl ((TY D)[0].1, 84, .inl hT)), (h0, .inr (5, [.ref h1, .ref h2, .ref h3, .int (nI (sv_nc s)), .ref h4, .ref h5, .int (sv_la s), .int (sv_st s), .int (sv_sw s), .int (sv_fl s), .int (sv_sk s), .int (sv_mu s)])), (h2, .inl ((TY D)[0].1, 4, .inl (nf (sv_cc s)))), (h3, .inl ((TY D)[0].1, 4, .inl (nf (sv_cr s)))), (h4, .inl ((TY D)[0].1, 4, .inl (sv_se s))), (h5, .inr (4, [.int (nI 16), .ref h6, .ref h7, .ref h8, .int (nI (sv_ps s))])), (h6, .inl ((TY D)[0].1, 16, .inl (nf (sv_fs s)))), (h7, .inl ((TY D)[0].1, 16, .inl (nf (sv_fa s)))), (h8, .inl ((TY D)[0].1, 16, .inl (nf (sv_fk s))))] (fun r_ w_ => r_ = some (.int (laM (orM (wyO s (bpN (sv_fs s j) (sv_fa s j)))))) ∧ w_ = [(b0, .inr (8, [.ref w0, .ref h0, .ref c0, .ref f0, .ref m0, .ref t0, .ref y0, .ref n0, .int (bB hs)])), (c0, .inr (0, [.ref w0, .ref h0, .ref c1, .int (nI pn), .ref c2])), (w0, .inr (7, [.ref w1, .ref w2, .ref w3, .ref w4, .int (nI 48)])), (w1, .inl ((TY D)[0].1, 48, .inl (nf tM))), (w2, .inl ((TY D)[0].1, 48, .inl (nf tN))), (w3, .inl ((TY D)[0].1, 48, .inl (nf tS))), (w4, .inl ((TY D)[0].1, 84, .inl hT)), (h0, .inr (5, [.ref h1, .ref h2, .ref h3, .int (nI (sv_nc s)), .ref h4, .ref h5, .int (sv_la s), .int (sv_st s), .int (sv_sw s), .int (sv_fl s), .int (sv_sk s), .int (sv_mu s)])), (h2, .inl ((TY D)[0].1, 4, .inl (nf (sv_cc s)))), (h3, .inl ((TY D)[0].1, 4, .inl (nf (sv_cr s)))), (h4, .inl ((TY D)[0].1, 4, .inl (sv_se s))), (h5, .inr (4, [.int (nI 16), .ref h6, .ref h7, .ref h8, .int (nI (sv_ps s))])), (h6, .inl ((TY D)[0].1, 16, .inl (nf (sv_fs s)))), (h7, .inl ((TY D)[0].1, 16, .inl (nf (sv_fa s)))), (h8, .inl ((TY D)[0].1, 16, .inl (nf (sv_fk s))))]) 0 0 := by
  refine CM_int (own := RX8) (cc := cX8_waiting) (maxL := 3) (L0 := [(0, .ref b0), (1, .int (nI j)), (2, .int (nI 3))]) (by decide) rfl rfl (Nat.le_of_ble_eq_true rfl) rfl (fun X O E => ?_)
  have hpj := hpc j hb
  refine g_iload_n O dX8_waiting_0 1 rfl rfl ?_
  refine g_if_ltN (tgt := 13) O (by omega) dX8_waiting_1 (by decide) ?_
  refine g_iload_n O dX8_waiting_4 2 rfl rfl ?_
  refine g_if_ltN (tgt := 13) O (by omega) dX8_waiting_5 (by decide) ?_
  refine g_iload_n O dX8_waiting_8 2 rfl rfl ?_
  refine g_iconst (x := (nI 3)) O dX8_waiting_9 (by decide +kernel) ?_
  refine g_icmp_leN (tgt := 16) O (by omega) (by omega) dX8_waiting_10 (by decide) (fun c_3 => ?_) (fun c_3 => absurd c_3 (by decide))
  refine g_iload_n O dX8_waiting_16 1 rfl rfl ?_
  refine g_aload_n O dX8_waiting_17 0 rfl rfl ?_
  refine g_get O hiX8_waiting_X8 0 rfl rfl 1 (by decide) (by decide +kernel) rfl dX8_waiting_18 ?_
  refine g_getN O hiX8_waiting_X5 7 rfl rfl 5 (by decide) 22 rfl rfl dX8_waiting_21 ?_
  refine g_getN O hiX8_waiting_X4 11 rfl rfl 4 (by decide) 7 rfl rfl dX8_waiting_24 ?_
  refine g_icmp_ltN (tgt := 33) O (by omega) (by omega) dX8_waiting_27 (by decide) (fun c_4 => ?_) (fun c_4 => (by exfalso; omega))
  refine g_iload_n O dX8_waiting_33 2 rfl rfl ?_
  refine g_tableO (tgt := 99) (N := 3) O dX8_waiting_34 (Or.inr (by decide +kernel)) (by decide) (by decide) (by decide) ?_
  refine g_aload_n O dX8_waiting_99 0 rfl rfl ?_
  refine g_get O hiX8_waiting_X8 0 rfl rfl 2 (by decide) (by decide +kernel) rfl dX8_waiting_100 ?_
  refine g_aload_n O dX8_waiting_103 0 rfl rfl ?_
  refine g_get O hiX8_waiting_X8 0 rfl rfl 1 (by decide) (by decide +kernel) rfl dX8_waiting_104 ?_
  refine g_getN O hiX8_waiting_X5 7 rfl rfl 5 (by decide) 22 rfl rfl dX8_waiting_107 ?_
  refine g_getN O hiX8_waiting_X4 11 rfl rfl 1 (by decide) 3 rfl rfl dX8_waiting_110 ?_
  refine g_iload_n O dX8_waiting_113 1 rfl rfl ?_
  refine g_ialdN O 12 rfl (by omega) (by omega) dX8_waiting_114 ?_
  refine g_aload_n O dX8_waiting_115 0 rfl rfl ?_
  refine g_get O hiX8_waiting_X8 0 rfl rfl 1 (by decide) (by decide +kernel) rfl dX8_waiting_116 ?_
  refine g_getN O hiX8_waiting_X5 7 rfl rfl 5 (by decide) 22 rfl rfl dX8_waiting_119 ?_
  refine g_getN O hiX8_waiting_X4 11 rfl rfl 2 (by decide) 4 rfl rfl dX8_waiting_122 ?_
  refine g_iload_n O dX8_waiting_125 1 rfl rfl ?_
  refine g_ialdN O 13 rfl (by omega) (by omega) dX8_waiting_126 ?_
  refine g_callV (As := [.int (nI ((sv_fs s) j)), .int (nI ((sv_fa s) j))]) (wr := [(b0, .inr (8, [.ref w0, .ref h0, .ref c0, .ref f0, .ref m0, .ref t0, .ref y0, .ref n0, .int (bB hs)])), (h5, .inr (4, [.int (nI 16), .ref h6, .ref h7, .ref h8, .int (nI (sv_ps s))])), (h6, .inl ((TY D)[0].1, 16, .inl (nf (sv_fs s)))), (h7, .inl ((TY D)[0].1, 16, .inl (nf (sv_fa s)))), (h8, .inl ((TY D)[0].1, 16, .inl (nf (sv_fk s))))]) O (kX0_wayFor l D z c0 c1 c2 pn w0 w1 w2 w3 w4 h0 h1 h2 h3 h4 h5 s ((sv_fs s) j) ((sv_fa s) j) (by first | assumption | omega | exact hpj.1 | exact hpj.2.1) (by first | assumption | omega | exact hpj.1 | exact hpj.2.1) (by first | assumption | omega | exact hpj.1 | exact hpj.2.1) (by first | assumption | omega | exact hpj.1 | exact hpj.2.1)) gX8_waiting_X0_wayFor rfl rfl rfl 2 (by decide +kernel) (by decide) (by decide) (q0 := 0) rfl rfl rfl [1, 2, 3, 4, 5, 6, 7, 8, 9, 10] [0, 11, 12, 13, 14] rfl (by decide) rfl (by decide) (by decide) rfl rfl (Nat.le_of_ble_eq_true rfl) dX8_waiting_127 (fun r_5 w_6 hp => ?_)
  obtain ⟨rfl, rfl⟩ := hp
  refine g_eq (st' := [.int (orM (wyO s (bpN ((sv_fs s) j) ((sv_fa s) j))))]) (ws' := [(b0, .inr (8, [.ref w0, .ref h0, .ref c0, .ref f0, .ref m0, .ref t0, .ref y0, .ref n0, .int (bB hs)])), (h5, .inr (4, [.int (nI 16), .ref h6, .ref h7, .ref h8, .int (nI (sv_ps s))])), (h6, .inl ((TY D)[0].1, 16, .inl (nf (sv_fs s)))), (h7, .inl ((TY D)[0].1, 16, .inl (nf (sv_fa s)))), (h8, .inl ((TY D)[0].1, 16, .inl (nf (sv_fk s)))), (c0, .inr (0, [.ref w0, .ref h0, .ref c1, .int (nI pn), .ref c2])), (w0, .inr (7, [.ref w1, .ref w2, .ref w3, .ref w4, .int (nI 48)])), (w1, .inl ((TY D)[0].1, 48, .inl (nf tM))), (w2, .inl ((TY D)[0].1, 48, .inl (nf tN))), (w3, .inl ((TY D)[0].1, 48, .inl (nf tS))), (w4, .inl ((TY D)[0].1, 84, .inl hT)), (h0, .inr (5, [.ref h1, .ref h2, .ref h3, .int (nI (sv_nc s)), .ref h4, .ref h5, .int (sv_la s), .int (sv_st s), .int (sv_sw s), .int (sv_fl s), .int (sv_sk s), .int (sv_mu s)])), (h2, .inl ((TY D)[0].1, 4, .inl (nf (sv_cc s)))), (h3, .inl ((TY D)[0].1, 4, .inl (nf (sv_cr s)))), (h4, .inl ((TY D)[0].1, 4, .inl (sv_se s)))]) rfl rfl rfl ?_
  refine g_callS (As := [.int (orM (wyO s (bpN ((sv_fs s) j) ((sv_fa s) j))))]) (wr := [(b0, .inr (8, [.ref w0, .ref h0, .ref c0, .ref f0, .ref m0, .ref t0, .ref y0, .ref n0, .int (bB hs)])), (h5, .inr (4, [.int (nI 16), .ref h6, .ref h7, .ref h8, .int (nI (sv_ps s))])), (h6, .inl ((TY D)[0].1, 16, .inl (nf (sv_fs s)))), (h7, .inl ((TY D)[0].1, 16, .inl (nf (sv_fa s)))), (h8, .inl ((TY D)[0].1, 16, .inl (nf (sv_fk s)))), (c0, .inr (0, [.ref w0, .ref h0, .ref c1, .int (nI pn), .ref c2])), (w0, .inr (7, [.ref w1, .ref w2, .ref w3, .ref w4, .int (nI 48)])), (w1, .inl ((TY D)[0].1, 48, .inl (nf tM))), (w2, .inl ((TY D)[0].1, 48, .inl (nf tN))), (w3, .inl ((TY D)[0].1, 48, .inl (nf tS))), (w4, .inl ((TY D)[0].1, 84, .inl hT)), (h0, .inr (5, [.ref h1, .ref h2, .ref h3, .int (nI (sv_nc s)), .ref h4, .ref h5, .int (sv_la s), .int (sv_st s), .int (sv_sw s), .int (sv_fl s), .int (sv_sk s), .int (sv_mu s)])), (h2, .inl ((TY D)[0].1, 4, .inl (nf (sv_cc s)))), (h3, .inl ((TY D)[0].1, 4, .inl (nf (sv_cr s)))), (h4, .inl ((TY D)[0].1, 4, .inl (sv_se s)))]) O (kX8_orNone l D z (orM (wyO s (bpN ((sv_fs s) j) ((sv_fa s) j)))) ) gX8_waiting_X8_orNone rfl rfl rfl 1 (by decide +kernel) (by decide) (by decide) [] [0, 1, 2, 3, 4, 5, 6, 7, 8, 9, 10, 11, 12, 13, 14] rfl (by decide) rfl (by decide) (by decide) rfl rfl (Nat.le_of_ble_eq_true rfl) dX8_waiting_130 (fun r_7 w_8 hp => ?_)
  obtain ⟨rfl, rfl⟩ := hp
  refine g_eq (st' := [.int (laM (orM (wyO s (bpN ((sv_fs s) j) ((sv_fa s) j)))))]) (ws' := [(b0, .inr (8, [.ref w0, .ref h0, .ref c0, .ref f0, .ref m0, .ref t0, .ref y0, .ref n0, .int (bB hs)])), (h5, .inr (4, [.int (nI 16), .ref h6, .ref h7, .ref h8, .int (nI (sv_ps s))])), (h6, .inl ((TY D)[0].1, 16, .inl (nf (sv_fs s)))), (h7, .inl ((TY D)[0].1, 16, .inl (nf (sv_fa s)))), (h8, .inl ((TY D)[0].1, 16, .inl (nf (sv_fk s)))), (c0, .inr (0, [.ref w0, .ref h0, .ref c1, .int (nI pn), .ref c2])), (w0, .inr (7, [.ref w1, .ref w2, .ref w3, .ref w4, .int (nI 48)])), (w1, .inl ((TY D)[0].1, 48, .inl (nf tM))), (w2, .inl ((TY D)[0].1, 48, .inl (nf tN))), (w3, .inl ((TY D)[0].1, 48, .inl (nf tS))), (w4, .inl ((TY D)[0].1, 84, .inl hT)), (h0, .inr (5, [.ref h1, .ref h2, .ref h3, .int (nI (sv_nc s)), .ref h4, .ref h5, .int (sv_la s), .int (sv_st s), .int (sv_sw s), .int (sv_fl s), .int (sv_sk s), .int (sv_mu s)])), (h2, .inl ((TY D)[0].1, 4, .inl (nf (sv_cc s)))), (h3, .inl ((TY D)[0].1, 4, .inl (nf (sv_cr s)))), (h4, .inl ((TY D)[0].1, 4, .inl (sv_se s)))]) rfl rfl rfl ?_
  refine g_perm (ws' := [(b0, .inr (8, [.ref w0, .ref h0, .ref c0, .ref f0, .ref m0, .ref t0, .ref y0, .ref n0, .int (bB hs)])), (c0, .inr (0, [.ref w0, .ref h0, .ref c1, .int (nI pn), .ref c2])), (w0, .inr (7, [.ref w1, .ref w2, .ref w3, .ref w4, .int (nI 48)])), (w1, .inl ((TY D)[0].1, 48, .inl (nf tM))), (w2, .inl ((TY D)[0].1, 48, .inl (nf tN))), (w3, .inl ((TY D)[0].1, 48, .inl (nf tS))), (w4, .inl ((TY D)[0].1, 84, .inl hT)), (h0, .inr (5, [.ref h1, .ref h2, .ref h3, .int (nI (sv_nc s)), .ref h4, .ref h5, .int (sv_la s), .int (sv_st s), .int (sv_sw s), .int (sv_fl s), .int (sv_sk s), .int (sv_mu s)])), (h2, .inl ((TY D)[0].1, 4, .inl (nf (sv_cc s)))), (h3, .inl ((TY D)[0].1, 4, .inl (nf (sv_cr s)))), (h4, .inl ((TY D)[0].1, 4, .inl (sv_se s))), (h5, .inr (4, [.int (nI 16), .ref h6, .ref h7, .ref h8, .int (nI (sv_ps s))])), (h6, .inl ((TY D)[0].1, 16, .inl (nf (sv_fs s)))), (h7, .inl ((TY D)[0].1, 16, .inl (nf (sv_fa s)))), (h8, .inl ((TY D)[0].1, 16, .inl (nf (sv_fk s))))]) [0, 5, 6, 7, 8, 9, 10, 11, 12, 13, 14, 1, 2, 3, 4] rfl (by decide) ?_
  exact E 133 _ (laM (orM (wyO s (bpN ((sv_fs s) j) ((sv_fa s) j))))) _ dX8_waiting_133 ⟨rfl, rfl⟩

set_option maxHeartbeats 4000000 in
set_option maxRecDepth 100000 in
theorem kX8_sand_b1 (l : Launch) (D : va_G) (z : Nat × Nat × Nat) (b0 : Nat) (w0 : Nat) (c0 : Nat) (f0 : Nat) (m0 : Nat) (t0 : Nat) (n0 : Nat) (hs : Bool) (y0 : Nat) (h0 : Nat) (r : Bool) (x : Int32) (hb : rgB x 12 = false) : CM l yX8_sand wsX8_sand ({ frames := 1, cells := 0, slots := 0, locals := 21 } : Room) D z [.ref b0, .int (bB r), .int x] [(b0, .inr (8, [.ref w0, .ref h0, .ref c0, .ref f0, .ref m0, .ref t0, .ref y0, .ref n0, .int (bB hs)]))] (fun r_ w_ => r_ = some (.int (-1)) ∧ w_ = [(b0, .inr (8, [.ref w0, .ref h0, .ref c0, .ref f0, .ref m0, .ref t0, .ref y0, .ref n0, .int (bB hs)]))]) 0 0 := by
  refine CM_int (own := RX8) (cc := cX8_sand) (maxL := 5) (L0 := [(0, .ref b0), (1, .int (bB r)), (2, .int x)]) (by decide) rfl rfl (Nat.le_of_ble_eq_true rfl) rfl (fun X O E => ?_)
  refine g_iload_n O dX8_sand_0 2 rfl rfl ?_
  refine g_callS (As := [.int x]) (wr := [(b0, .inr (8, [.ref w0, .ref h0, .ref c0, .ref f0, .ref m0, .ref t0, .ref y0, .ref n0, .int (bB hs)]))]) O (kX8_isLine l D z x ) gX8_sand_X8_isLine rfl rfl rfl 1 (by decide +kernel) (by decide) (by decide) [] [0] rfl (by decide) rfl (by decide) (by decide) rfl rfl (Nat.le_of_ble_eq_true rfl) dX8_sand_1 (fun r_1 w_2 hp => ?_)
  obtain ⟨rfl, rfl⟩ := hp
  refine g_eq (st' := [.int (bB (rgB x 12))]) (ws' := [(b0, .inr (8, [.ref w0, .ref h0, .ref c0, .ref f0, .ref m0, .ref t0, .ref y0, .ref n0, .int (bB hs)]))]) rfl rfl rfl ?_
  refine g_if_neB (tgt := 9) O dX8_sand_4 (by decide) (fun c_3 => absurd c_3 (by rw [hb]; decide)) (fun c_3 => ?_)
  refine g_iconst (x := (-1)) O dX8_sand_7 (by decide +kernel) ?_
  exact E 8 _ (-1) _ dX8_sand_8 ⟨rfl, rfl⟩

theorem hiX8_sand_X5 : ∀ w ∈ wsX50, w ∈ wsX8_sand := by decide +kernel
theorem hiX8_sand_X8 : ∀ w ∈ wsX80, w ∈ wsX8_sand := by decide +kernel
set_option maxHeartbeats 4000000 in
set_option maxRecDepth 100000 in
/-- sand -/
theorem kX8_sand_row (l : Launch) (D : va_G) (z : Nat × Nat × Nat) (b0 : Nat) (w0 : Nat) (c0 : Nat) (f0 : Nat) (m0 : Nat) (t0 : Nat) (n0 : Nat) (hs : Bool) (y0 : Nat) (h0 : Nat) (h1 : Nat) (h2 : Nat) (h3 : Nat) (h4 : Nat) (h5 : Nat) (s : SV) (x : Nat) (hx : x < 12) : CM l yX8_sand wsX8_sand ({ frames := 1, cells := 0, slots := 0, locals := 21 } : Room) D z [.ref b0, .int (bB true), .int (nI x)] [(b0, .inr (8, [.ref w0, .ref h0, .ref c0, .ref f0, .ref m0, .ref t0, .ref y0, .ref n0, .int (bB hs)])), (h0, .inr (5, [.ref h1, .ref h2, .ref h3, .int (nI (sv_nc s)), .ref h4, .ref h5, .int (sv_la s), .int (sv_st s), .int (sv_sw s), .int (sv_fl s), .int (sv_sk s), .int (sv_mu s)])), (h1, .inl ((TY D)[0].1, 144, .inl (nf (sv_g s))))] (fun r_ w_ => r_ = some (.int (nI (smN (fun k => sv_g s (x * 12 + k)) 12))) ∧ w_ = [(b0, .inr (8, [.ref w0, .ref h0, .ref c0, .ref f0, .ref m0, .ref t0, .ref y0, .ref n0, .int (bB hs)])), (h0, .inr (5, [.ref h1, .ref h2, .ref h3, .int (nI (sv_nc s)), .ref h4, .ref h5, .int (sv_la s), .int (sv_st s), .int (sv_sw s), .int (sv_fl s), .int (sv_sk s), .int (sv_mu s)])), (h1, .inl ((TY D)[0].1, 144, .inl (nf (sv_g s))))]) 0 0 := by
  refine CM_int (own := RX8) (cc := cX8_sand) (maxL := 5) (L0 := [(0, .ref b0), (1, .int (bB true)), (2, .int (nI x))]) (by decide) rfl rfl (Nat.le_of_ble_eq_true rfl) rfl (fun X O E => ?_)
  refine g_iload_n O dX8_sand_0 2 rfl rfl ?_
  refine g_callS (As := [.int (nI x)]) (wr := [(b0, .inr (8, [.ref w0, .ref h0, .ref c0, .ref f0, .ref m0, .ref t0, .ref y0, .ref n0, .int (bB hs)])), (h0, .inr (5, [.ref h1, .ref h2, .ref h3, .int (nI (sv_nc s)), .ref h4, .ref h5, .int (sv_la s), .int (sv_st s), .int (sv_sw s), .int (sv_fl s), .int (sv_sk s), .int (sv_mu s)])), (h1, .inl ((TY D)[0].1, 144, .inl (nf (sv_g s))))]) O (kX8_isLine l D z (nI x) ) gX8_sand_X8_isLine rfl rfl rfl 1 (by decide +kernel) (by decide) (by decide) [] [0, 1, 2] rfl (by decide) rfl (by decide) (by decide) rfl rfl (Nat.le_of_ble_eq_true rfl) dX8_sand_1 (fun r_1 w_2 hp => ?_)
  obtain ⟨rfl, rfl⟩ := hp
  refine g_eq (st' := [.int (bB (rgB (nI x) 12))]) (ws' := [(b0, .inr (8, [.ref w0, .ref h0, .ref c0, .ref f0, .ref m0, .ref t0, .ref y0, .ref n0, .int (bB hs)])), (h0, .inr (5, [.ref h1, .ref h2, .ref h3, .int (nI (sv_nc s)), .ref h4, .ref h5, .int (sv_la s), .int (sv_st s), .int (sv_sw s), .int (sv_fl s), .int (sv_sk s), .int (sv_mu s)])), (h1, .inl ((TY D)[0].1, 144, .inl (nf (sv_g s))))]) rfl rfl rfl ?_
  refine g_if_neB (tgt := 9) O dX8_sand_4 (by decide) (fun c_3 => ?_) (fun c_3 => absurd c_3 (by rw [rgB_t hx (by decide)]; decide))
  refine g_iconst (x := (nI 0)) O dX8_sand_9 (by decide +kernel) ?_
  refine g_istore_n (L' := [(0, .ref b0), (1, .int (bB true)), (2, .int (nI x)), (3, .int (nI 0))]) O dX8_sand_10 rfl (by decide) [1, 2, 3, 0] rfl ?_
  refine g_iconst (x := (nI 0)) O dX8_sand_11 (by decide +kernel) ?_
  refine g_istore (L' := [(0, .ref b0), (1, .int (bB true)), (2, .int (nI x)), (3, .int (nI 0)), (4, .int (nI 0))]) O dX8_sand_12 (by decide) [1, 2, 3, 4, 0] rfl ?_
  have J14 : ∀ (n_ : Nat), ∀ (i_ : Nat) (hi_ : i_ ≤ 12), 12 - i_ < n_ → G X 0 0 14 [(0, .ref b0), (1, .int (bB true)), (2, .int (nI x)), (3, .int (nI (smN (fun k => sv_g s (x * 12 + k)) i_))), (4, .int (nI i_))] [] [(b0, .inr (8, [.ref w0, .ref h0, .ref c0, .ref f0, .ref m0, .ref t0, .ref y0, .ref n0, .int (bB hs)])), (h0, .inr (5, [.ref h1, .ref h2, .ref h3, .int (nI (sv_nc s)), .ref h4, .ref h5, .int (sv_la s), .int (sv_st s), .int (sv_sw s), .int (sv_fl s), .int (sv_sk s), .int (sv_mu s)])), (h1, .inl ((TY D)[0].1, 144, .inl (nf (sv_g s))))] := by
    intro n_
    induction n_ with
    | zero => intro i_ hi_ hm_; exact absurd hm_ (Nat.not_lt_zero _)
    | succ n_ ih_ =>
      intro i_ hi_ hm_
      refine g_iload O dX8_sand_14 4 rfl ?_
      refine g_bipush (x := (nI 12)) O dX8_sand_16 (by decide +kernel) ?_
      refine g_icmp_geN (tgt := 57) O (by omega) (by omega) dX8_sand_18 (by decide) (fun c_4 => ?_) (fun c_4 => ?_)
      ·
        obtain rfl : i_ = 12 := by omega
        refine g_iload_n O dX8_sand_57 3 rfl rfl ?_
        exact E 58 _ (nI (smN (fun k => sv_g s (x * 12 + k)) 12)) _ dX8_sand_58 ⟨rfl, rfl⟩
      ·
        refine g_iload_n O dX8_sand_21 3 rfl rfl ?_
        refine g_aload_n O dX8_sand_22 0 rfl rfl ?_
        refine g_get O hiX8_sand_X8 0 rfl rfl 1 (by decide) (by decide +kernel) rfl dX8_sand_23 ?_
        refine g_getN O hiX8_sand_X5 1 rfl rfl 0 (by decide) 9 rfl rfl dX8_sand_26 ?_
        refine g_iload_n O dX8_sand_29 1 rfl rfl ?_
        refine g_if_eqB (tgt := 42) O dX8_sand_30 (by decide) (fun c_5 => absurd c_5 (by decide)) (fun c_5 => ?_)
        refine g_iload O dX8_sand_33 4 rfl ?_
        refine g_iload_n O dX8_sand_35 2 rfl rfl ?_
        refine g_callS (As := [.int (nI i_), .int (nI x)]) (wr := [(b0, .inr (8, [.ref w0, .ref h0, .ref c0, .ref f0, .ref m0, .ref t0, .ref y0, .ref n0, .int (bB hs)])), (h0, .inr (5, [.ref h1, .ref h2, .ref h3, .int (nI (sv_nc s)), .ref h4, .ref h5, .int (sv_la s), .int (sv_st s), .int (sv_sw s), .int (sv_fl s), .int (sv_sk s), .int (sv_mu s)])), (h1, .inl ((TY D)[0].1, 144, .inl (nf (sv_g s))))]) O (kX8_placeOf l D z i_ x ) gX8_sand_X8_placeOf rfl rfl rfl 2 (by decide +kernel) (by decide) (by decide) [] [0, 1, 2] rfl (by decide) rfl (by decide) (by decide) rfl rfl (Nat.le_of_ble_eq_true rfl) dX8_sand_36 (fun r_6 w_7 hp => ?_)
        obtain ⟨rfl, rfl⟩ := hp
        refine g_eq (st' := [.int (nI (x * 12 + i_)), .ref h1, .int (nI (smN (fun k => sv_g s (x * 12 + k)) i_))]) (ws' := [(b0, .inr (8, [.ref w0, .ref h0, .ref c0, .ref f0, .ref m0, .ref t0, .ref y0, .ref n0, .int (bB hs)])), (h0, .inr (5, [.ref h1, .ref h2, .ref h3, .int (nI (sv_nc s)), .ref h4, .ref h5, .int (sv_la s), .int (sv_st s), .int (sv_sw s), .int (sv_fl s), .int (sv_sk s), .int (sv_mu s)])), (h1, .inl ((TY D)[0].1, 144, .inl (nf (sv_g s))))]) rfl rfl rfl ?_
        refine g_goto (tgt := 48) O dX8_sand_39 (by decide) ?_
        refine g_ialdN O 2 rfl (by omega) (by omega) dX8_sand_48 ?_
        refine g_iaddN O dX8_sand_49 ?_
        refine g_istore_n (L' := [(0, .ref b0), (1, .int (bB true)), (2, .int (nI x)), (3, .int (nI ((smN (fun k => sv_g s (x * 12 + k)) i_) + ((sv_g s) (x * 12 + i_))))), (4, .int (nI i_))]) O dX8_sand_50 rfl (by decide) [1, 2, 3, 0, 4] rfl ?_
        refine g_eq (L' := [(0, .ref b0), (1, .int (bB true)), (2, .int (nI x)), (3, .int (nI (smN (fun k => sv_g s (x * 12 + k)) (i_ + 1)))), (4, .int (nI i_))]) rfl rfl rfl ?_
        refine g_iincN (L' := [(0, .ref b0), (1, .int (bB true)), (2, .int (nI x)), (3, .int (nI (smN (fun k => sv_g s (x * 12 + k)) (i_ + 1)))), (4, .int (nI (i_ + 1)))]) O dX8_sand_51 4 rfl (by decide) [1, 2, 3, 4, 0] rfl ?_
        refine g_goto (tgt := 14) O dX8_sand_54 (by decide) ?_
        exact ih_ (i_ + 1) (by first | assumption | omega | rfl) (by omega)
  exact J14 _ 0 (Nat.zero_le _) (Nat.lt_succ_self _)

set_option maxHeartbeats 4000000 in
set_option maxRecDepth 100000 in
/-- sand -/
theorem kX8_sand_col (l : Launch) (D : va_G) (z : Nat × Nat × Nat) (b0 : Nat) (w0 : Nat) (c0 : Nat) (f0 : Nat) (m0 : Nat) (t0 : Nat) (n0 : Nat) (hs : Bool) (y0 : Nat) (h0 : Nat) (h1 : Nat) (h2 : Nat) (h3 : Nat) (h4 : Nat) (h5 : Nat) (s : SV) (x : Nat) (hx : x < 12) : CM l yX8_sand wsX8_sand ({ frames := 1, cells := 0, slots := 0, locals := 21 } : Room) D z [.ref b0, .int (bB false), .int (nI x)] [(b0, .inr (8, [.ref w0, .ref h0, .ref c0, .ref f0, .ref m0, .ref t0, .ref y0, .ref n0, .int (bB hs)])), (h0, .inr (5, [.ref h1, .ref h2, .ref h3, .int (nI (sv_nc s)), .ref h4, .ref h5, .int (sv_la s), .int (sv_st s), .int (sv_sw s), .int (sv_fl s), .int (sv_sk s), .int (sv_mu s)])), (h1, .inl ((TY D)[0].1, 144, .inl (nf (sv_g s))))] (fun r_ w_ => r_ = some (.int (nI (smN (fun k => sv_g s (k * 12 + x)) 12))) ∧ w_ = [(b0, .inr (8, [.ref w0, .ref h0, .ref c0, .ref f0, .ref m0, .ref t0, .ref y0, .ref n0, .int (bB hs)])), (h0, .inr (5, [.ref h1, .ref h2, .ref h3, .int (nI (sv_nc s)), .ref h4, .ref h5, .int (sv_la s), .int (sv_st s), .int (sv_sw s), .int (sv_fl s), .int (sv_sk s), .int (sv_mu s)])), (h1, .inl ((TY D)[0].1, 144, .inl (nf (sv_g s))))]) 0 0 := by
  refine CM_int (own := RX8) (cc := cX8_sand) (maxL := 5) (L0 := [(0, .ref b0), (1, .int (bB false)), (2, .int (nI x))]) (by decide) rfl rfl (Nat.le_of_ble_eq_true rfl) rfl (fun X O E => ?_)
  refine g_iload_n O dX8_sand_0 2 rfl rfl ?_
  refine g_callS (As := [.int (nI x)]) (wr := [(b0, .inr (8, [.ref w0, .ref h0, .ref c0, .ref f0, .ref m0, .ref t0, .ref y0, .ref n0, .int (bB hs)])), (h0, .inr (5, [.ref h1, .ref h2, .ref h3, .int (nI (sv_nc s)), .ref h4, .ref h5, .int (sv_la s), .int (sv_st s), .int (sv_sw s), .int (sv_fl s), .int (sv_sk s), .int (sv_mu s)])), (h1, .inl ((TY D)[0].1, 144, .inl (nf (sv_g s))))]) O (kX8_isLine l D z (nI x) ) gX8_sand_X8_isLine rfl rfl rfl 1 (by decide +kernel) (by decide) (by decide) [] [0, 1, 2] rfl (by decide) rfl (by decide) (by decide) rfl rfl (Nat.le_of_ble_eq_true rfl) dX8_sand_1 (fun r_1 w_2 hp => ?_)
  obtain ⟨rfl, rfl⟩ := hp
  refine g_eq (st' := [.int (bB (rgB (nI x) 12))]) (ws' := [(b0, .inr (8, [.ref w0, .ref h0, .ref c0, .ref f0, .ref m0, .ref t0, .ref y0, .ref n0, .int (bB hs)])), (h0, .inr (5, [.ref h1, .ref h2, .ref h3, .int (nI (sv_nc s)), .ref h4, .ref h5, .int (sv_la s), .int (sv_st s), .int (sv_sw s), .int (sv_fl s), .int (sv_sk s), .int (sv_mu s)])), (h1, .inl ((TY D)[0].1, 144, .inl (nf (sv_g s))))]) rfl rfl rfl ?_
  refine g_if_neB (tgt := 9) O dX8_sand_4 (by decide) (fun c_3 => ?_) (fun c_3 => absurd c_3 (by rw [rgB_t hx (by decide)]; decide))
  refine g_iconst (x := (nI 0)) O dX8_sand_9 (by decide +kernel) ?_
  refine g_istore_n (L' := [(0, .ref b0), (1, .int (bB false)), (2, .int (nI x)), (3, .int (nI 0))]) O dX8_sand_10 rfl (by decide) [1, 2, 3, 0] rfl ?_
  refine g_iconst (x := (nI 0)) O dX8_sand_11 (by decide +kernel) ?_
  refine g_istore (L' := [(0, .ref b0), (1, .int (bB false)), (2, .int (nI x)), (3, .int (nI 0)), (4, .int (nI 0))]) O dX8_sand_12 (by decide) [1, 2, 3, 4, 0] rfl ?_
  have J14 : ∀ (n_ : Nat), ∀ (i_ : Nat) (hi_ : i_ ≤ 12), 12 - i_ < n_ → G X 0 0 14 [(0, .ref b0), (1, .int (bB false)), (2, .int (nI x)), (3, .int (nI (smN (fun k => sv_g s (k * 12 + x)) i_))), (4, .int (nI i_))] [] [(b0, .inr (8, [.ref w0, .ref h0, .ref c0, .ref f0, .ref m0, .ref t0, .ref y0, .ref n0, .int (bB hs)])), (h0, .inr (5, [.ref h1, .ref h2, .ref h3, .int (nI (sv_nc s)), .ref h4, .ref h5, .int (sv_la s), .int (sv_st s), .int (sv_sw s), .int (sv_fl s), .int (sv_sk s), .int (sv_mu s)])), (h1, .inl ((TY D)[0].1, 144, .inl (nf (sv_g s))))] := by
    intro n_
    induction n_ with
    | zero => intro i_ hi_ hm_; exact absurd hm_ (Nat.not_lt_zero _)
    | succ n_ ih_ =>
      intro i_ hi_ hm_
      refine g_iload O dX8_sand_14 4 rfl ?_
      refine g_bipush (x := (nI 12)) O dX8_sand_16 (by decide +kernel) ?_
      refine g_icmp_geN (tgt := 57) O (by omega) (by omega) dX8_sand_18 (by decide) (fun c_4 => ?_) (fun c_4 => ?_)
      ·
        obtain rfl : i_ = 12 := by omega
        refine g_iload_n O dX8_sand_57 3 rfl rfl ?_
        exact E 58 _ (nI (smN (fun k => sv_g s (k * 12 + x)) 12)) _ dX8_sand_58 ⟨rfl, rfl⟩
      ·
        refine g_iload_n O dX8_sand_21 3 rfl rfl ?_
        refine g_aload_n O dX8_sand_22 0 rfl rfl ?_
        refine g_get O hiX8_sand_X8 0 rfl rfl 1 (by decide) (by decide +kernel) rfl dX8_sand_23 ?_
        refine g_getN O hiX8_sand_X5 1 rfl rfl 0 (by decide) 9 rfl rfl dX8_sand_26 ?_
        refine g_iload_n O dX8_sand_29 1 rfl rfl ?_
        refine g_if_eqB (tgt := 42) O dX8_sand_30 (by decide) (fun c_5 => ?_) (fun c_5 => absurd c_5 (by decide))
        refine g_iload_n O dX8_sand_42 2 rfl rfl ?_
        refine g_iload O dX8_sand_43 4 rfl ?_
        refine g_callS (As := [.int (nI x), .int (nI i_)]) (wr := [(b0, .inr (8, [.ref w0, .ref h0, .ref c0, .ref f0, .ref m0, .ref t0, .ref y0, .ref n0, .int (bB hs)])), (h0, .inr (5, [.ref h1, .ref h2, .ref h3, .int (nI (sv_nc s)), .ref h4, .ref h5, .int (sv_la s), .int (sv_st s), .int (sv_sw s), .int (sv_fl s), .int (sv_sk s), .int (sv_mu s)])), (h1, .inl ((TY D)[0].1, 144, .inl (nf (sv_g s))))]) O (kX8_placeOf l D z x i_ ) gX8_sand_X8_placeOf rfl rfl rfl 2 (by decide +kernel) (by decide) (by decide) [] [0, 1, 2] rfl (by decide) rfl (by decide) (by decide) rfl rfl (Nat.le_of_ble_eq_true rfl) dX8_sand_45 (fun r_6 w_7 hp => ?_)
        obtain ⟨rfl, rfl⟩ := hp
        refine g_eq (st' := [.int (nI (i_ * 12 + x)), .ref h1, .int (nI (smN (fun k => sv_g s (k * 12 + x)) i_))]) (ws' := [(b0, .inr (8, [.ref w0, .ref h0, .ref c0, .ref f0, .ref m0, .ref t0, .ref y0, .ref n0, .int (bB hs)])), (h0, .inr (5, [.ref h1, .ref h2, .ref h3, .int (nI (sv_nc s)), .ref h4, .ref h5, .int (sv_la s), .int (sv_st s), .int (sv_sw s), .int (sv_fl s), .int (sv_sk s), .int (sv_mu s)])), (h1, .inl ((TY D)[0].1, 144, .inl (nf (sv_g s))))]) rfl rfl rfl ?_
        refine g_ialdN O 2 rfl (by omega) (by omega) dX8_sand_48 ?_
        refine g_iaddN O dX8_sand_49 ?_
        refine g_istore_n (L' := [(0, .ref b0), (1, .int (bB false)), (2, .int (nI x)), (3, .int (nI ((smN (fun k => sv_g s (k * 12 + x)) i_) + ((sv_g s) (i_ * 12 + x))))), (4, .int (nI i_))]) O dX8_sand_50 rfl (by decide) [1, 2, 3, 0, 4] rfl ?_
        refine g_eq (L' := [(0, .ref b0), (1, .int (bB false)), (2, .int (nI x)), (3, .int (nI (smN (fun k => sv_g s (k * 12 + x)) (i_ + 1)))), (4, .int (nI i_))]) rfl rfl rfl ?_
        refine g_iincN (L' := [(0, .ref b0), (1, .int (bB false)), (2, .int (nI x)), (3, .int (nI (smN (fun k => sv_g s (k * 12 + x)) (i_ + 1)))), (4, .int (nI (i_ + 1)))]) O dX8_sand_51 4 rfl (by decide) [1, 2, 3, 4, 0] rfl ?_
        refine g_goto (tgt := 14) O dX8_sand_54 (by decide) ?_
        exact ih_ (i_ + 1) (by first | assumption | omega | rfl) (by omega)
  exact J14 _ 0 (Nat.zero_le _) (Nat.lt_succ_self _)

set_option maxHeartbeats 4000000 in
set_option maxRecDepth 100000 in
theorem kX8_count_b1 (l : Launch) (D : va_G) (z : Nat × Nat × Nat) (b0 : Nat) (w0 : Nat) (c0 : Nat) (f0 : Nat) (m0 : Nat) (t0 : Nat) (n0 : Nat) (hs : Bool) (y0 : Nat) (h0 : Nat) (k : Int32) (hsw : k < 0 ∨ nI 17 ≤ k) : CM l yX8_count wsX8_count ({ frames := 6, cells := 0, slots := 0, locals := 138 } : Room) D z [.ref b0, .int k] [(b0, .inr (8, [.ref w0, .ref h0, .ref c0, .ref f0, .ref m0, .ref t0, .ref y0, .ref n0, .int (bB hs)]))] (fun r_ w_ => r_ = some (.int (-2)) ∧ w_ = [(b0, .inr (8, [.ref w0, .ref h0, .ref c0, .ref f0, .ref m0, .ref t0, .ref y0, .ref n0, .int (bB hs)]))]) 0 0 := by
  refine CM_int (own := RX8) (cc := cX8_count) (maxL := 2) (L0 := [(0, .ref b0), (1, .int k)]) (by decide) rfl rfl (Nat.le_of_ble_eq_true rfl) rfl (fun X O E => ?_)
  refine g_iload_n O dX8_count_0 1 rfl rfl ?_
  refine g_tableO (tgt := 214) (N := 17) O dX8_count_1 hsw (by decide) (by decide) (by decide) ?_
  refine g_bipush (x := (-2)) O dX8_count_214 (by decide +kernel) ?_
  exact E 216 _ (-2) _ dX8_count_216 ⟨rfl, rfl⟩

theorem hiX8_count_X8 : ∀ w ∈ wsX80, w ∈ wsX8_count := by decide +kernel
set_option maxHeartbeats 4000000 in
set_option maxRecDepth 100000 in
theorem kX8_count_0 (l : Launch) (D : va_G) (z : Nat × Nat × Nat) (b0 : Nat) (w0 : Nat) (c0 : Nat) (f0 : Nat) (m0 : Nat) (t0 : Nat) (n0 : Nat) (hs : Bool) (y0 : Nat) (h0 : Nat) (h1 : Nat) (h2 : Nat) (h3 : Nat) (h4 : Nat) (h5 : Nat) (s : SV)  : CM l yX8_count wsX8_count ({ frames := 6, cells := 0, slots := 0, locals := 138 } : Room) D z [.ref b0, .int (nI 0)] [(b0, .inr (8, [.ref w0, .ref h0, .ref c0, .ref f0, .ref m0, .ref t0, .ref y0, .ref n0, .int (bB hs)])), (h0, .inr (5, [.ref h1, .ref h2, .ref h3, .int (nI (sv_nc s)), .ref h4, .ref h5, .int (sv_la s), .int (sv_st s), .int (sv_sw s), .int (sv_fl s), .int (sv_sk s), .int (sv_mu s)])), (h1, .inl ((TY D)[0].1, 144, .inl (nf (sv_g s))))] (fun r_ w_ => r_ = some (.int (nI (smN (sv_g s) 144))) ∧ w_ = [(b0, .inr (8, [.ref w0, .ref h0, .ref c0, .ref f0, .ref m0, .ref t0, .ref y0, .ref n0, .int (bB hs)])), (h0, .inr (5, [.ref h1, .ref h2, .ref h3, .int (nI (sv_nc s)), .ref h4, .ref h5, .int (sv_la s), .int (sv_st s), .int (sv_sw s), .int (sv_fl s), .int (sv_sk s), .int (sv_mu s)])), (h1, .inl ((TY D)[0].1, 144, .inl (nf (sv_g s))))]) 0 0 := by
  refine CM_int (own := RX8) (cc := cX8_count) (maxL := 2) (L0 := [(0, .ref b0), (1, .int (nI 0))]) (by decide) rfl rfl (Nat.le_of_ble_eq_true rfl) rfl (fun X O E => ?_)
  refine g_iload_n O dX8_count_0 1 rfl rfl ?_
  refine g_tableIn (off := 83) (tgt := 84) O dX8_count_1 (by decide +kernel) (by decide +kernel) (by decide +kernel) (by decide) ?_
  refine g_aload_n O dX8_count_84 0 rfl rfl ?_
  refine g_get O hiX8_count_X8 0 rfl rfl 1 (by decide) (by decide +kernel) rfl dX8_count_85 ?_
  refine g_callV (As := []) (wr := [(b0, .inr (8, [.ref w0, .ref h0, .ref c0, .ref f0, .ref m0, .ref t0, .ref y0, .ref n0, .int (bB hs)]))]) O (kX5_allGrains l D z h0 h1 h2 h3 h4 h5 (sv_nc s) (sv_la s) (sv_st s) (sv_sw s) (sv_fl s) (sv_sk s) (sv_mu s) (sv_g s) ) gX8_count_X5_allGrains rfl rfl rfl 0 (by decide +kernel) (by decide) (by decide) (q0 := 0) rfl rfl rfl [1, 2] [0] rfl (by decide) rfl (by decide) (by decide) rfl rfl (Nat.le_of_ble_eq_true rfl) dX8_count_88 (fun r_1 w_2 hp => ?_)
  obtain ⟨rfl, rfl⟩ := hp
  refine g_eq (st' := [.int (nI (smN (sv_g s) 144))]) (ws' := [(b0, .inr (8, [.ref w0, .ref h0, .ref c0, .ref f0, .ref m0, .ref t0, .ref y0, .ref n0, .int (bB hs)])), (h0, .inr (5, [.ref h1, .ref h2, .ref h3, .int (nI (sv_nc s)), .ref h4, .ref h5, .int (sv_la s), .int (sv_st s), .int (sv_sw s), .int (sv_fl s), .int (sv_sk s), .int (sv_mu s)])), (h1, .inl ((TY D)[0].1, 144, .inl (nf (sv_g s))))]) rfl rfl rfl ?_
  exact E 91 _ (nI (smN (sv_g s) 144)) _ dX8_count_91 ⟨rfl, rfl⟩

theorem hiX8_count_X5 : ∀ w ∈ wsX50, w ∈ wsX8_count := by decide +kernel
set_option maxHeartbeats 4000000 in
set_option maxRecDepth 100000 in
theorem kX8_count_1 (l : Launch) (D : va_G) (z : Nat × Nat × Nat) (b0 : Nat) (w0 : Nat) (c0 : Nat) (f0 : Nat) (m0 : Nat) (t0 : Nat) (n0 : Nat) (hs : Bool) (y0 : Nat) (h0 : Nat) (h1 : Nat) (h2 : Nat) (h3 : Nat) (h4 : Nat) (h5 : Nat) (s : SV)  : CM l yX8_count wsX8_count ({ frames := 6, cells := 0, slots := 0, locals := 138 } : Room) D z [.ref b0, .int (nI 1)] [(b0, .inr (8, [.ref w0, .ref h0, .ref c0, .ref f0, .ref m0, .ref t0, .ref y0, .ref n0, .int (bB hs)])), (h0, .inr (5, [.ref h1, .ref h2, .ref h3, .int (nI (sv_nc s)), .ref h4, .ref h5, .int (sv_la s), .int (sv_st s), .int (sv_sw s), .int (sv_fl s), .int (sv_sk s), .int (sv_mu s)]))] (fun r_ w_ => r_ = some (.int (sv_st s)) ∧ w_ = [(b0, .inr (8, [.ref w0, .ref h0, .ref c0, .ref f0, .ref m0, .ref t0, .ref y0, .ref n0, .int (bB hs)])), (h0, .inr (5, [.ref h1, .ref h2, .ref h3, .int (nI (sv_nc s)), .ref h4, .ref h5, .int (sv_la s), .int (sv_st s), .int (sv_sw s), .int (sv_fl s), .int (sv_sk s), .int (sv_mu s)]))]) 0 0 := by
  refine CM_int (own := RX8) (cc := cX8_count) (maxL := 2) (L0 := [(0, .ref b0), (1, .int (nI 1))]) (by decide) rfl rfl (Nat.le_of_ble_eq_true rfl) rfl (fun X O E => ?_)
  refine g_iload_n O dX8_count_0 1 rfl rfl ?_
  refine g_tableIn (off := 91) (tgt := 92) O dX8_count_1 (by decide +kernel) (by decide +kernel) (by decide +kernel) (by decide) ?_
  refine g_aload_n O dX8_count_92 0 rfl rfl ?_
  refine g_get O hiX8_count_X8 0 rfl rfl 1 (by decide) (by decide +kernel) rfl dX8_count_93 ?_
  refine g_getN O hiX8_count_X5 1 rfl rfl 7 (by decide) 24 rfl rfl dX8_count_96 ?_
  exact E 99 _ (sv_st s) _ dX8_count_99 ⟨rfl, rfl⟩

set_option maxHeartbeats 4000000 in
set_option maxRecDepth 100000 in
theorem kX8_count_2 (l : Launch) (D : va_G) (z : Nat × Nat × Nat) (b0 : Nat) (w0 : Nat) (c0 : Nat) (f0 : Nat) (m0 : Nat) (t0 : Nat) (n0 : Nat) (hs : Bool) (y0 : Nat) (h0 : Nat) (h1 : Nat) (h2 : Nat) (h3 : Nat) (h4 : Nat) (h5 : Nat) (s : SV)  : CM l yX8_count wsX8_count ({ frames := 6, cells := 0, slots := 0, locals := 138 } : Room) D z [.ref b0, .int (nI 2)] [(b0, .inr (8, [.ref w0, .ref h0, .ref c0, .ref f0, .ref m0, .ref t0, .ref y0, .ref n0, .int (bB hs)])), (h0, .inr (5, [.ref h1, .ref h2, .ref h3, .int (nI (sv_nc s)), .ref h4, .ref h5, .int (sv_la s), .int (sv_st s), .int (sv_sw s), .int (sv_fl s), .int (sv_sk s), .int (sv_mu s)]))] (fun r_ w_ => r_ = some (.int (sv_sw s)) ∧ w_ = [(b0, .inr (8, [.ref w0, .ref h0, .ref c0, .ref f0, .ref m0, .ref t0, .ref y0, .ref n0, .int (bB hs)])), (h0, .inr (5, [.ref h1, .ref h2, .ref h3, .int (nI (sv_nc s)), .ref h4, .ref h5, .int (sv_la s), .int (sv_st s), .int (sv_sw s), .int (sv_fl s), .int (sv_sk s), .int (sv_mu s)]))]) 0 0 := by
  refine CM_int (own := RX8) (cc := cX8_count) (maxL := 2) (L0 := [(0, .ref b0), (1, .int (nI 2))]) (by decide) rfl rfl (Nat.le_of_ble_eq_true rfl) rfl (fun X O E => ?_)
  refine g_iload_n O dX8_count_0 1 rfl rfl ?_
  refine g_tableIn (off := 99) (tgt := 100) O dX8_count_1 (by decide +kernel) (by decide +kernel) (by decide +kernel) (by decide) ?_
  refine g_aload_n O dX8_count_100 0 rfl rfl ?_
  refine g_get O hiX8_count_X8 0 rfl rfl 1 (by decide) (by decide +kernel) rfl dX8_count_101 ?_
  refine g_getN O hiX8_count_X5 1 rfl rfl 8 (by decide) 25 rfl rfl dX8_count_104 ?_
  exact E 107 _ (sv_sw s) _ dX8_count_107 ⟨rfl, rfl⟩

set_option maxHeartbeats 4000000 in
set_option maxRecDepth 100000 in
theorem kX8_count_3 (l : Launch) (D : va_G) (z : Nat × Nat × Nat) (b0 : Nat) (w0 : Nat) (c0 : Nat) (f0 : Nat) (m0 : Nat) (t0 : Nat) (n0 : Nat) (hs : Bool) (y0 : Nat) (h0 : Nat) (h1 : Nat) (h2 : Nat) (h3 : Nat) (h4 : Nat) (h5 : Nat) (s : SV)  : CM l yX8_count wsX8_count ({ frames := 6, cells := 0, slots := 0, locals := 138 } : Room) D z [.ref b0, .int (nI 3)] [(b0, .inr (8, [.ref w0, .ref h0, .ref c0, .ref f0, .ref m0, .ref t0, .ref y0, .ref n0, .int (bB hs)])), (h0, .inr (5, [.ref h1, .ref h2, .ref h3, .int (nI (sv_nc s)), .ref h4, .ref h5, .int (sv_la s), .int (sv_st s), .int (sv_sw s), .int (sv_fl s), .int (sv_sk s), .int (sv_mu s)]))] (fun r_ w_ => r_ = some (.int (sv_fl s)) ∧ w_ = [(b0, .inr (8, [.ref w0, .ref h0, .ref c0, .ref f0, .ref m0, .ref t0, .ref y0, .ref n0, .int (bB hs)])), (h0, .inr (5, [.ref h1, .ref h2, .ref h3, .int (nI (sv_nc s)), .ref h4, .ref h5, .int (sv_la s), .int (sv_st s), .int (sv_sw s), .int (sv_fl s), .int (sv_sk s), .int (sv_mu s)]))]) 0 0 := by
  refine CM_int (own := RX8) (cc := cX8_count) (maxL := 2) (L0 := [(0, .ref b0), (1, .int (nI 3))]) (by decide) rfl rfl (Nat.le_of_ble_eq_true rfl) rfl (fun X O E => ?_)
  refine g_iload_n O dX8_count_0 1 rfl rfl ?_
  refine g_tableIn (off := 107) (tgt := 108) O dX8_count_1 (by decide +kernel) (by decide +kernel) (by decide +kernel) (by decide) ?_
  refine g_aload_n O dX8_count_108 0 rfl rfl ?_
  refine g_get O hiX8_count_X8 0 rfl rfl 1 (by decide) (by decide +kernel) rfl dX8_count_109 ?_
  refine g_getN O hiX8_count_X5 1 rfl rfl 9 (by decide) 27 rfl rfl dX8_count_112 ?_
  exact E 115 _ (sv_fl s) _ dX8_count_115 ⟨rfl, rfl⟩

set_option maxHeartbeats 4000000 in
set_option maxRecDepth 100000 in
theorem kX8_count_4 (l : Launch) (D : va_G) (z : Nat × Nat × Nat) (b0 : Nat) (w0 : Nat) (c0 : Nat) (f0 : Nat) (m0 : Nat) (t0 : Nat) (n0 : Nat) (hs : Bool) (y0 : Nat) (h0 : Nat) (h1 : Nat) (h2 : Nat) (h3 : Nat) (h4 : Nat) (h5 : Nat) (s : SV)  : CM l yX8_count wsX8_count ({ frames := 6, cells := 0, slots := 0, locals := 138 } : Room) D z [.ref b0, .int (nI 4)] [(b0, .inr (8, [.ref w0, .ref h0, .ref c0, .ref f0, .ref m0, .ref t0, .ref y0, .ref n0, .int (bB hs)])), (h0, .inr (5, [.ref h1, .ref h2, .ref h3, .int (nI (sv_nc s)), .ref h4, .ref h5, .int (sv_la s), .int (sv_st s), .int (sv_sw s), .int (sv_fl s), .int (sv_sk s), .int (sv_mu s)]))] (fun r_ w_ => r_ = some (.int (nI (sv_nc s))) ∧ w_ = [(b0, .inr (8, [.ref w0, .ref h0, .ref c0, .ref f0, .ref m0, .ref t0, .ref y0, .ref n0, .int (bB hs)])), (h0, .inr (5, [.ref h1, .ref h2, .ref h3, .int (nI (sv_nc s)), .ref h4, .ref h5, .int (sv_la s), .int (sv_st s), .int (sv_sw s), .int (sv_fl s), .int (sv_sk s), .int (sv_mu s)]))]) 0 0 := by
  refine CM_int (own := RX8) (cc := cX8_count) (maxL := 2) (L0 := [(0, .ref b0), (1, .int (nI 4))]) (by decide) rfl rfl (Nat.le_of_ble_eq_true rfl) rfl (fun X O E => ?_)
  refine g_iload_n O dX8_count_0 1 rfl rfl ?_
  refine g_tableIn (off := 115) (tgt := 116) O dX8_count_1 (by decide +kernel) (by decide +kernel) (by decide +kernel) (by decide) ?_
  refine g_aload_n O dX8_count_116 0 rfl rfl ?_
  refine g_get O hiX8_count_X8 0 rfl rfl 1 (by decide) (by decide +kernel) rfl dX8_count_117 ?_
  refine g_getN O hiX8_count_X5 1 rfl rfl 3 (by decide) 17 rfl rfl dX8_count_120 ?_
  exact E 123 _ (nI (sv_nc s)) _ dX8_count_123 ⟨rfl, rfl⟩

theorem hiX8_count_X4 : ∀ w ∈ wsX40, w ∈ wsX8_count := by decide +kernel
set_option maxHeartbeats 4000000 in
set_option maxRecDepth 100000 in
theorem kX8_count_5 (l : Launch) (D : va_G) (z : Nat × Nat × Nat) (b0 : Nat) (w0 : Nat) (c0 : Nat) (f0 : Nat) (m0 : Nat) (t0 : Nat) (n0 : Nat) (hs : Bool) (y0 : Nat) (h0 : Nat) (h1 : Nat) (h2 : Nat) (h3 : Nat) (h4 : Nat) (h5 : Nat) (h6 : Nat) (h7 : Nat) (h8 : Nat) (s : SV)  : CM l yX8_count wsX8_count ({ frames := 6, cells := 0, slots := 0, locals := 138 } : Room) D z [.ref b0, .int (nI 5)] [(b0, .inr (8, [.ref w0, .ref h0, .ref c0, .ref f0, .ref m0, .ref t0, .ref y0, .ref n0, .int (bB hs)])), (h0, .inr (5, [.ref h1, .ref h2, .ref h3, .int (nI (sv_nc s)), .ref h4, .ref h5, .int (sv_la s), .int (sv_st s), .int (sv_sw s), .int (sv_fl s), .int (sv_sk s), .int (sv_mu s)])), (h5, .inr (4, [.int (nI 16), .ref h6, .ref h7, .ref h8, .int (nI (sv_ps s))]))] (fun r_ w_ => r_ = some (.int (nI (sv_ps s))) ∧ w_ = [(b0, .inr (8, [.ref w0, .ref h0, .ref c0, .ref f0, .ref m0, .ref t0, .ref y0, .ref n0, .int (bB hs)])), (h0, .inr (5, [.ref h1, .ref h2, .ref h3, .int (nI (sv_nc s)), .ref h4, .ref h5, .int (sv_la s), .int (sv_st s), .int (sv_sw s), .int (sv_fl s), .int (sv_sk s), .int (sv_mu s)])), (h5, .inr (4, [.int (nI 16), .ref h6, .ref h7, .ref h8, .int (nI (sv_ps s))]))]) 0 0 := by
  refine CM_int (own := RX8) (cc := cX8_count) (maxL := 2) (L0 := [(0, .ref b0), (1, .int (nI 5))]) (by decide) rfl rfl (Nat.le_of_ble_eq_true rfl) rfl (fun X O E => ?_)
  refine g_iload_n O dX8_count_0 1 rfl rfl ?_
  refine g_tableIn (off := 123) (tgt := 124) O dX8_count_1 (by decide +kernel) (by decide +kernel) (by decide +kernel) (by decide) ?_
  refine g_aload_n O dX8_count_124 0 rfl rfl ?_
  refine g_get O hiX8_count_X8 0 rfl rfl 1 (by decide) (by decide +kernel) rfl dX8_count_125 ?_
  refine g_getN O hiX8_count_X5 1 rfl rfl 5 (by decide) 22 rfl rfl dX8_count_128 ?_
  refine g_getN O hiX8_count_X4 2 rfl rfl 4 (by decide) 7 rfl rfl dX8_count_131 ?_
  exact E 134 _ (nI (sv_ps s)) _ dX8_count_134 ⟨rfl, rfl⟩

set_option maxHeartbeats 4000000 in
set_option maxRecDepth 100000 in
theorem kX8_count_6 (l : Launch) (D : va_G) (z : Nat × Nat × Nat) (b0 : Nat) (w0 : Nat) (c0 : Nat) (f0 : Nat) (m0 : Nat) (t0 : Nat) (n0 : Nat) (hs : Bool) (y0 : Nat) (h0 : Nat) (h1 : Nat) (h2 : Nat) (h3 : Nat) (h4 : Nat) (h5 : Nat) (s : SV)  : CM l yX8_count wsX8_count ({ frames := 6, cells := 0, slots := 0, locals := 138 } : Room) D z [.ref b0, .int (nI 6)] [(b0, .inr (8, [.ref w0, .ref h0, .ref c0, .ref f0, .ref m0, .ref t0, .ref y0, .ref n0, .int (bB hs)])), (h0, .inr (5, [.ref h1, .ref h2, .ref h3, .int (nI (sv_nc s)), .ref h4, .ref h5, .int (sv_la s), .int (sv_st s), .int (sv_sw s), .int (sv_fl s), .int (sv_sk s), .int (sv_mu s)]))] (fun r_ w_ => r_ = some (.int (sv_sk s)) ∧ w_ = [(b0, .inr (8, [.ref w0, .ref h0, .ref c0, .ref f0, .ref m0, .ref t0, .ref y0, .ref n0, .int (bB hs)])), (h0, .inr (5, [.ref h1, .ref h2, .ref h3, .int (nI (sv_nc s)), .ref h4, .ref h5, .int (sv_la s), .int (sv_st s), .int (sv_sw s), .int (sv_fl s), .int (sv_sk s), .int (sv_mu s)]))]) 0 0 := by
  refine CM_int (own := RX8) (cc := cX8_count) (maxL := 2) (L0 := [(0, .ref b0), (1, .int (nI 6))]) (by decide) rfl rfl (Nat.le_of_ble_eq_true rfl) rfl (fun X O E => ?_)
  refine g_iload_n O dX8_count_0 1 rfl rfl ?_
  refine g_tableIn (off := 134) (tgt := 135) O dX8_count_1 (by decide +kernel) (by decide +kernel) (by decide +kernel) (by decide) ?_
  refine g_aload_n O dX8_count_135 0 rfl rfl ?_
  refine g_get O hiX8_count_X8 0 rfl rfl 1 (by decide) (by decide +kernel) rfl dX8_count_136 ?_
  refine g_getN O hiX8_count_X5 1 rfl rfl 10 (by decide) 28 rfl rfl dX8_count_139 ?_
  exact E 142 _ (sv_sk s) _ dX8_count_142 ⟨rfl, rfl⟩

set_option maxHeartbeats 4000000 in
set_option maxRecDepth 100000 in
theorem kX8_count_7 (l : Launch) (D : va_G) (z : Nat × Nat × Nat) (b0 : Nat) (w0 : Nat) (c0 : Nat) (f0 : Nat) (m0 : Nat) (t0 : Nat) (n0 : Nat) (hs : Bool) (y0 : Nat) (h0 : Nat) (h1 : Nat) (h2 : Nat) (h3 : Nat) (h4 : Nat) (h5 : Nat) (s : SV)  : CM l yX8_count wsX8_count ({ frames := 6, cells := 0, slots := 0, locals := 138 } : Room) D z [.ref b0, .int (nI 7)] [(b0, .inr (8, [.ref w0, .ref h0, .ref c0, .ref f0, .ref m0, .ref t0, .ref y0, .ref n0, .int (bB hs)])), (h0, .inr (5, [.ref h1, .ref h2, .ref h3, .int (nI (sv_nc s)), .ref h4, .ref h5, .int (sv_la s), .int (sv_st s), .int (sv_sw s), .int (sv_fl s), .int (sv_sk s), .int (sv_mu s)]))] (fun r_ w_ => r_ = some (.int (sv_mu s)) ∧ w_ = [(b0, .inr (8, [.ref w0, .ref h0, .ref c0, .ref f0, .ref m0, .ref t0, .ref y0, .ref n0, .int (bB hs)])), (h0, .inr (5, [.ref h1, .ref h2, .ref h3, .int (nI (sv_nc s)), .ref h4, .ref h5, .int (sv_la s), .int (sv_st s), .int (sv_sw s), .int (sv_fl s), .int (sv_sk s), .int (sv_mu s)]))]) 0 0 := by
  refine CM_int (own := RX8) (cc := cX8_count) (maxL := 2) (L0 := [(0, .ref b0), (1, .int (nI 7))]) (by decide) rfl rfl (Nat.le_of_ble_eq_true rfl) rfl (fun X O E => ?_)
  refine g_iload_n O dX8_count_0 1 rfl rfl ?_
  refine g_tableIn (off := 142) (tgt := 143) O dX8_count_1 (by decide +kernel) (by decide +kernel) (by decide +kernel) (by decide) ?_
  refine g_aload_n O dX8_count_143 0 rfl rfl ?_
  refine g_get O hiX8_count_X8 0 rfl rfl 1 (by decide) (by decide +kernel) rfl dX8_count_144 ?_
  refine g_getN O hiX8_count_X5 1 rfl rfl 11 (by decide) 29 rfl rfl dX8_count_147 ?_
  exact E 150 _ (sv_mu s) _ dX8_count_150 ⟨rfl, rfl⟩

set_option maxHeartbeats 4000000 in
set_option maxRecDepth 100000 in
theorem kX8_count_8 (l : Launch) (D : va_G) (z : Nat × Nat × Nat) (b0 : Nat) (w0 : Nat) (c0 : Nat) (f0 : Nat) (m0 : Nat) (t0 : Nat) (n0 : Nat) (hs : Bool) (y0 : Nat) (h0 : Nat) (h1 : Nat) (h2 : Nat) (h3 : Nat) (h4 : Nat) (h5 : Nat) (s : SV)  : CM l yX8_count wsX8_count ({ frames := 6, cells := 0, slots := 0, locals := 138 } : Room) D z [.ref b0, .int (nI 8)] [(b0, .inr (8, [.ref w0, .ref h0, .ref c0, .ref f0, .ref m0, .ref t0, .ref y0, .ref n0, .int (bB hs)])), (h0, .inr (5, [.ref h1, .ref h2, .ref h3, .int (nI (sv_nc s)), .ref h4, .ref h5, .int (sv_la s), .int (sv_st s), .int (sv_sw s), .int (sv_fl s), .int (sv_sk s), .int (sv_mu s)]))] (fun r_ w_ => r_ = some (.int (laM (sv_la s))) ∧ w_ = [(b0, .inr (8, [.ref w0, .ref h0, .ref c0, .ref f0, .ref m0, .ref t0, .ref y0, .ref n0, .int (bB hs)])), (h0, .inr (5, [.ref h1, .ref h2, .ref h3, .int (nI (sv_nc s)), .ref h4, .ref h5, .int (sv_la s), .int (sv_st s), .int (sv_sw s), .int (sv_fl s), .int (sv_sk s), .int (sv_mu s)]))]) 0 0 := by
  refine CM_int (own := RX8) (cc := cX8_count) (maxL := 2) (L0 := [(0, .ref b0), (1, .int (nI 8))]) (by decide) rfl rfl (Nat.le_of_ble_eq_true rfl) rfl (fun X O E => ?_)
  refine g_iload_n O dX8_count_0 1 rfl rfl ?_
  refine g_tableIn (off := 150) (tgt := 151) O dX8_count_1 (by decide +kernel) (by decide +kernel) (by decide +kernel) (by decide) ?_
  refine g_aload_n O dX8_count_151 0 rfl rfl ?_
  refine g_get O hiX8_count_X8 0 rfl rfl 1 (by decide) (by decide +kernel) rfl dX8_count_152 ?_
  refine g_getN O hiX8_count_X5 1 rfl rfl 6 (by decide) 23 rfl rfl dX8_count_155 ?_
  refine g_callS (As := [.int (sv_la s)]) (wr := [(b0, .inr (8, [.ref w0, .ref h0, .ref c0, .ref f0, .ref m0, .ref t0, .ref y0, .ref n0, .int (bB hs)])), (h0, .inr (5, [.ref h1, .ref h2, .ref h3, .int (nI (sv_nc s)), .ref h4, .ref h5, .int (sv_la s), .int (sv_st s), .int (sv_sw s), .int (sv_fl s), .int (sv_sk s), .int (sv_mu s)]))]) O (kX8_orNone l D z (sv_la s) ) gX8_count_X8_orNone rfl rfl rfl 1 (by decide +kernel) (by decide) (by decide) [] [0, 1] rfl (by decide) rfl (by decide) (by decide) rfl rfl (Nat.le_of_ble_eq_true rfl) dX8_count_158 (fun r_1 w_2 hp => ?_)
  obtain ⟨rfl, rfl⟩ := hp
  refine g_eq (st' := [.int (laM (sv_la s))]) (ws' := [(b0, .inr (8, [.ref w0, .ref h0, .ref c0, .ref f0, .ref m0, .ref t0, .ref y0, .ref n0, .int (bB hs)])), (h0, .inr (5, [.ref h1, .ref h2, .ref h3, .int (nI (sv_nc s)), .ref h4, .ref h5, .int (sv_la s), .int (sv_st s), .int (sv_sw s), .int (sv_fl s), .int (sv_sk s), .int (sv_mu s)]))]) rfl rfl rfl ?_
  exact E 161 _ (laM (sv_la s)) _ dX8_count_161 ⟨rfl, rfl⟩

theorem hiX8_count_X0 : ∀ w ∈ wsX00, w ∈ wsX8_count := by decide +kernel
set_option maxHeartbeats 4000000 in
set_option maxRecDepth 100000 in
theorem kX8_count_9 (l : Launch) (D : va_G) (z : Nat × Nat × Nat) (b0 : Nat) (w0 : Nat) (c0 : Nat) (f0 : Nat) (m0 : Nat) (t0 : Nat) (n0 : Nat) (hs : Bool) (y0 : Nat) (c1 : Nat) (c2 : Nat) (pn : Nat) (pf : Nat → Nat) (tk : Nat → Bool) (w1 : Nat) (w2 : Nat) (w3 : Nat) (w4 : Nat) (h0 : Nat) (h1 : Nat) (h2 : Nat) (h3 : Nat) (h4 : Nat) (h5 : Nat) (s : SV) (hnc : sv_nc s ≤ 4) (hcc : ∀ j, j < sv_nc s → sv_cc s j < 12 ∧ sv_cr s j < 12) : CM l yX8_count wsX8_count ({ frames := 6, cells := 0, slots := 0, locals := 138 } : Room) D z [.ref b0, .int (nI 9)] [(b0, .inr (8, [.ref w0, .ref h0, .ref c0, .ref f0, .ref m0, .ref t0, .ref y0, .ref n0, .int (bB hs)])), (c0, .inr (0, [.ref w0, .ref h0, .ref c1, .int (nI pn), .ref c2])), (c1, .inl ((TY D)[0].1, 48, .inl (nf pf))), (c2, .inl ((TY D)[1].1, 48, .inl (bf tk))), (w0, .inr (7, [.ref w1, .ref w2, .ref w3, .ref w4, .int (nI 48)])), (w1, .inl ((TY D)[0].1, 48, .inl (nf tM))), (w2, .inl ((TY D)[0].1, 48, .inl (nf tN))), (w3, .inl ((TY D)[0].1, 48, .inl (nf tS))), (w4, .inl ((TY D)[0].1, 84, .inl hT)), (h0, .inr (5, [.ref h1, .ref h2, .ref h3, .int (nI (sv_nc s)), .ref h4, .ref h5, .int (sv_la s), .int (sv_st s), .int (sv_sw s), .int (sv_fl s), .int (sv_sk s), .int (sv_mu s)])), (h2, .inl ((TY D)[0].1, 4, .inl (nf (sv_cc s)))), (h3, .inl ((TY D)[0].1, 4, .inl (nf (sv_cr s)))), (h4, .inl ((TY D)[0].1, 4, .inl (sv_se s)))] (fun r_ w_ => r_ = some (.int (nI (cntB (fpP s) 48))) ∧ w_ = [(b0, .inr (8, [.ref w0, .ref h0, .ref c0, .ref f0, .ref m0, .ref t0, .ref y0, .ref n0, .int (bB hs)])), (c0, .inr (0, [.ref w0, .ref h0, .ref c1, .int (nI (cntB (fpP s) 48)), .ref c2])), (c1, .inl ((TY D)[0].1, 48, .inl (nf (fpF s pf 48)))), (c2, .inl ((TY D)[1].1, 48, .inl (bf (fpK s 48)))), (w0, .inr (7, [.ref w1, .ref w2, .ref w3, .ref w4, .int (nI 48)])), (w1, .inl ((TY D)[0].1, 48, .inl (nf tM))), (w2, .inl ((TY D)[0].1, 48, .inl (nf tN))), (w3, .inl ((TY D)[0].1, 48, .inl (nf tS))), (w4, .inl ((TY D)[0].1, 84, .inl hT)), (h0, .inr (5, [.ref h1, .ref h2, .ref h3, .int (nI (sv_nc s)), .ref h4, .ref h5, .int (sv_la s), .int (sv_st s), .int (sv_sw s), .int (sv_fl s), .int (sv_sk s), .int (sv_mu s)])), (h2, .inl ((TY D)[0].1, 4, .inl (nf (sv_cc s)))), (h3, .inl ((TY D)[0].1, 4, .inl (nf (sv_cr s)))), (h4, .inl ((TY D)[0].1, 4, .inl (sv_se s)))]) 0 0 := by
  refine CM_int (own := RX8) (cc := cX8_count) (maxL := 2) (L0 := [(0, .ref b0), (1, .int (nI 9))]) (by decide) rfl rfl (Nat.le_of_ble_eq_true rfl) rfl (fun X O E => ?_)
  refine g_iload_n O dX8_count_0 1 rfl rfl ?_
  refine g_tableIn (off := 161) (tgt := 162) O dX8_count_1 (by decide +kernel) (by decide +kernel) (by decide +kernel) (by decide) ?_
  refine g_aload_n O dX8_count_162 0 rfl rfl ?_
  refine g_get O hiX8_count_X8 0 rfl rfl 2 (by decide) (by decide +kernel) rfl dX8_count_163 ?_
  refine g_callV (As := []) (wr := [(b0, .inr (8, [.ref w0, .ref h0, .ref c0, .ref f0, .ref m0, .ref t0, .ref y0, .ref n0, .int (bB hs)]))]) O (kX0_findPossible l D z c0 c1 c2 pn w0 w1 w2 w3 w4 h0 h1 h2 h3 h4 h5 s pf tk (by first | assumption | omega) (by first | assumption | omega)) gX8_count_X0_findPossible rfl rfl rfl 0 (by decide +kernel) (by decide) (by decide) (q0 := 0) rfl rfl rfl [1, 2, 3, 4, 5, 6, 7, 8, 9, 10, 11, 12] [0] rfl (by decide) rfl (by decide) (by decide) rfl rfl (Nat.le_of_ble_eq_true rfl) dX8_count_166 (fun r_1 w_2 hp => ?_)
  obtain ⟨rfl, rfl⟩ := hp
  refine g_eq (st' := []) (ws' := [(b0, .inr (8, [.ref w0, .ref h0, .ref c0, .ref f0, .ref m0, .ref t0, .ref y0, .ref n0, .int (bB hs)])), (c0, .inr (0, [.ref w0, .ref h0, .ref c1, .int (nI (cntB (fpP s) 48)), .ref c2])), (c1, .inl ((TY D)[0].1, 48, .inl (nf (fpF s pf 48)))), (c2, .inl ((TY D)[1].1, 48, .inl (bf (fpK s 48)))), (w0, .inr (7, [.ref w1, .ref w2, .ref w3, .ref w4, .int (nI 48)])), (w1, .inl ((TY D)[0].1, 48, .inl (nf tM))), (w2, .inl ((TY D)[0].1, 48, .inl (nf tN))), (w3, .inl ((TY D)[0].1, 48, .inl (nf tS))), (w4, .inl ((TY D)[0].1, 84, .inl hT)), (h0, .inr (5, [.ref h1, .ref h2, .ref h3, .int (nI (sv_nc s)), .ref h4, .ref h5, .int (sv_la s), .int (sv_st s), .int (sv_sw s), .int (sv_fl s), .int (sv_sk s), .int (sv_mu s)])), (h2, .inl ((TY D)[0].1, 4, .inl (nf (sv_cc s)))), (h3, .inl ((TY D)[0].1, 4, .inl (nf (sv_cr s)))), (h4, .inl ((TY D)[0].1, 4, .inl (sv_se s)))]) rfl rfl rfl ?_
  refine g_aload_n O dX8_count_169 0 rfl rfl ?_
  refine g_get O hiX8_count_X8 0 rfl rfl 2 (by decide) (by decide +kernel) rfl dX8_count_170 ?_
  refine g_getN O hiX8_count_X0 1 rfl rfl 3 (by decide) 31 rfl rfl dX8_count_173 ?_
  exact E 176 _ (nI (cntB (fpP s) 48)) _ dX8_count_176 ⟨rfl, rfl⟩

set_option maxHeartbeats 4000000 in
set_option maxRecDepth 100000 in
theorem kX8_count_10 (l : Launch) (D : va_G) (z : Nat × Nat × Nat) (b0 : Nat) (w0 : Nat) (c0 : Nat) (f0 : Nat) (m0 : Nat) (t0 : Nat) (n0 : Nat) (hs : Bool) (y0 : Nat) (h0 : Nat) (h1 : Nat) (h2 : Nat) (h3 : Nat) (h4 : Nat) (h5 : Nat) (s : SV) (hg : ∀ j, j < 144 → sv_g s j < 1073741824) : CM l yX8_count wsX8_count ({ frames := 6, cells := 0, slots := 0, locals := 138 } : Room) D z [.ref b0, .int (nI 10)] [(b0, .inr (8, [.ref w0, .ref h0, .ref c0, .ref f0, .ref m0, .ref t0, .ref y0, .ref n0, .int (bB hs)])), (h0, .inr (5, [.ref h1, .ref h2, .ref h3, .int (nI (sv_nc s)), .ref h4, .ref h5, .int (sv_la s), .int (sv_st s), .int (sv_sw s), .int (sv_fl s), .int (sv_sk s), .int (sv_mu s)])), (h1, .inl ((TY D)[0].1, 144, .inl (nf (sv_g s))))] (fun r_ w_ => r_ = some (.int (nI (mxN (sv_g s) 144))) ∧ w_ = [(b0, .inr (8, [.ref w0, .ref h0, .ref c0, .ref f0, .ref m0, .ref t0, .ref y0, .ref n0, .int (bB hs)])), (h0, .inr (5, [.ref h1, .ref h2, .ref h3, .int (nI (sv_nc s)), .ref h4, .ref h5, .int (sv_la s), .int (sv_st s), .int (sv_sw s), .int (sv_fl s), .int (sv_sk s), .int (sv_mu s)])), (h1, .inl ((TY D)[0].1, 144, .inl (nf (sv_g s))))]) 0 0 := by
  refine CM_int (own := RX8) (cc := cX8_count) (maxL := 2) (L0 := [(0, .ref b0), (1, .int (nI 10))]) (by decide) rfl rfl (Nat.le_of_ble_eq_true rfl) rfl (fun X O E => ?_)
  refine g_iload_n O dX8_count_0 1 rfl rfl ?_
  refine g_tableIn (off := 176) (tgt := 177) O dX8_count_1 (by decide +kernel) (by decide +kernel) (by decide +kernel) (by decide) ?_
  refine g_aload_n O dX8_count_177 0 rfl rfl ?_
  refine g_get O hiX8_count_X8 0 rfl rfl 1 (by decide) (by decide +kernel) rfl dX8_count_178 ?_
  refine g_callV (As := []) (wr := [(b0, .inr (8, [.ref w0, .ref h0, .ref c0, .ref f0, .ref m0, .ref t0, .ref y0, .ref n0, .int (bB hs)]))]) O (kX5_mostGrains l D z h0 h1 h2 h3 h4 h5 (sv_nc s) (sv_la s) (sv_st s) (sv_sw s) (sv_fl s) (sv_sk s) (sv_mu s) (sv_g s) (by first | assumption | omega)) gX8_count_X5_mostGrains rfl rfl rfl 0 (by decide +kernel) (by decide) (by decide) (q0 := 0) rfl rfl rfl [1, 2] [0] rfl (by decide) rfl (by decide) (by decide) rfl rfl (Nat.le_of_ble_eq_true rfl) dX8_count_181 (fun r_1 w_2 hp => ?_)
  obtain ⟨rfl, rfl⟩ := hp
  refine g_eq (st' := [.int (nI (mxN (sv_g s) 144))]) (ws' := [(b0, .inr (8, [.ref w0, .ref h0, .ref c0, .ref f0, .ref m0, .ref t0, .ref y0, .ref n0, .int (bB hs)])), (h0, .inr (5, [.ref h1, .ref h2, .ref h3, .int (nI (sv_nc s)), .ref h4, .ref h5, .int (sv_la s), .int (sv_st s), .int (sv_sw s), .int (sv_fl s), .int (sv_sk s), .int (sv_mu s)])), (h1, .inl ((TY D)[0].1, 144, .inl (nf (sv_g s))))]) rfl rfl rfl ?_
  exact E 184 _ (nI (mxN (sv_g s) 144)) _ dX8_count_184 ⟨rfl, rfl⟩

set_option maxHeartbeats 4000000 in
set_option maxRecDepth 100000 in
theorem kX8_count_11 (l : Launch) (D : va_G) (z : Nat × Nat × Nat) (b0 : Nat) (w0 : Nat) (c0 : Nat) (f0 : Nat) (m0 : Nat) (t0 : Nat) (n0 : Nat) (hs : Bool) (y0 : Nat) (h0 : Nat) (h1 : Nat) (h2 : Nat) (h3 : Nat) (h4 : Nat) (h5 : Nat) (s : SV)  : CM l yX8_count wsX8_count ({ frames := 6, cells := 0, slots := 0, locals := 138 } : Room) D z [.ref b0, .int (nI 11)] [(b0, .inr (8, [.ref w0, .ref h0, .ref c0, .ref f0, .ref m0, .ref t0, .ref y0, .ref n0, .int (bB hs)])), (h0, .inr (5, [.ref h1, .ref h2, .ref h3, .int (nI (sv_nc s)), .ref h4, .ref h5, .int (sv_la s), .int (sv_st s), .int (sv_sw s), .int (sv_fl s), .int (sv_sk s), .int (sv_mu s)])), (h4, .inl ((TY D)[0].1, 4, .inl (sv_se s)))] (fun r_ w_ => r_ = some (.int (sv_se s 0)) ∧ w_ = [(b0, .inr (8, [.ref w0, .ref h0, .ref c0, .ref f0, .ref m0, .ref t0, .ref y0, .ref n0, .int (bB hs)])), (h0, .inr (5, [.ref h1, .ref h2, .ref h3, .int (nI (sv_nc s)), .ref h4, .ref h5, .int (sv_la s), .int (sv_st s), .int (sv_sw s), .int (sv_fl s), .int (sv_sk s), .int (sv_mu s)])), (h4, .inl ((TY D)[0].1, 4, .inl (sv_se s)))]) 0 0 := by
  refine CM_int (own := RX8) (cc := cX8_count) (maxL := 2) (L0 := [(0, .ref b0), (1, .int (nI 11))]) (by decide) rfl rfl (Nat.le_of_ble_eq_true rfl) rfl (fun X O E => ?_)
  refine g_iload_n O dX8_count_0 1 rfl rfl ?_
  refine g_tableIn (off := 184) (tgt := 185) O dX8_count_1 (by decide +kernel) (by decide +kernel) (by decide +kernel) (by decide) ?_
  refine g_aload_n O dX8_count_185 0 rfl rfl ?_
  refine g_get O hiX8_count_X8 0 rfl rfl 1 (by decide) (by decide +kernel) rfl dX8_count_186 ?_
  refine g_getN O hiX8_count_X5 1 rfl rfl 4 (by decide) 21 rfl rfl dX8_count_189 ?_
  refine g_iload_n O dX8_count_192 1 rfl rfl ?_
  refine g_bipush (x := (nI 11)) O dX8_count_193 (by decide +kernel) ?_
  refine g_isubN O (by omega) dX8_count_195 ?_
  refine g_eq (st' := [.int (nI 0), .ref h4]) rfl rfl rfl ?_
  refine g_ialdN O 2 rfl (by omega) (by omega) dX8_count_196 ?_
  exact E 197 _ ((sv_se s) 0) _ dX8_count_197 ⟨rfl, rfl⟩

set_option maxHeartbeats 4000000 in
set_option maxRecDepth 100000 in
theorem kX8_count_12 (l : Launch) (D : va_G) (z : Nat × Nat × Nat) (b0 : Nat) (w0 : Nat) (c0 : Nat) (f0 : Nat) (m0 : Nat) (t0 : Nat) (n0 : Nat) (hs : Bool) (y0 : Nat) (h0 : Nat) (h1 : Nat) (h2 : Nat) (h3 : Nat) (h4 : Nat) (h5 : Nat) (s : SV)  : CM l yX8_count wsX8_count ({ frames := 6, cells := 0, slots := 0, locals := 138 } : Room) D z [.ref b0, .int (nI 12)] [(b0, .inr (8, [.ref w0, .ref h0, .ref c0, .ref f0, .ref m0, .ref t0, .ref y0, .ref n0, .int (bB hs)])), (h0, .inr (5, [.ref h1, .ref h2, .ref h3, .int (nI (sv_nc s)), .ref h4, .ref h5, .int (sv_la s), .int (sv_st s), .int (sv_sw s), .int (sv_fl s), .int (sv_sk s), .int (sv_mu s)])), (h4, .inl ((TY D)[0].1, 4, .inl (sv_se s)))] (fun r_ w_ => r_ = some (.int (sv_se s 1)) ∧ w_ = [(b0, .inr (8, [.ref w0, .ref h0, .ref c0, .ref f0, .ref m0, .ref t0, .ref y0, .ref n0, .int (bB hs)])), (h0, .inr (5, [.ref h1, .ref h2, .ref h3, .int (nI (sv_nc s)), .ref h4, .ref h5, .int (sv_la s), .int (sv_st s), .int (sv_sw s), .int (sv_fl s), .int (sv_sk s), .int (sv_mu s)])), (h4, .inl ((TY D)[0].1, 4, .inl (sv_se s)))]) 0 0 := by
  refine CM_int (own := RX8) (cc := cX8_count) (maxL := 2) (L0 := [(0, .ref b0), (1, .int (nI 12))]) (by decide) rfl rfl (Nat.le_of_ble_eq_true rfl) rfl (fun X O E => ?_)
  refine g_iload_n O dX8_count_0 1 rfl rfl ?_
  refine g_tableIn (off := 184) (tgt := 185) O dX8_count_1 (by decide +kernel) (by decide +kernel) (by decide +kernel) (by decide) ?_
  refine g_aload_n O dX8_count_185 0 rfl rfl ?_
  refine g_get O hiX8_count_X8 0 rfl rfl 1 (by decide) (by decide +kernel) rfl dX8_count_186 ?_
  refine g_getN O hiX8_count_X5 1 rfl rfl 4 (by decide) 21 rfl rfl dX8_count_189 ?_
  refine g_iload_n O dX8_count_192 1 rfl rfl ?_
  refine g_bipush (x := (nI 11)) O dX8_count_193 (by decide +kernel) ?_
  refine g_isubN O (by omega) dX8_count_195 ?_
  refine g_eq (st' := [.int (nI 1), .ref h4]) rfl rfl rfl ?_
  refine g_ialdN O 2 rfl (by omega) (by omega) dX8_count_196 ?_
  exact E 197 _ ((sv_se s) 1) _ dX8_count_197 ⟨rfl, rfl⟩

set_option maxHeartbeats 4000000 in
set_option maxRecDepth 100000 in
theorem kX8_count_13 (l : Launch) (D : va_G) (z : Nat × Nat × Nat) (b0 : Nat) (w0 : Nat) (c0 : Nat) (f0 : Nat) (m0 : Nat) (t0 : Nat) (n0 : Nat) (hs : Bool) (y0 : Nat) (h0 : Nat) (h1 : Nat) (h2 : Nat) (h3 : Nat) (h4 : Nat) (h5 : Nat) (s : SV)  : CM l yX8_count wsX8_count ({ frames := 6, cells := 0, slots := 0, locals := 138 } : Room) D z [.ref b0, .int (nI 13)] [(b0, .inr (8, [.ref w0, .ref h0, .ref c0, .ref f0, .ref m0, .ref t0, .ref y0, .ref n0, .int (bB hs)])), (h0, .inr (5, [.ref h1, .ref h2, .ref h3, .int (nI (sv_nc s)), .ref h4, .ref h5, .int (sv_la s), .int (sv_st s), .int (sv_sw s), .int (sv_fl s), .int (sv_sk s), .int (sv_mu s)])), (h4, .inl ((TY D)[0].1, 4, .inl (sv_se s)))] (fun r_ w_ => r_ = some (.int (sv_se s 2)) ∧ w_ = [(b0, .inr (8, [.ref w0, .ref h0, .ref c0, .ref f0, .ref m0, .ref t0, .ref y0, .ref n0, .int (bB hs)])), (h0, .inr (5, [.ref h1, .ref h2, .ref h3, .int (nI (sv_nc s)), .ref h4, .ref h5, .int (sv_la s), .int (sv_st s), .int (sv_sw s), .int (sv_fl s), .int (sv_sk s), .int (sv_mu s)])), (h4, .inl ((TY D)[0].1, 4, .inl (sv_se s)))]) 0 0 := by
  refine CM_int (own := RX8) (cc := cX8_count) (maxL := 2) (L0 := [(0, .ref b0), (1, .int (nI 13))]) (by decide) rfl rfl (Nat.le_of_ble_eq_true rfl) rfl (fun X O E => ?_)
  refine g_iload_n O dX8_count_0 1 rfl rfl ?_
  refine g_tableIn (off := 184) (tgt := 185) O dX8_count_1 (by decide +kernel) (by decide +kernel) (by decide +kernel) (by decide) ?_
  refine g_aload_n O dX8_count_185 0 rfl rfl ?_
  refine g_get O hiX8_count_X8 0 rfl rfl 1 (by decide) (by decide +kernel) rfl dX8_count_186 ?_
  refine g_getN O hiX8_count_X5 1 rfl rfl 4 (by decide) 21 rfl rfl dX8_count_189 ?_
  refine g_iload_n O dX8_count_192 1 rfl rfl ?_
  refine g_bipush (x := (nI 11)) O dX8_count_193 (by decide +kernel) ?_
  refine g_isubN O (by omega) dX8_count_195 ?_
  refine g_eq (st' := [.int (nI 2), .ref h4]) rfl rfl rfl ?_
  refine g_ialdN O 2 rfl (by omega) (by omega) dX8_count_196 ?_
  exact E 197 _ ((sv_se s) 2) _ dX8_count_197 ⟨rfl, rfl⟩

set_option maxHeartbeats 4000000 in
set_option maxRecDepth 100000 in
theorem kX8_count_14 (l : Launch) (D : va_G) (z : Nat × Nat × Nat) (b0 : Nat) (w0 : Nat) (c0 : Nat) (f0 : Nat) (m0 : Nat) (t0 : Nat) (n0 : Nat) (hs : Bool) (y0 : Nat) (h0 : Nat) (h1 : Nat) (h2 : Nat) (h3 : Nat) (h4 : Nat) (h5 : Nat) (s : SV)  : CM l yX8_count wsX8_count ({ frames := 6, cells := 0, slots := 0, locals := 138 } : Room) D z [.ref b0, .int (nI 14)] [(b0, .inr (8, [.ref w0, .ref h0, .ref c0, .ref f0, .ref m0, .ref t0, .ref y0, .ref n0, .int (bB hs)])), (h0, .inr (5, [.ref h1, .ref h2, .ref h3, .int (nI (sv_nc s)), .ref h4, .ref h5, .int (sv_la s), .int (sv_st s), .int (sv_sw s), .int (sv_fl s), .int (sv_sk s), .int (sv_mu s)])), (h4, .inl ((TY D)[0].1, 4, .inl (sv_se s)))] (fun r_ w_ => r_ = some (.int (sv_se s 3)) ∧ w_ = [(b0, .inr (8, [.ref w0, .ref h0, .ref c0, .ref f0, .ref m0, .ref t0, .ref y0, .ref n0, .int (bB hs)])), (h0, .inr (5, [.ref h1, .ref h2, .ref h3, .int (nI (sv_nc s)), .ref h4, .ref h5, .int (sv_la s), .int (sv_st s), .int (sv_sw s), .int (sv_fl s), .int (sv_sk s), .int (sv_mu s)])), (h4, .inl ((TY D)[0].1, 4, .inl (sv_se s)))]) 0 0 := by
  refine CM_int (own := RX8) (cc := cX8_count) (maxL := 2) (L0 := [(0, .ref b0), (1, .int (nI 14))]) (by decide) rfl rfl (Nat.le_of_ble_eq_true rfl) rfl (fun X O E => ?_)
  refine g_iload_n O dX8_count_0 1 rfl rfl ?_
  refine g_tableIn (off := 184) (tgt := 185) O dX8_count_1 (by decide +kernel) (by decide +kernel) (by decide +kernel) (by decide) ?_
  refine g_aload_n O dX8_count_185 0 rfl rfl ?_
  refine g_get O hiX8_count_X8 0 rfl rfl 1 (by decide) (by decide +kernel) rfl dX8_count_186 ?_
  refine g_getN O hiX8_count_X5 1 rfl rfl 4 (by decide) 21 rfl rfl dX8_count_189 ?_
  refine g_iload_n O dX8_count_192 1 rfl rfl ?_
  refine g_bipush (x := (nI 11)) O dX8_count_193 (by decide +kernel) ?_
  refine g_isubN O (by omega) dX8_count_195 ?_
  refine g_eq (st' := [.int (nI 3), .ref h4]) rfl rfl rfl ?_
  refine g_ialdN O 2 rfl (by omega) (by omega) dX8_count_196 ?_
  exact E 197 _ ((sv_se s) 3) _ dX8_count_197 ⟨rfl, rfl⟩

theorem hiX8_count_X2 : ∀ w ∈ wsX20, w ∈ wsX8_count := by decide +kernel
set_option maxHeartbeats 4000000 in
set_option maxRecDepth 100000 in
theorem kX8_count_15 (l : Launch) (D : va_G) (z : Nat × Nat × Nat) (b0 : Nat) (w0 : Nat) (c0 : Nat) (f0 : Nat) (m0 : Nat) (t0 : Nat) (n0 : Nat) (hs : Bool) (y0 : Nat) (h0 : Nat) (y1 : Nat) (o : Nat) (hd : Nat)  : CM l yX8_count wsX8_count ({ frames := 6, cells := 0, slots := 0, locals := 138 } : Room) D z [.ref b0, .int (nI 15)] [(b0, .inr (8, [.ref w0, .ref h0, .ref c0, .ref f0, .ref m0, .ref t0, .ref y0, .ref n0, .int (bB hs)])), (y0, .inr (2, [.ref y1, .int (nI o), .int (nI hd)]))] (fun r_ w_ => r_ = some (.int (nI hd)) ∧ w_ = [(b0, .inr (8, [.ref w0, .ref h0, .ref c0, .ref f0, .ref m0, .ref t0, .ref y0, .ref n0, .int (bB hs)])), (y0, .inr (2, [.ref y1, .int (nI o), .int (nI hd)]))]) 0 0 := by
  refine CM_int (own := RX8) (cc := cX8_count) (maxL := 2) (L0 := [(0, .ref b0), (1, .int (nI 15))]) (by decide) rfl rfl (Nat.le_of_ble_eq_true rfl) rfl (fun X O E => ?_)
  refine g_iload_n O dX8_count_0 1 rfl rfl ?_
  refine g_tableIn (off := 197) (tgt := 198) O dX8_count_1 (by decide +kernel) (by decide +kernel) (by decide +kernel) (by decide) ?_
  refine g_aload_n O dX8_count_198 0 rfl rfl ?_
  refine g_get O hiX8_count_X8 0 rfl rfl 6 (by decide) (by decide +kernel) rfl dX8_count_199 ?_
  refine g_getN O hiX8_count_X2 1 rfl rfl 2 (by decide) 34 rfl rfl dX8_count_202 ?_
  exact E 205 _ (nI hd) _ dX8_count_205 ⟨rfl, rfl⟩

theorem hiX8_count_X6 : ∀ w ∈ wsX60, w ∈ wsX8_count := by decide +kernel
set_option maxHeartbeats 4000000 in
set_option maxRecDepth 100000 in
theorem kX8_count_16 (l : Launch) (D : va_G) (z : Nat × Nat × Nat) (b0 : Nat) (w0 : Nat) (c0 : Nat) (f0 : Nat) (m0 : Nat) (t0 : Nat) (n0 : Nat) (hs : Bool) (y0 : Nat) (h0 : Nat) (t1 : Nat) (p0 : Nat) (len : Nat) (cur : Nat) (tx : Nat → Nat)  : CM l yX8_count wsX8_count ({ frames := 6, cells := 0, slots := 0, locals := 138 } : Room) D z [.ref b0, .int (nI 16)] [(b0, .inr (8, [.ref w0, .ref h0, .ref c0, .ref f0, .ref m0, .ref t0, .ref y0, .ref n0, .int (bB hs)])), (t0, .inr (6, [.ref t1, .int (nI len), .ref p0, .int (nI cur)])), (t1, .inl ((TY D)[2].1, 60, .inl (nf tx)))] (fun r_ w_ => r_ = some (.int (nI len)) ∧ w_ = [(b0, .inr (8, [.ref w0, .ref h0, .ref c0, .ref f0, .ref m0, .ref t0, .ref y0, .ref n0, .int (bB hs)])), (t0, .inr (6, [.ref t1, .int (nI len), .ref p0, .int (nI cur)])), (t1, .inl ((TY D)[2].1, 60, .inl (nf tx)))]) 0 0 := by
  refine CM_int (own := RX8) (cc := cX8_count) (maxL := 2) (L0 := [(0, .ref b0), (1, .int (nI 16))]) (by decide) rfl rfl (Nat.le_of_ble_eq_true rfl) rfl (fun X O E => ?_)
  refine g_iload_n O dX8_count_0 1 rfl rfl ?_
  refine g_tableIn (off := 205) (tgt := 206) O dX8_count_1 (by decide +kernel) (by decide +kernel) (by decide +kernel) (by decide) ?_
  refine g_aload_n O dX8_count_206 0 rfl rfl ?_
  refine g_get O hiX8_count_X8 0 rfl rfl 5 (by decide) (by decide +kernel) rfl dX8_count_207 ?_
  refine g_getN O hiX8_count_X6 1 rfl rfl 1 (by decide) 32 rfl rfl dX8_count_210 ?_
  exact E 213 _ (nI len) _ dX8_count_213 ⟨rfl, rfl⟩

set_option maxHeartbeats 4000000 in
set_option maxRecDepth 100000 in
theorem kX8_clampAt_b1 (l : Launch) (D : va_G) (z : Nat × Nat × Nat) (b0 : Nat) (w0 : Nat) (c0 : Nat) (f0 : Nat) (m0 : Nat) (t0 : Nat) (n0 : Nat) (hs : Bool) (y0 : Nat) (h0 : Nat) (h1 : Nat) (h2 : Nat) (h3 : Nat) (h4 : Nat) (h5 : Nat) (s : SV) (x : Int32) (r : Bool) (hnc : sv_nc s ≤ 4) (hb : rgB x (sv_nc s) = false) : CM l yX8_clampAt wsX8_clampAt ({ frames := 1, cells := 0, slots := 0, locals := 21 } : Room) D z [.ref b0, .int x, .int (bB r)] [(b0, .inr (8, [.ref w0, .ref h0, .ref c0, .ref f0, .ref m0, .ref t0, .ref y0, .ref n0, .int (bB hs)])), (h0, .inr (5, [.ref h1, .ref h2, .ref h3, .int (nI (sv_nc s)), .ref h4, .ref h5, .int (sv_la s), .int (sv_st s), .int (sv_sw s), .int (sv_fl s), .int (sv_sk s), .int (sv_mu s)]))] (fun r_ w_ => r_ = some (.int (-1)) ∧ w_ = [(b0, .inr (8, [.ref w0, .ref h0, .ref c0, .ref f0, .ref m0, .ref t0, .ref y0, .ref n0, .int (bB hs)])), (h0, .inr (5, [.ref h1, .ref h2, .ref h3, .int (nI (sv_nc s)), .ref h4, .ref h5, .int (sv_la s), .int (sv_st s), .int (sv_sw s), .int (sv_fl s), .int (sv_sk s), .int (sv_mu s)]))]) 0 0 := by
  refine CM_int (own := RX8) (cc := cX8_clampAt) (maxL := 3) (L0 := [(0, .ref b0), (1, .int x), (2, .int (bB r))]) (by decide) rfl rfl (Nat.le_of_ble_eq_true rfl) rfl (fun X O E => ?_)
  refine g_aload_n O dX8_clampAt_0 0 rfl rfl ?_
  refine g_iload_n O dX8_clampAt_1 1 rfl rfl ?_
  refine g_callV (As := [.int x]) (wr := []) O (kX8_isClamp l D z b0 w0 c0 f0 m0 t0 n0 hs y0 h0 h1 h2 h3 h4 h5 s x (by first | assumption | omega)) gX8_clampAt_X8_isClamp rfl rfl rfl 1 (by decide +kernel) (by decide) (by decide) (q0 := 0) rfl rfl rfl [0, 1] [] rfl (by decide) rfl (by decide) (by decide) rfl rfl (Nat.le_of_ble_eq_true rfl) dX8_clampAt_2 (fun r_1 w_2 hp => ?_)
  obtain ⟨rfl, rfl⟩ := hp
  refine g_eq (st' := [.int (bB (rgB x (sv_nc s)))]) (ws' := [(b0, .inr (8, [.ref w0, .ref h0, .ref c0, .ref f0, .ref m0, .ref t0, .ref y0, .ref n0, .int (bB hs)])), (h0, .inr (5, [.ref h1, .ref h2, .ref h3, .int (nI (sv_nc s)), .ref h4, .ref h5, .int (sv_la s), .int (sv_st s), .int (sv_sw s), .int (sv_fl s), .int (sv_sk s), .int (sv_mu s)]))]) rfl rfl rfl ?_
  refine g_if_neB (tgt := 10) O dX8_clampAt_5 (by decide) (fun c_3 => absurd c_3 (by rw [hb]; decide)) (fun c_3 => ?_)
  refine g_iconst (x := (-1)) O dX8_clampAt_8 (by decide +kernel) ?_
  exact E 9 _ (-1) _ dX8_clampAt_9 ⟨rfl, rfl⟩

theorem hiX8_clampAt_X5 : ∀ w ∈ wsX50, w ∈ wsX8_clampAt := by decide +kernel
theorem hiX8_clampAt_X8 : ∀ w ∈ wsX80, w ∈ wsX8_clampAt := by decide +kernel
set_option maxHeartbeats 4000000 in
set_option maxRecDepth 100000 in
theorem kX8_clampAt_ok (l : Launch) (D : va_G) (z : Nat × Nat × Nat) (b0 : Nat) (w0 : Nat) (c0 : Nat) (f0 : Nat) (m0 : Nat) (t0 : Nat) (n0 : Nat) (hs : Bool) (y0 : Nat) (h0 : Nat) (h1 : Nat) (h2 : Nat) (h3 : Nat) (h4 : Nat) (h5 : Nat) (s : SV) (x : Nat) (r : Bool) (hnc : sv_nc s ≤ 4) (hx : x < sv_nc s) : CM l yX8_clampAt wsX8_clampAt ({ frames := 1, cells := 0, slots := 0, locals := 21 } : Room) D z [.ref b0, .int (nI x), .int (bB r)] [(b0, .inr (8, [.ref w0, .ref h0, .ref c0, .ref f0, .ref m0, .ref t0, .ref y0, .ref n0, .int (bB hs)])), (h0, .inr (5, [.ref h1, .ref h2, .ref h3, .int (nI (sv_nc s)), .ref h4, .ref h5, .int (sv_la s), .int (sv_st s), .int (sv_sw s), .int (sv_fl s), .int (sv_sk s), .int (sv_mu s)])), (h2, .inl ((TY D)[0].1, 4, .inl (nf (sv_cc s)))), (h3, .inl ((TY D)[0].1, 4, .inl (nf (sv_cr s))))] (fun r_ w_ => r_ = some (.int (nI (if r = true then sv_cr s x else sv_cc s x))) ∧ w_ = [(b0, .inr (8, [.ref w0, .ref h0, .ref c0, .ref f0, .ref m0, .ref t0, .ref y0, .ref n0, .int (bB hs)])), (h0, .inr (5, [.ref h1, .ref h2, .ref h3, .int (nI (sv_nc s)), .ref h4, .ref h5, .int (sv_la s), .int (sv_st s), .int (sv_sw s), .int (sv_fl s), .int (sv_sk s), .int (sv_mu s)])), (h2, .inl ((TY D)[0].1, 4, .inl (nf (sv_cc s)))), (h3, .inl ((TY D)[0].1, 4, .inl (nf (sv_cr s))))]) 0 0 := by
  refine CM_int (own := RX8) (cc := cX8_clampAt) (maxL := 3) (L0 := [(0, .ref b0), (1, .int (nI x)), (2, .int (bB r))]) (by decide) rfl rfl (Nat.le_of_ble_eq_true rfl) rfl (fun X O E => ?_)
  refine g_aload_n O dX8_clampAt_0 0 rfl rfl ?_
  refine g_iload_n O dX8_clampAt_1 1 rfl rfl ?_
  refine g_callV (As := [.int (nI x)]) (wr := [(h2, .inl ((TY D)[0].1, 4, .inl (nf (sv_cc s)))), (h3, .inl ((TY D)[0].1, 4, .inl (nf (sv_cr s))))]) O (kX8_isClamp l D z b0 w0 c0 f0 m0 t0 n0 hs y0 h0 h1 h2 h3 h4 h5 s (nI x) (by first | assumption | omega)) gX8_clampAt_X8_isClamp rfl rfl rfl 1 (by decide +kernel) (by decide) (by decide) (q0 := 0) rfl rfl rfl [0, 1] [2, 3] rfl (by decide) rfl (by decide) (by decide) rfl rfl (Nat.le_of_ble_eq_true rfl) dX8_clampAt_2 (fun r_1 w_2 hp => ?_)
  obtain ⟨rfl, rfl⟩ := hp
  refine g_eq (st' := [.int (bB (rgB (nI x) (sv_nc s)))]) (ws' := [(h2, .inl ((TY D)[0].1, 4, .inl (nf (sv_cc s)))), (h3, .inl ((TY D)[0].1, 4, .inl (nf (sv_cr s)))), (b0, .inr (8, [.ref w0, .ref h0, .ref c0, .ref f0, .ref m0, .ref t0, .ref y0, .ref n0, .int (bB hs)])), (h0, .inr (5, [.ref h1, .ref h2, .ref h3, .int (nI (sv_nc s)), .ref h4, .ref h5, .int (sv_la s), .int (sv_st s), .int (sv_sw s), .int (sv_fl s), .int (sv_sk s), .int (sv_mu s)]))]) rfl rfl rfl ?_
  refine g_if_neB (tgt := 10) O dX8_clampAt_5 (by decide) (fun c_3 => ?_) (fun c_3 => absurd c_3 (by rw [rgB_t hx (by omega)]; decide))
  refine g_iload_n O dX8_clampAt_10 2 rfl rfl ?_
  refine g_if_eqB (tgt := 26) O dX8_clampAt_11 (by decide) (fun c_4 => ?_) (fun c_4 => ?_)
  ·
    refine g_aload_n O dX8_clampAt_26 0 rfl rfl ?_
    refine g_get O hiX8_clampAt_X8 2 rfl rfl 1 (by decide) (by decide +kernel) rfl dX8_clampAt_27 ?_
    refine g_getN O hiX8_clampAt_X5 3 rfl rfl 1 (by decide) 13 rfl rfl dX8_clampAt_30 ?_
    refine g_iload_n O dX8_clampAt_33 1 rfl rfl ?_
    refine g_ialdN O 0 rfl (by omega) (by omega) dX8_clampAt_34 ?_
    refine g_perm (ws' := [(b0, .inr (8, [.ref w0, .ref h0, .ref c0, .ref f0, .ref m0, .ref t0, .ref y0, .ref n0, .int (bB hs)])), (h0, .inr (5, [.ref h1, .ref h2, .ref h3, .int (nI (sv_nc s)), .ref h4, .ref h5, .int (sv_la s), .int (sv_st s), .int (sv_sw s), .int (sv_fl s), .int (sv_sk s), .int (sv_mu s)])), (h2, .inl ((TY D)[0].1, 4, .inl (nf (sv_cc s)))), (h3, .inl ((TY D)[0].1, 4, .inl (nf (sv_cr s))))]) [2, 3, 0, 1] rfl (by decide) ?_
    exact E 35 _ (nI ((sv_cc s) x)) _ dX8_clampAt_35 (by subst_vars; exact ⟨rfl, rfl⟩)
  ·
    refine g_aload_n O dX8_clampAt_14 0 rfl rfl ?_
    refine g_get O hiX8_clampAt_X8 2 rfl rfl 1 (by decide) (by decide +kernel) rfl dX8_clampAt_15 ?_
    refine g_getN O hiX8_clampAt_X5 3 rfl rfl 2 (by decide) 15 rfl rfl dX8_clampAt_18 ?_
    refine g_iload_n O dX8_clampAt_21 1 rfl rfl ?_
    refine g_ialdN O 1 rfl (by omega) (by omega) dX8_clampAt_22 ?_
    refine g_goto (tgt := 35) O dX8_clampAt_23 (by decide) ?_
    refine g_perm (ws' := [(b0, .inr (8, [.ref w0, .ref h0, .ref c0, .ref f0, .ref m0, .ref t0, .ref y0, .ref n0, .int (bB hs)])), (h0, .inr (5, [.ref h1, .ref h2, .ref h3, .int (nI (sv_nc s)), .ref h4, .ref h5, .int (sv_la s), .int (sv_st s), .int (sv_sw s), .int (sv_fl s), .int (sv_sk s), .int (sv_mu s)])), (h2, .inl ((TY D)[0].1, 4, .inl (nf (sv_cc s)))), (h3, .inl ((TY D)[0].1, 4, .inl (nf (sv_cr s))))]) [2, 3, 0, 1] rfl (by decide) ?_
    exact E 35 _ (nI ((sv_cr s) x)) _ dX8_clampAt_35 (by subst_vars; exact ⟨rfl, rfl⟩)
