theorem hiX8_sounds_X8 : ∀ w ∈ wsX80, w ∈ wsX8_sounds := by intro w h; simp only [wsX8_sounds, List.mem_append, List.mem_cons, h, or_true, true_or]
set_option maxHeartbeats 2000000 in
set_option maxRecDepth 100000 in
theorem kX8_sounds_ok (l : Launch) (D : va_G) (z : Nat × Nat × Nat) (b0 : Nat) (w0 : Nat) (c0 : Nat) (f0 : Nat) (m0 : Nat) (t0 : Nat) (n0 : Nat) (hs : Bool) (y0 : Nat) (c1 : Nat) (c2 : Nat) (pn : Nat) (w1 : Nat) (w2 : Nat) (w3 : Nat) (w4 : Nat) (h0 : Nat) (h1 : Nat) (h2 : Nat) (h3 : Nat) (h4 : Nat) (h5 : Nat) (s : SV) (x : Nat) (y : Nat) (hx : x < 4) (hy : y < 12) (hnc : sv_nc s ≤ 4) (hcc : ∀ j, j < sv_nc s → sv_cc s j < 12 ∧ sv_cr s j < 12) : CM l yX8_sounds wsX8_sounds ({ frames := 5, cells := 0, slots := 0, locals := 117 } : Room) D z [.ref b0, .int (nI x), .int (nI y)] [(b0, .inr (8, [.ref w0, .ref h0, .ref c0, .ref f0, .ref m0, .ref t0, .ref y0, .ref n0, .int (bB hs)])), (c0, .inr (0, [.ref w0, .ref h0, .ref c1, .int (nI pn), .ref c2])), (w0, .inr (7, [.ref w1, .ref w2, .ref w3, .ref w4, .int (nI 48)])), (w1, .inl (tyI D, 48, .inl (nf tM))), (w2, .inl (tyI D, 48, .inl (nf tN))), (w3, .inl (tyI D, 48, .inl (nf tS))), (w4, .inl (tyI D, 84, .inl hT)), (h0, .inr (5, [.ref h1, .ref h2, .ref h3, .int (nI (sv_nc s)), .ref h4, .ref h5, .int (sv_la s), .int (sv_st s), .int (sv_sw s), .int (sv_fl s), .int (sv_sk s), .int (sv_mu s)])), (h2, .inl (tyI D, 4, .inl (nf (sv_cc s)))), (h3, .inl (tyI D, 4, .inl (nf (sv_cr s)))), (h4, .inl (tyI D, 4, .inl (sv_se s)))] (fun r_ w_ => r_ = some (.int (laM (orM (wyO s (bpN x y))))) ∧ w_ = [(b0, .inr (8, [.ref w0, .ref h0, .ref c0, .ref f0, .ref m0, .ref t0, .ref y0, .ref n0, .int (bB hs)])), (c0, .inr (0, [.ref w0, .ref h0, .ref c1, .int (nI pn), .ref c2])), (w0, .inr (7, [.ref w1, .ref w2, .ref w3, .ref w4, .int (nI 48)])), (w1, .inl (tyI D, 48, .inl (nf tM))), (w2, .inl (tyI D, 48, .inl (nf tN))), (w3, .inl (tyI D, 48, .inl (nf tS))), (w4, .inl (tyI D, 84, .inl hT)), (h0, .inr (5, [.ref h1, .ref h2, .ref h3, .int (nI (sv_nc s)), .ref h4, .ref h5, .int (sv_la s), .int (sv_st s), .int (sv_sw s), .int (sv_fl s), .int (sv_sk s), .int (sv_mu s)])), (h2, .inl (tyI D, 4, .inl (nf (sv_cc s)))), (h3, .inl (tyI D, 4, .inl (nf (sv_cr s)))), (h4, .inl (tyI D, 4, .inl (sv_se s)))]) 0 0 := by
  refine CM_int (own := RX8) (cc := cX8_sounds) (maxL := 3) (L0 := [(0, .ref b0), (1, .int (nI x)), (2, .int (nI y))]) (by decide) rfl rfl (Nat.le_of_ble_eq_true rfl) rfl (fun X O E => ?_)
  refine g_iload_n O dX8_sounds_0 1 rfl rfl ?_
  refine g_iload_n O dX8_sounds_1 2 rfl rfl ?_
  refine g_callS (As := [.int (nI x), .int (nI y)]) (wr := [(b0, .inr (8, [.ref w0, .ref h0, .ref c0, .ref f0, .ref m0, .ref t0, .ref y0, .ref n0, .int (bB hs)])), (c0, .inr (0, [.ref w0, .ref h0, .ref c1, .int (nI pn), .ref c2])), (w0, .inr (7, [.ref w1, .ref w2, .ref w3, .ref w4, .int (nI 48)])), (w1, .inl (tyI D, 48, .inl (nf tM))), (w2, .inl (tyI D, 48, .inl (nf tN))), (w3, .inl (tyI D, 48, .inl (nf tS))), (w4, .inl (tyI D, 84, .inl hT)), (h0, .inr (5, [.ref h1, .ref h2, .ref h3, .int (nI (sv_nc s)), .ref h4, .ref h5, .int (sv_la s), .int (sv_st s), .int (sv_sw s), .int (sv_fl s), .int (sv_sk s), .int (sv_mu s)])), (h2, .inl (tyI D, 4, .inl (nf (sv_cc s)))), (h3, .inl (tyI D, 4, .inl (nf (sv_cr s)))), (h4, .inl (tyI D, 4, .inl (sv_se s)))]) O (kX8_isBow l D z (nI x) (nI y) ) gX8_sounds_X8_isBow rfl rfl rfl 2 (by decide +kernel) (by decide) (by decide) [] [0, 1, 2, 3, 4, 5, 6, 7, 8, 9, 10] rfl (by decide) rfl (by decide) (by decide) rfl rfl (Nat.le_of_ble_eq_true rfl) dX8_sounds_2 (fun r_1 w_2 hp => ?_)
  obtain ⟨rfl, rfl⟩ := hp
  refine g_eq (st' := [.int (bB (rgB (nI x) 4 && rgB (nI y) 12))]) (ws' := [(b0, .inr (8, [.ref w0, .ref h0, .ref c0, .ref f0, .ref m0, .ref t0, .ref y0, .ref n0, .int (bB hs)])), (c0, .inr (0, [.ref w0, .ref h0, .ref c1, .int (nI pn), .ref c2])), (w0, .inr (7, [.ref w1, .ref w2, .ref w3, .ref w4, .int (nI 48)])), (w1, .inl (tyI D, 48, .inl (nf tM))), (w2, .inl (tyI D, 48, .inl (nf tN))), (w3, .inl (tyI D, 48, .inl (nf tS))), (w4, .inl (tyI D, 84, .inl hT)), (h0, .inr (5, [.ref h1, .ref h2, .ref h3, .int (nI (sv_nc s)), .ref h4, .ref h5, .int (sv_la s), .int (sv_st s), .int (sv_sw s), .int (sv_fl s), .int (sv_sk s), .int (sv_mu s)])), (h2, .inl (tyI D, 4, .inl (nf (sv_cc s)))), (h3, .inl (tyI D, 4, .inl (nf (sv_cr s)))), (h4, .inl (tyI D, 4, .inl (sv_se s)))]) rfl rfl rfl ?_
  refine g_if_neB (tgt := 10) O dX8_sounds_5 (by decide) (fun c_3 => ?_) (fun c_3 => absurd c_3 (by rw [rgB_t hx (by decide), rgB_t hy (by decide)]; decide))
  refine g_aload_n O dX8_sounds_10 0 rfl rfl ?_
  refine g_get O hiX8_sounds_X8 0 rfl rfl 2 (by decide) (by decide +kernel) rfl dX8_sounds_11 ?_
  refine g_iload_n O dX8_sounds_14 1 rfl rfl ?_
  refine g_iload_n O dX8_sounds_15 2 rfl rfl ?_
  refine g_callV (As := [.int (nI x), .int (nI y)]) (wr := [(b0, .inr (8, [.ref w0, .ref h0, .ref c0, .ref f0, .ref m0, .ref t0, .ref y0, .ref n0, .int (bB hs)]))]) O (kX0_wayFor l D z c0 c1 c2 pn w0 w1 w2 w3 w4 h0 h1 h2 h3 h4 h5 s x y (by first | assumption | omega) (by first | assumption | omega) (by first | assumption | omega) (by first | assumption | omega)) gX8_sounds_X0_wayFor rfl rfl rfl 2 (by decide +kernel) (by decide) (by decide) (q0 := 0) rfl rfl rfl [1, 2, 3, 4, 5, 6, 7, 8, 9, 10] [0] rfl (by decide) rfl (by decide) (by decide) rfl rfl (Nat.le_of_ble_eq_true rfl) dX8_sounds_16 (fun r_4 w_5 hp => ?_)
  obtain ⟨rfl, rfl⟩ := hp
  refine g_eq (st' := [.int (orM (wyO s (bpN x y)))]) (ws' := [(b0, .inr (8, [.ref w0, .ref h0, .ref c0, .ref f0, .ref m0, .ref t0, .ref y0, .ref n0, .int (bB hs)])), (c0, .inr (0, [.ref w0, .ref h0, .ref c1, .int (nI pn), .ref c2])), (w0, .inr (7, [.ref w1, .ref w2, .ref w3, .ref w4, .int (nI 48)])), (w1, .inl (tyI D, 48, .inl (nf tM))), (w2, .inl (tyI D, 48, .inl (nf tN))), (w3, .inl (tyI D, 48, .inl (nf tS))), (w4, .inl (tyI D, 84, .inl hT)), (h0, .inr (5, [.ref h1, .ref h2, .ref h3, .int (nI (sv_nc s)), .ref h4, .ref h5, .int (sv_la s), .int (sv_st s), .int (sv_sw s), .int (sv_fl s), .int (sv_sk s), .int (sv_mu s)])), (h2, .inl (tyI D, 4, .inl (nf (sv_cc s)))), (h3, .inl (tyI D, 4, .inl (nf (sv_cr s)))), (h4, .inl (tyI D, 4, .inl (sv_se s)))]) rfl rfl rfl ?_
  refine g_callS (As := [.int (orM (wyO s (bpN x y)))]) (wr := [(b0, .inr (8, [.ref w0, .ref h0, .ref c0, .ref f0, .ref m0, .ref t0, .ref y0, .ref n0, .int (bB hs)])), (c0, .inr (0, [.ref w0, .ref h0, .ref c1, .int (nI pn), .ref c2])), (w0, .inr (7, [.ref w1, .ref w2, .ref w3, .ref w4, .int (nI 48)])), (w1, .inl (tyI D, 48, .inl (nf tM))), (w2, .inl (tyI D, 48, .inl (nf tN))), (w3, .inl (tyI D, 48, .inl (nf tS))), (w4, .inl (tyI D, 84, .inl hT)), (h0, .inr (5, [.ref h1, .ref h2, .ref h3, .int (nI (sv_nc s)), .ref h4, .ref h5, .int (sv_la s), .int (sv_st s), .int (sv_sw s), .int (sv_fl s), .int (sv_sk s), .int (sv_mu s)])), (h2, .inl (tyI D, 4, .inl (nf (sv_cc s)))), (h3, .inl (tyI D, 4, .inl (nf (sv_cr s)))), (h4, .inl (tyI D, 4, .inl (sv_se s)))]) O (kX8_orNone l D z (orM (wyO s (bpN x y))) ) gX8_sounds_X8_orNone rfl rfl rfl 1 (by decide +kernel) (by decide) (by decide) [] [0, 1, 2, 3, 4, 5, 6, 7, 8, 9, 10] rfl (by decide) rfl (by decide) (by decide) rfl rfl (Nat.le_of_ble_eq_true rfl) dX8_sounds_19 (fun r_6 w_7 hp => ?_)
  obtain ⟨rfl, rfl⟩ := hp
  refine g_eq (st' := [.int (laM (orM (wyO s (bpN x y))))]) (ws' := [(b0, .inr (8, [.ref w0, .ref h0, .ref c0, .ref f0, .ref m0, .ref t0, .ref y0, .ref n0, .int (bB hs)])), (c0, .inr (0, [.ref w0, .ref h0, .ref c1, .int (nI pn), .ref c2])), (w0, .inr (7, [.ref w1, .ref w2, .ref w3, .ref w4, .int (nI 48)])), (w1, .inl (tyI D, 48, .inl (nf tM))), (w2, .inl (tyI D, 48, .inl (nf tN))), (w3, .inl (tyI D, 48, .inl (nf tS))), (w4, .inl (tyI D, 84, .inl hT)), (h0, .inr (5, [.ref h1, .ref h2, .ref h3, .int (nI (sv_nc s)), .ref h4, .ref h5, .int (sv_la s), .int (sv_st s), .int (sv_sw s), .int (sv_fl s), .int (sv_sk s), .int (sv_mu s)])), (h2, .inl (tyI D, 4, .inl (nf (sv_cc s)))), (h3, .inl (tyI D, 4, .inl (nf (sv_cr s)))), (h4, .inl (tyI D, 4, .inl (sv_se s)))]) rfl rfl rfl ?_
  exact E 22 _ (laM (orM (wyO s (bpN x y)))) _ dX8_sounds_22 ⟨rfl, rfl⟩
set_option maxHeartbeats 2000000 in
set_option maxRecDepth 100000 in
theorem kX8_why_b1 (l : Launch) (D : va_G) (z : Nat × Nat × Nat) (b0 : Nat) (w0 : Nat) (c0 : Nat) (f0 : Nat) (m0 : Nat) (t0 : Nat) (n0 : Nat) (hs : Bool) (y0 : Nat) (h0 : Nat) (w : Int32) (x : Int32) (y : Int32) (hb : rgB w 48 = false) : CM l yX8_why wsX8_why ({ frames := 6, cells := 0, slots := 0, locals := 140 } : Room) D z [.ref b0, .int w, .int x, .int y] [(b0, .inr (8, [.ref w0, .ref h0, .ref c0, .ref f0, .ref m0, .ref t0, .ref y0, .ref n0, .int (bB hs)]))] (fun r_ w_ => r_ = some (.int (-1)) ∧ w_ = [(b0, .inr (8, [.ref w0, .ref h0, .ref c0, .ref f0, .ref m0, .ref t0, .ref y0, .ref n0, .int (bB hs)]))]) 0 0 := by
  refine CM_int (own := RX8) (cc := cX8_why) (maxL := 4) (L0 := [(0, .ref b0), (1, .int w), (2, .int x), (3, .int y)]) (by decide) rfl rfl (Nat.le_of_ble_eq_true rfl) rfl (fun X O E => ?_)
  refine g_iload_n O dX8_why_0 1 rfl rfl ?_
  refine g_callS (As := [.int w]) (wr := [(b0, .inr (8, [.ref w0, .ref h0, .ref c0, .ref f0, .ref m0, .ref t0, .ref y0, .ref n0, .int (bB hs)]))]) O (kX8_isWay l D z w ) gX8_why_X8_isWay rfl rfl rfl 1 (by decide +kernel) (by decide) (by decide) [] [0] rfl (by decide) rfl (by decide) (by decide) rfl rfl (Nat.le_of_ble_eq_true rfl) dX8_why_1 (fun r_1 w_2 hp => ?_)
  obtain ⟨rfl, rfl⟩ := hp
  refine g_eq (st' := [.int (bB (rgB w 48))]) (ws' := [(b0, .inr (8, [.ref w0, .ref h0, .ref c0, .ref f0, .ref m0, .ref t0, .ref y0, .ref n0, .int (bB hs)]))]) rfl rfl rfl ?_
  refine g_if_eqB (tgt := 15) O dX8_why_4 (by decide) (fun c_3 => ?_) (fun c_3 => absurd c_3 (by rw [hb]; decide))
  refine g_iconst (x := (-1)) O dX8_why_15 (by decide +kernel) ?_
  exact E 16 _ (-1) _ dX8_why_16 ⟨rfl, rfl⟩
set_option maxHeartbeats 2000000 in
set_option maxRecDepth 100000 in
theorem kX8_why_b2 (l : Launch) (D : va_G) (z : Nat × Nat × Nat) (b0 : Nat) (w0 : Nat) (c0 : Nat) (f0 : Nat) (m0 : Nat) (t0 : Nat) (n0 : Nat) (hs : Bool) (y0 : Nat) (h0 : Nat) (w : Nat) (x : Int32) (y : Int32) (hw : w < 48) (hb : (rgB x 4 && rgB y 12) = false) : CM l yX8_why wsX8_why ({ frames := 6, cells := 0, slots := 0, locals := 140 } : Room) D z [.ref b0, .int (nI w), .int x, .int y] [(b0, .inr (8, [.ref w0, .ref h0, .ref c0, .ref f0, .ref m0, .ref t0, .ref y0, .ref n0, .int (bB hs)]))] (fun r_ w_ => r_ = some (.int (-1)) ∧ w_ = [(b0, .inr (8, [.ref w0, .ref h0, .ref c0, .ref f0, .ref m0, .ref t0, .ref y0, .ref n0, .int (bB hs)]))]) 0 0 := by
  refine CM_int (own := RX8) (cc := cX8_why) (maxL := 4) (L0 := [(0, .ref b0), (1, .int (nI w)), (2, .int x), (3, .int y)]) (by decide) rfl rfl (Nat.le_of_ble_eq_true rfl) rfl (fun X O E => ?_)
  refine g_iload_n O dX8_why_0 1 rfl rfl ?_
  refine g_callS (As := [.int (nI w)]) (wr := [(b0, .inr (8, [.ref w0, .ref h0, .ref c0, .ref f0, .ref m0, .ref t0, .ref y0, .ref n0, .int (bB hs)]))]) O (kX8_isWay l D z (nI w) ) gX8_why_X8_isWay rfl rfl rfl 1 (by decide +kernel) (by decide) (by decide) [] [0] rfl (by decide) rfl (by decide) (by decide) rfl rfl (Nat.le_of_ble_eq_true rfl) dX8_why_1 (fun r_1 w_2 hp => ?_)
  obtain ⟨rfl, rfl⟩ := hp
  refine g_eq (st' := [.int (bB (rgB (nI w) 48))]) (ws' := [(b0, .inr (8, [.ref w0, .ref h0, .ref c0, .ref f0, .ref m0, .ref t0, .ref y0, .ref n0, .int (bB hs)]))]) rfl rfl rfl ?_
  refine g_if_eqB (tgt := 15) O dX8_why_4 (by decide) (fun c_3 => absurd c_3 (by rw [rgB_t hw (by decide)]; decide)) (fun c_3 => ?_)
  refine g_iload_n O dX8_why_7 2 rfl rfl ?_
  refine g_iload_n O dX8_why_8 3 rfl rfl ?_
  refine g_callS (As := [.int x, .int y]) (wr := [(b0, .inr (8, [.ref w0, .ref h0, .ref c0, .ref f0, .ref m0, .ref t0, .ref y0, .ref n0, .int (bB hs)]))]) O (kX8_isBow l D z x y ) gX8_why_X8_isBow rfl rfl rfl 2 (by decide +kernel) (by decide) (by decide) [] [0] rfl (by decide) rfl (by decide) (by decide) rfl rfl (Nat.le_of_ble_eq_true rfl) dX8_why_9 (fun r_4 w_5 hp => ?_)
  obtain ⟨rfl, rfl⟩ := hp
  refine g_eq (st' := [.int (bB (rgB x 4 && rgB y 12))]) (ws' := [(b0, .inr (8, [.ref w0, .ref h0, .ref c0, .ref f0, .ref m0, .ref t0, .ref y0, .ref n0, .int (bB hs)]))]) rfl rfl rfl ?_
  refine g_if_neB (tgt := 17) O dX8_why_12 (by decide) (fun c_6 => absurd c_6 (by rw [hb]; decide)) (fun c_6 => ?_)
  refine g_iconst (x := (-1)) O dX8_why_15 (by decide +kernel) ?_
  exact E 16 _ (-1) _ dX8_why_16 ⟨rfl, rfl⟩
theorem hiX8_why_X8 : ∀ w ∈ wsX80, w ∈ wsX8_why := by intro w h; simp only [wsX8_why, List.mem_append, List.mem_cons, h, or_true, true_or]
set_option maxHeartbeats 2000000 in
set_option maxRecDepth 100000 in
theorem kX8_why_ok (l : Launch) (D : va_G) (z : Nat × Nat × Nat) (b0 : Nat) (w0 : Nat) (c0 : Nat) (f0 : Nat) (m0 : Nat) (t0 : Nat) (n0 : Nat) (hs : Bool) (y0 : Nat) (c1 : Nat) (c2 : Nat) (pn : Nat) (w1 : Nat) (w2 : Nat) (w3 : Nat) (w4 : Nat) (h0 : Nat) (h1 : Nat) (h2 : Nat) (h3 : Nat) (h4 : Nat) (h5 : Nat) (s : SV) (w : Nat) (x : Nat) (y : Nat) (hw : w < 48) (hx : x < 4) (hy : y < 12) (hnc : sv_nc s ≤ 4) (hcc : ∀ j, j < sv_nc s → sv_cc s j < 12 ∧ sv_cr s j < 12) : CM l yX8_why wsX8_why ({ frames := 6, cells := 0, slots := 0, locals := 140 } : Room) D z [.ref b0, .int (nI w), .int (nI x), .int (nI y)] [(b0, .inr (8, [.ref w0, .ref h0, .ref c0, .ref f0, .ref m0, .ref t0, .ref y0, .ref n0, .int (bB hs)])), (c0, .inr (0, [.ref w0, .ref h0, .ref c1, .int (nI pn), .ref c2])), (w0, .inr (7, [.ref w1, .ref w2, .ref w3, .ref w4, .int (nI 48)])), (w1, .inl (tyI D, 48, .inl (nf tM))), (w2, .inl (tyI D, 48, .inl (nf tN))), (w3, .inl (tyI D, 48, .inl (nf tS))), (w4, .inl (tyI D, 84, .inl hT)), (h0, .inr (5, [.ref h1, .ref h2, .ref h3, .int (nI (sv_nc s)), .ref h4, .ref h5, .int (sv_la s), .int (sv_st s), .int (sv_sw s), .int (sv_fl s), .int (sv_sk s), .int (sv_mu s)])), (h2, .inl (tyI D, 4, .inl (nf (sv_cc s)))), (h3, .inl (tyI D, 4, .inl (nf (sv_cr s)))), (h4, .inl (tyI D, 4, .inl (sv_se s)))] (fun r_ w_ => r_ = some (.int (nI (rsN s w (bpN x y)))) ∧ w_ = [(b0, .inr (8, [.ref w0, .ref h0, .ref c0, .ref f0, .ref m0, .ref t0, .ref y0, .ref n0, .int (bB hs)])), (c0, .inr (0, [.ref w0, .ref h0, .ref c1, .int (nI pn), .ref c2])), (w0, .inr (7, [.ref w1, .ref w2, .ref w3, .ref w4, .int (nI 48)])), (w1, .inl (tyI D, 48, .inl (nf tM))), (w2, .inl (tyI D, 48, .inl (nf tN))), (w3, .inl (tyI D, 48, .inl (nf tS))), (w4, .inl (tyI D, 84, .inl hT)), (h0, .inr (5, [.ref h1, .ref h2, .ref h3, .int (nI (sv_nc s)), .ref h4, .ref h5, .int (sv_la s), .int (sv_st s), .int (sv_sw s), .int (sv_fl s), .int (sv_sk s), .int (sv_mu s)])), (h2, .inl (tyI D, 4, .inl (nf (sv_cc s)))), (h3, .inl (tyI D, 4, .inl (nf (sv_cr s)))), (h4, .inl (tyI D, 4, .inl (sv_se s)))]) 0 0 := by
  refine CM_int (own := RX8) (cc := cX8_why) (maxL := 4) (L0 := [(0, .ref b0), (1, .int (nI w)), (2, .int (nI x)), (3, .int (nI y))]) (by decide) rfl rfl (Nat.le_of_ble_eq_true rfl) rfl (fun X O E => ?_)
  refine g_iload_n O dX8_why_0 1 rfl rfl ?_
  refine g_callS (As := [.int (nI w)]) (wr := [(b0, .inr (8, [.ref w0, .ref h0, .ref c0, .ref f0, .ref m0, .ref t0, .ref y0, .ref n0, .int (bB hs)])), (c0, .inr (0, [.ref w0, .ref h0, .ref c1, .int (nI pn), .ref c2])), (w0, .inr (7, [.ref w1, .ref w2, .ref w3, .ref w4, .int (nI 48)])), (w1, .inl (tyI D, 48, .inl (nf tM))), (w2, .inl (tyI D, 48, .inl (nf tN))), (w3, .inl (tyI D, 48, .inl (nf tS))), (w4, .inl (tyI D, 84, .inl hT)), (h0, .inr (5, [.ref h1, .ref h2, .ref h3, .int (nI (sv_nc s)), .ref h4, .ref h5, .int (sv_la s), .int (sv_st s), .int (sv_sw s), .int (sv_fl s), .int (sv_sk s), .int (sv_mu s)])), (h2, .inl (tyI D, 4, .inl (nf (sv_cc s)))), (h3, .inl (tyI D, 4, .inl (nf (sv_cr s)))), (h4, .inl (tyI D, 4, .inl (sv_se s)))]) O (kX8_isWay l D z (nI w) ) gX8_why_X8_isWay rfl rfl rfl 1 (by decide +kernel) (by decide) (by decide) [] [0, 1, 2, 3, 4, 5, 6, 7, 8, 9, 10] rfl (by decide) rfl (by decide) (by decide) rfl rfl (Nat.le_of_ble_eq_true rfl) dX8_why_1 (fun r_1 w_2 hp => ?_)
  obtain ⟨rfl, rfl⟩ := hp
  refine g_eq (st' := [.int (bB (rgB (nI w) 48))]) (ws' := [(b0, .inr (8, [.ref w0, .ref h0, .ref c0, .ref f0, .ref m0, .ref t0, .ref y0, .ref n0, .int (bB hs)])), (c0, .inr (0, [.ref w0, .ref h0, .ref c1, .int (nI pn), .ref c2])), (w0, .inr (7, [.ref w1, .ref w2, .ref w3, .ref w4, .int (nI 48)])), (w1, .inl (tyI D, 48, .inl (nf tM))), (w2, .inl (tyI D, 48, .inl (nf tN))), (w3, .inl (tyI D, 48, .inl (nf tS))), (w4, .inl (tyI D, 84, .inl hT)), (h0, .inr (5, [.ref h1, .ref h2, .ref h3, .int (nI (sv_nc s)), .ref h4, .ref h5, .int (sv_la s), .int (sv_st s), .int (sv_sw s), .int (sv_fl s), .int (sv_sk s), .int (sv_mu s)])), (h2, .inl (tyI D, 4, .inl (nf (sv_cc s)))), (h3, .inl (tyI D, 4, .inl (nf (sv_cr s)))), (h4, .inl (tyI D, 4, .inl (sv_se s)))]) rfl rfl rfl ?_
  refine g_if_eqB (tgt := 15) O dX8_why_4 (by decide) (fun c_3 => absurd c_3 (by rw [rgB_t hw (by decide)]; decide)) (fun c_3 => ?_)
  refine g_iload_n O dX8_why_7 2 rfl rfl ?_
  refine g_iload_n O dX8_why_8 3 rfl rfl ?_
  refine g_callS (As := [.int (nI x), .int (nI y)]) (wr := [(b0, .inr (8, [.ref w0, .ref h0, .ref c0, .ref f0, .ref m0, .ref t0, .ref y0, .ref n0, .int (bB hs)])), (c0, .inr (0, [.ref w0, .ref h0, .ref c1, .int (nI pn), .ref c2])), (w0, .inr (7, [.ref w1, .ref w2, .ref w3, .ref w4, .int (nI 48)])), (w1, .inl (tyI D, 48, .inl (nf tM))), (w2, .inl (tyI D, 48, .inl (nf tN))), (w3, .inl (tyI D, 48, .inl (nf tS))), (w4, .inl (tyI D, 84, .inl hT)), (h0, .inr (5, [.ref h1, .ref h2, .ref h3, .int (nI (sv_nc s)), .ref h4, .ref h5, .int (sv_la s), .int (sv_st s), .int (sv_sw s), .int (sv_fl s), .int (sv_sk s), .int (sv_mu s)])), (h2, .inl (tyI D, 4, .inl (nf (sv_cc s)))), (h3, .inl (tyI D, 4, .inl (nf (sv_cr s)))), (h4, .inl (tyI D, 4, .inl (sv_se s)))]) O (kX8_isBow l D z (nI x) (nI y) ) gX8_why_X8_isBow rfl rfl rfl 2 (by decide +kernel) (by decide) (by decide) [] [0, 1, 2, 3, 4, 5, 6, 7, 8, 9, 10] rfl (by decide) rfl (by decide) (by decide) rfl rfl (Nat.le_of_ble_eq_true rfl) dX8_why_9 (fun r_4 w_5 hp => ?_)
  obtain ⟨rfl, rfl⟩ := hp
  refine g_eq (st' := [.int (bB (rgB (nI x) 4 && rgB (nI y) 12))]) (ws' := [(b0, .inr (8, [.ref w0, .ref h0, .ref c0, .ref f0, .ref m0, .ref t0, .ref y0, .ref n0, .int (bB hs)])), (c0, .inr (0, [.ref w0, .ref h0, .ref c1, .int (nI pn), .ref c2])), (w0, .inr (7, [.ref w1, .ref w2, .ref w3, .ref w4, .int (nI 48)])), (w1, .inl (tyI D, 48, .inl (nf tM))), (w2, .inl (tyI D, 48, .inl (nf tN))), (w3, .inl (tyI D, 48, .inl (nf tS))), (w4, .inl (tyI D, 84, .inl hT)), (h0, .inr (5, [.ref h1, .ref h2, .ref h3, .int (nI (sv_nc s)), .ref h4, .ref h5, .int (sv_la s), .int (sv_st s), .int (sv_sw s), .int (sv_fl s), .int (sv_sk s), .int (sv_mu s)])), (h2, .inl (tyI D, 4, .inl (nf (sv_cc s)))), (h3, .inl (tyI D, 4, .inl (nf (sv_cr s)))), (h4, .inl (tyI D, 4, .inl (sv_se s)))]) rfl rfl rfl ?_
  refine g_if_neB (tgt := 17) O dX8_why_12 (by decide) (fun c_6 => ?_) (fun c_6 => absurd c_6 (by rw [rgB_t hx (by decide), rgB_t hy (by decide)]; decide))
  refine g_aload_n O dX8_why_17 0 rfl rfl ?_
  refine g_get O hiX8_why_X8 0 rfl rfl 2 (by decide) (by decide +kernel) rfl dX8_why_18 ?_
  refine g_iload_n O dX8_why_21 1 rfl rfl ?_
  refine g_iload_n O dX8_why_22 2 rfl rfl ?_
  refine g_iload_n O dX8_why_23 3 rfl rfl ?_
  refine g_callV (As := [.int (nI w), .int (nI x), .int (nI y)]) (wr := [(b0, .inr (8, [.ref w0, .ref h0, .ref c0, .ref f0, .ref m0, .ref t0, .ref y0, .ref n0, .int (bB hs)]))]) O (kX0_reasonOf l D z c0 c1 c2 pn w0 w1 w2 w3 w4 h0 h1 h2 h3 h4 h5 s w x y (by first | assumption | omega) (by first | assumption | omega) (by first | assumption | omega) (by first | assumption | omega) (by first | assumption | omega)) gX8_why_X0_reasonOf rfl rfl rfl 3 (by decide +kernel) (by decide) (by decide) (q0 := 0) rfl rfl rfl [1, 2, 3, 4, 5, 6, 7, 8, 9, 10] [0] rfl (by decide) rfl (by decide) (by decide) rfl rfl (Nat.le_of_ble_eq_true rfl) dX8_why_24 (fun r_7 w_8 hp => ?_)
  obtain ⟨rfl, rfl⟩ := hp
  refine g_eq (st' := [.int (nI (rsN s w (bpN x y)))]) (ws' := [(b0, .inr (8, [.ref w0, .ref h0, .ref c0, .ref f0, .ref m0, .ref t0, .ref y0, .ref n0, .int (bB hs)])), (c0, .inr (0, [.ref w0, .ref h0, .ref c1, .int (nI pn), .ref c2])), (w0, .inr (7, [.ref w1, .ref w2, .ref w3, .ref w4, .int (nI 48)])), (w1, .inl (tyI D, 48, .inl (nf tM))), (w2, .inl (tyI D, 48, .inl (nf tN))), (w3, .inl (tyI D, 48, .inl (nf tS))), (w4, .inl (tyI D, 84, .inl hT)), (h0, .inr (5, [.ref h1, .ref h2, .ref h3, .int (nI (sv_nc s)), .ref h4, .ref h5, .int (sv_la s), .int (sv_st s), .int (sv_sw s), .int (sv_fl s), .int (sv_sk s), .int (sv_mu s)])), (h2, .inl (tyI D, 4, .inl (nf (sv_cc s)))), (h3, .inl (tyI D, 4, .inl (nf (sv_cr s)))), (h4, .inl (tyI D, 4, .inl (sv_se s)))]) rfl rfl rfl ?_
  exact E 27 _ (nI (rsN s w (bpN x y))) _ dX8_why_27 ⟨rfl, rfl⟩
set_option maxHeartbeats 2000000 in
set_option maxRecDepth 100000 in
theorem kX8_possible_b1 (l : Launch) (D : va_G) (z : Nat × Nat × Nat) (b0 : Nat) (w0 : Nat) (c0 : Nat) (f0 : Nat) (m0 : Nat) (t0 : Nat) (n0 : Nat) (hs : Bool) (y0 : Nat) (h0 : Nat) (k : Int32) (hb : k < 0) : CM l yX8_possible wsX8_possible ({ frames := 6, cells := 0, slots := 0, locals := 138 } : Room) D z [.ref b0, .int k] [(b0, .inr (8, [.ref w0, .ref h0, .ref c0, .ref f0, .ref m0, .ref t0, .ref y0, .ref n0, .int (bB hs)]))] (fun r_ w_ => r_ = some (.int (-2)) ∧ w_ = [(b0, .inr (8, [.ref w0, .ref h0, .ref c0, .ref f0, .ref m0, .ref t0, .ref y0, .ref n0, .int (bB hs)]))]) 0 0 := by
  refine CM_int (own := RX8) (cc := cX8_possible) (maxL := 2) (L0 := [(0, .ref b0), (1, .int k)]) (by decide) rfl rfl (Nat.le_of_ble_eq_true rfl) rfl (fun X O E => ?_)
  refine g_iload_n O dX8_possible_0 1 rfl rfl ?_
  refine g_if_ge (tgt := 7) O dX8_possible_1 (by decide) (fun c_1 => (by exact absurd hb (Int32.not_lt.mpr c_1))) (fun c_1 => ?_)
  refine g_bipush (x := (-2)) O dX8_possible_4 (by decide +kernel) ?_
  exact E 6 _ (-2) _ dX8_possible_6 ⟨rfl, rfl⟩
theorem hiX8_possible_X0 : ∀ w ∈ wsX00, w ∈ wsX8_possible := by intro w h; simp only [wsX8_possible, List.mem_append, List.mem_cons, h, or_true, true_or]
theorem hiX8_possible_X8 : ∀ w ∈ wsX80, w ∈ wsX8_possible := by intro w h; simp only [wsX8_possible, List.mem_append, List.mem_cons, h, or_true, true_or]
set_option maxHeartbeats 2000000 in
set_option maxRecDepth 100000 in
theorem kX8_possible_b2 (l : Launch) (D : va_G) (z : Nat × Nat × Nat) (b0 : Nat) (w0 : Nat) (c0 : Nat) (f0 : Nat) (m0 : Nat) (t0 : Nat) (n0 : Nat) (hs : Bool) (y0 : Nat) (c1 : Nat) (c2 : Nat) (pn : Nat) (pf : Nat → Nat) (tk : Nat → Bool) (w1 : Nat) (w2 : Nat) (w3 : Nat) (w4 : Nat) (h0 : Nat) (h1 : Nat) (h2 : Nat) (h3 : Nat) (h4 : Nat) (h5 : Nat) (s : SV) (k : Nat) (hnc : sv_nc s ≤ 4) (hcc : ∀ j, j < sv_nc s → sv_cc s j < 12 ∧ sv_cr s j < 12) (hk : k < 2147483648) (hb : cntB (fpP s) 48 ≤ k) : CM l yX8_possible wsX8_possible ({ frames := 6, cells := 0, slots := 0, locals := 138 } : Room) D z [.ref b0, .int (nI k)] [(b0, .inr (8, [.ref w0, .ref h0, .ref c0, .ref f0, .ref m0, .ref t0, .ref y0, .ref n0, .int (bB hs)])), (c0, .inr (0, [.ref w0, .ref h0, .ref c1, .int (nI pn), .ref c2])), (c1, .inl (tyI D, 48, .inl (nf pf))), (c2, .inl (tyZ D, 48, .inl (bf tk))), (w0, .inr (7, [.ref w1, .ref w2, .ref w3, .ref w4, .int (nI 48)])), (w1, .inl (tyI D, 48, .inl (nf tM))), (w2, .inl (tyI D, 48, .inl (nf tN))), (w3, .inl (tyI D, 48, .inl (nf tS))), (w4, .inl (tyI D, 84, .inl hT)), (h0, .inr (5, [.ref h1, .ref h2, .ref h3, .int (nI (sv_nc s)), .ref h4, .ref h5, .int (sv_la s), .int (sv_st s), .int (sv_sw s), .int (sv_fl s), .int (sv_sk s), .int (sv_mu s)])), (h2, .inl (tyI D, 4, .inl (nf (sv_cc s)))), (h3, .inl (tyI D, 4, .inl (nf (sv_cr s)))), (h4, .inl (tyI D, 4, .inl (sv_se s)))] (fun r_ w_ => r_ = some (.int (-5)) ∧ w_ = [(b0, .inr (8, [.ref w0, .ref h0, .ref c0, .ref f0, .ref m0, .ref t0, .ref y0, .ref n0, .int (bB hs)])), (c0, .inr (0, [.ref w0, .ref h0, .ref c1, .int (nI (cntB (fpP s) 48)), .ref c2])), (c1, .inl (tyI D, 48, .inl (nf (fpF s pf 48)))), (c2, .inl (tyZ D, 48, .inl (bf (fpK s 48)))), (w0, .inr (7, [.ref w1, .ref w2, .ref w3, .ref w4, .int (nI 48)])), (w1, .inl (tyI D, 48, .inl (nf tM))), (w2, .inl (tyI D, 48, .inl (nf tN))), (w3, .inl (tyI D, 48, .inl (nf tS))), (w4, .inl (tyI D, 84, .inl hT)), (h0, .inr (5, [.ref h1, .ref h2, .ref h3, .int (nI (sv_nc s)), .ref h4, .ref h5, .int (sv_la s), .int (sv_st s), .int (sv_sw s), .int (sv_fl s), .int (sv_sk s), .int (sv_mu s)])), (h2, .inl (tyI D, 4, .inl (nf (sv_cc s)))), (h3, .inl (tyI D, 4, .inl (nf (sv_cr s)))), (h4, .inl (tyI D, 4, .inl (sv_se s)))]) 0 0 := by
  refine CM_int (own := RX8) (cc := cX8_possible) (maxL := 2) (L0 := [(0, .ref b0), (1, .int (nI k))]) (by decide) rfl rfl (Nat.le_of_ble_eq_true rfl) rfl (fun X O E => ?_)
  have hcl := cntB_le (fpP s) 48
  refine g_iload_n O dX8_possible_0 1 rfl rfl ?_
  refine g_if_geN (tgt := 7) O (by omega) dX8_possible_1 (by decide) ?_
  refine g_aload_n O dX8_possible_7 0 rfl rfl ?_
  refine g_get O hiX8_possible_X8 0 rfl rfl 2 (by decide) (by decide +kernel) rfl dX8_possible_8 ?_
  refine g_callV (As := []) (wr := [(b0, .inr (8, [.ref w0, .ref h0, .ref c0, .ref f0, .ref m0, .ref t0, .ref y0, .ref n0, .int (bB hs)]))]) O (kX0_findPossible l D z c0 c1 c2 pn w0 w1 w2 w3 w4 h0 h1 h2 h3 h4 h5 s pf tk (by first | assumption | omega) (by first | assumption | omega)) gX8_possible_X0_findPossible rfl rfl rfl 0 (by decide +kernel) (by decide) (by decide) (q0 := 0) rfl rfl rfl [1, 2, 3, 4, 5, 6, 7, 8, 9, 10, 11, 12] [0] rfl (by decide) rfl (by decide) (by decide) rfl rfl (Nat.le_of_ble_eq_true rfl) dX8_possible_11 (fun r_2 w_3 hp => ?_)
  obtain ⟨rfl, rfl⟩ := hp
  refine g_eq (st' := []) (ws' := [(b0, .inr (8, [.ref w0, .ref h0, .ref c0, .ref f0, .ref m0, .ref t0, .ref y0, .ref n0, .int (bB hs)])), (c0, .inr (0, [.ref w0, .ref h0, .ref c1, .int (nI (cntB (fpP s) 48)), .ref c2])), (c1, .inl (tyI D, 48, .inl (nf (fpF s pf 48)))), (c2, .inl (tyZ D, 48, .inl (bf (fpK s 48)))), (w0, .inr (7, [.ref w1, .ref w2, .ref w3, .ref w4, .int (nI 48)])), (w1, .inl (tyI D, 48, .inl (nf tM))), (w2, .inl (tyI D, 48, .inl (nf tN))), (w3, .inl (tyI D, 48, .inl (nf tS))), (w4, .inl (tyI D, 84, .inl hT)), (h0, .inr (5, [.ref h1, .ref h2, .ref h3, .int (nI (sv_nc s)), .ref h4, .ref h5, .int (sv_la s), .int (sv_st s), .int (sv_sw s), .int (sv_fl s), .int (sv_sk s), .int (sv_mu s)])), (h2, .inl (tyI D, 4, .inl (nf (sv_cc s)))), (h3, .inl (tyI D, 4, .inl (nf (sv_cr s)))), (h4, .inl (tyI D, 4, .inl (sv_se s)))]) rfl rfl rfl ?_
  refine g_iload_n O dX8_possible_14 1 rfl rfl ?_
  refine g_aload_n O dX8_possible_15 0 rfl rfl ?_
  refine g_get O hiX8_possible_X8 0 rfl rfl 2 (by decide) (by decide +kernel) rfl dX8_possible_16 ?_
  refine g_getN O hiX8_possible_X0 1 rfl rfl 3 (by decide) 31 rfl rfl dX8_possible_19 ?_
  refine g_icmp_geN (tgt := 37) O (by omega) (by omega) dX8_possible_22 (by decide) (fun c_4 => ?_) (fun c_4 => (by exfalso; omega))
  refine g_bipush (x := (-5)) O dX8_possible_37 (by decide +kernel) ?_
  exact E 39 _ (-5) _ dX8_possible_39 ⟨rfl, rfl⟩
set_option maxHeartbeats 2000000 in
set_option maxRecDepth 100000 in
theorem kX8_possible_ok (l : Launch) (D : va_G) (z : Nat × Nat × Nat) (b0 : Nat) (w0 : Nat) (c0 : Nat) (f0 : Nat) (m0 : Nat) (t0 : Nat) (n0 : Nat) (hs : Bool) (y0 : Nat) (c1 : Nat) (c2 : Nat) (pn : Nat) (pf : Nat → Nat) (tk : Nat → Bool) (w1 : Nat) (w2 : Nat) (w3 : Nat) (w4 : Nat) (h0 : Nat) (h1 : Nat) (h2 : Nat) (h3 : Nat) (h4 : Nat) (h5 : Nat) (s : SV) (k : Nat) (hnc : sv_nc s ≤ 4) (hcc : ∀ j, j < sv_nc s → sv_cc s j < 12 ∧ sv_cr s j < 12) (hb : k < cntB (fpP s) 48) : CM l yX8_possible wsX8_possible ({ frames := 6, cells := 0, slots := 0, locals := 138 } : Room) D z [.ref b0, .int (nI k)] [(b0, .inr (8, [.ref w0, .ref h0, .ref c0, .ref f0, .ref m0, .ref t0, .ref y0, .ref n0, .int (bB hs)])), (c0, .inr (0, [.ref w0, .ref h0, .ref c1, .int (nI pn), .ref c2])), (c1, .inl (tyI D, 48, .inl (nf pf))), (c2, .inl (tyZ D, 48, .inl (bf tk))), (w0, .inr (7, [.ref w1, .ref w2, .ref w3, .ref w4, .int (nI 48)])), (w1, .inl (tyI D, 48, .inl (nf tM))), (w2, .inl (tyI D, 48, .inl (nf tN))), (w3, .inl (tyI D, 48, .inl (nf tS))), (w4, .inl (tyI D, 84, .inl hT)), (h0, .inr (5, [.ref h1, .ref h2, .ref h3, .int (nI (sv_nc s)), .ref h4, .ref h5, .int (sv_la s), .int (sv_st s), .int (sv_sw s), .int (sv_fl s), .int (sv_sk s), .int (sv_mu s)])), (h2, .inl (tyI D, 4, .inl (nf (sv_cc s)))), (h3, .inl (tyI D, 4, .inl (nf (sv_cr s)))), (h4, .inl (tyI D, 4, .inl (sv_se s)))] (fun r_ w_ => r_ = some (.int (nI (fpF s pf 48 k))) ∧ w_ = [(b0, .inr (8, [.ref w0, .ref h0, .ref c0, .ref f0, .ref m0, .ref t0, .ref y0, .ref n0, .int (bB hs)])), (c0, .inr (0, [.ref w0, .ref h0, .ref c1, .int (nI (cntB (fpP s) 48)), .ref c2])), (c1, .inl (tyI D, 48, .inl (nf (fpF s pf 48)))), (c2, .inl (tyZ D, 48, .inl (bf (fpK s 48)))), (w0, .inr (7, [.ref w1, .ref w2, .ref w3, .ref w4, .int (nI 48)])), (w1, .inl (tyI D, 48, .inl (nf tM))), (w2, .inl (tyI D, 48, .inl (nf tN))), (w3, .inl (tyI D, 48, .inl (nf tS))), (w4, .inl (tyI D, 84, .inl hT)), (h0, .inr (5, [.ref h1, .ref h2, .ref h3, .int (nI (sv_nc s)), .ref h4, .ref h5, .int (sv_la s), .int (sv_st s), .int (sv_sw s), .int (sv_fl s), .int (sv_sk s), .int (sv_mu s)])), (h2, .inl (tyI D, 4, .inl (nf (sv_cc s)))), (h3, .inl (tyI D, 4, .inl (nf (sv_cr s)))), (h4, .inl (tyI D, 4, .inl (sv_se s)))]) 0 0 := by
  refine CM_int (own := RX8) (cc := cX8_possible) (maxL := 2) (L0 := [(0, .ref b0), (1, .int (nI k))]) (by decide) rfl rfl (Nat.le_of_ble_eq_true rfl) rfl (fun X O E => ?_)
  have hcl := cntB_le (fpP s) 48
  refine g_iload_n O dX8_possible_0 1 rfl rfl ?_
  refine g_if_geN (tgt := 7) O (by omega) dX8_possible_1 (by decide) ?_
  refine g_aload_n O dX8_possible_7 0 rfl rfl ?_
  refine g_get O hiX8_possible_X8 0 rfl rfl 2 (by decide) (by decide +kernel) rfl dX8_possible_8 ?_
  refine g_callV (As := []) (wr := [(b0, .inr (8, [.ref w0, .ref h0, .ref c0, .ref f0, .ref m0, .ref t0, .ref y0, .ref n0, .int (bB hs)]))]) O (kX0_findPossible l D z c0 c1 c2 pn w0 w1 w2 w3 w4 h0 h1 h2 h3 h4 h5 s pf tk (by first | assumption | omega) (by first | assumption | omega)) gX8_possible_X0_findPossible rfl rfl rfl 0 (by decide +kernel) (by decide) (by decide) (q0 := 0) rfl rfl rfl [1, 2, 3, 4, 5, 6, 7, 8, 9, 10, 11, 12] [0] rfl (by decide) rfl (by decide) (by decide) rfl rfl (Nat.le_of_ble_eq_true rfl) dX8_possible_11 (fun r_2 w_3 hp => ?_)
  obtain ⟨rfl, rfl⟩ := hp
  refine g_eq (st' := []) (ws' := [(b0, .inr (8, [.ref w0, .ref h0, .ref c0, .ref f0, .ref m0, .ref t0, .ref y0, .ref n0, .int (bB hs)])), (c0, .inr (0, [.ref w0, .ref h0, .ref c1, .int (nI (cntB (fpP s) 48)), .ref c2])), (c1, .inl (tyI D, 48, .inl (nf (fpF s pf 48)))), (c2, .inl (tyZ D, 48, .inl (bf (fpK s 48)))), (w0, .inr (7, [.ref w1, .ref w2, .ref w3, .ref w4, .int (nI 48)])), (w1, .inl (tyI D, 48, .inl (nf tM))), (w2, .inl (tyI D, 48, .inl (nf tN))), (w3, .inl (tyI D, 48, .inl (nf tS))), (w4, .inl (tyI D, 84, .inl hT)), (h0, .inr (5, [.ref h1, .ref h2, .ref h3, .int (nI (sv_nc s)), .ref h4, .ref h5, .int (sv_la s), .int (sv_st s), .int (sv_sw s), .int (sv_fl s), .int (sv_sk s), .int (sv_mu s)])), (h2, .inl (tyI D, 4, .inl (nf (sv_cc s)))), (h3, .inl (tyI D, 4, .inl (nf (sv_cr s)))), (h4, .inl (tyI D, 4, .inl (sv_se s)))]) rfl rfl rfl ?_
  refine g_iload_n O dX8_possible_14 1 rfl rfl ?_
  refine g_aload_n O dX8_possible_15 0 rfl rfl ?_
  refine g_get O hiX8_possible_X8 0 rfl rfl 2 (by decide) (by decide +kernel) rfl dX8_possible_16 ?_
  refine g_getN O hiX8_possible_X0 1 rfl rfl 3 (by decide) 31 rfl rfl dX8_possible_19 ?_
  refine g_icmp_geN (tgt := 37) O (by omega) (by omega) dX8_possible_22 (by decide) (fun c_4 => (by exfalso; omega)) (fun c_4 => ?_)
  refine g_aload_n O dX8_possible_25 0 rfl rfl ?_
  refine g_get O hiX8_possible_X8 0 rfl rfl 2 (by decide) (by decide +kernel) rfl dX8_possible_26 ?_
  refine g_getN O hiX8_possible_X0 1 rfl rfl 2 (by decide) 30 rfl rfl dX8_possible_29 ?_
  refine g_iload_n O dX8_possible_32 1 rfl rfl ?_
  refine g_ialdN O 2 rfl (by omega) (by omega) dX8_possible_33 ?_
  refine g_goto (tgt := 39) O dX8_possible_34 (by decide) ?_
  exact E 39 _ (nI ((fpF s pf 48) k)) _ dX8_possible_39 ⟨rfl, rfl⟩
set_option maxHeartbeats 2000000 in
set_option maxRecDepth 100000 in
theorem kX8_waiting_b1 (l : Launch) (D : va_G) (z : Nat × Nat × Nat) (b0 : Nat) (w0 : Nat) (c0 : Nat) (f0 : Nat) (m0 : Nat) (t0 : Nat) (n0 : Nat) (hs : Bool) (y0 : Nat) (h0 : Nat) (j : Int32) (k : Int32) (hb : j < 0 ∨ k < 0 ∨ nI 3 < k) : CM l yX8_waiting wsX8_waiting ({ frames := 5, cells := 0, slots := 0, locals := 117 } : Room) D z [.ref b0, .int j, .int k] [(b0, .inr (8, [.ref w0, .ref h0, .ref c0, .ref f0, .ref m0, .ref t0, .ref y0, .ref n0, .int (bB hs)]))] (fun r_ w_ => r_ = some (.int (-2)) ∧ w_ = [(b0, .inr (8, [.ref w0, .ref h0, .ref c0, .ref f0, .ref m0, .ref t0, .ref y0, .ref n0, .int (bB hs)]))]) 0 0 := by
  refine CM_int (own := RX8) (cc := cX8_waiting) (maxL := 3) (L0 := [(0, .ref b0), (1, .int j), (2, .int k)]) (by decide) rfl rfl (Nat.le_of_ble_eq_true rfl) rfl (fun X O E => ?_)
  refine g_iload_n O dX8_waiting_0 1 rfl rfl ?_
  refine g_if_lt (tgt := 13) O dX8_waiting_1 (by decide) (fun c_1 => ?_) (fun c_1 => ?_)
  ·
    refine g_bipush (x := (-2)) O dX8_waiting_13 (by decide +kernel) ?_
    exact E 15 _ (-2) _ dX8_waiting_15 ⟨rfl, rfl⟩
  ·
    refine g_iload_n O dX8_waiting_4 2 rfl rfl ?_
    refine g_if_lt (tgt := 13) O dX8_waiting_5 (by decide) (fun c_2 => ?_) (fun c_2 => ?_)
    ·
      refine g_bipush (x := (-2)) O dX8_waiting_13 (by decide +kernel) ?_
      exact E 15 _ (-2) _ dX8_waiting_15 ⟨rfl, rfl⟩
    ·
      refine g_iload_n O dX8_waiting_8 2 rfl rfl ?_
      refine g_iconst (x := (nI 3)) O dX8_waiting_9 (by decide +kernel) ?_
      refine g_icmp_le (tgt := 16) O dX8_waiting_10 (by decide) (fun c_3 => (by rcases hb with h | h | h; exact absurd h ‹_›; exact absurd h ‹_›; exact absurd c_3 (Int32.not_le.mpr h))) (fun c_3 => ?_)
      refine g_bipush (x := (-2)) O dX8_waiting_13 (by decide +kernel) ?_
      exact E 15 _ (-2) _ dX8_waiting_15 ⟨rfl, rfl⟩
theorem hiX8_waiting_X4 : ∀ w ∈ wsX40, w ∈ wsX8_waiting := by intro w h; simp only [wsX8_waiting, List.mem_append, List.mem_cons, h, or_true, true_or]
theorem hiX8_waiting_X5 : ∀ w ∈ wsX50, w ∈ wsX8_waiting := by intro w h; simp only [wsX8_waiting, List.mem_append, List.mem_cons, h, or_true, true_or]
theorem hiX8_waiting_X8 : ∀ w ∈ wsX80, w ∈ wsX8_waiting := by intro w h; simp only [wsX8_waiting, List.mem_append, List.mem_cons, h, or_true, true_or]
set_option maxHeartbeats 2000000 in
set_option maxRecDepth 100000 in
theorem kX8_waiting_b2 (l : Launch) (D : va_G) (z : Nat × Nat × Nat) (b0 : Nat) (w0 : Nat) (c0 : Nat) (f0 : Nat) (m0 : Nat) (t0 : Nat) (n0 : Nat) (hs : Bool) (y0 : Nat) (h0 : Nat) (h1 : Nat) (h2 : Nat) (h3 : Nat) (h4 : Nat) (h5 : Nat) (h6 : Nat) (h7 : Nat) (h8 : Nat) (s : SV) (j : Nat) (k : Nat) (hj : j < 2147483648) (hk : k < 4) (hps : sv_ps s ≤ 16) (hb : sv_ps s ≤ j) : CM l yX8_waiting wsX8_waiting ({ frames := 5, cells := 0, slots := 0, locals := 117 } : Room) D z [.ref b0, .int (nI j), .int (nI k)] [(b0, .inr (8, [.ref w0, .ref h0, .ref c0, .ref f0, .ref m0, .ref t0, .ref y0, .ref n0, .int (bB hs)])), (h0, .inr (5, [.ref h1, .ref h2, .ref h3, .int (nI (sv_nc s)), .ref h4, .ref h5, .int (sv_la s), .int (sv_st s), .int (sv_sw s), .int (sv_fl s), .int (sv_sk s), .int (sv_mu s)])), (h5, .inr (4, [.int (nI 16), .ref h6, .ref h7, .ref h8, .int (nI (sv_ps s))])), (h6, .inl (tyI D, 16, .inl (nf (sv_fs s)))), (h7, .inl (tyI D, 16, .inl (nf (sv_fa s)))), (h8, .inl (tyI D, 16, .inl (nf (sv_fk s))))] (fun r_ w_ => r_ = some (.int (-5)) ∧ w_ = [(b0, .inr (8, [.ref w0, .ref h0, .ref c0, .ref f0, .ref m0, .ref t0, .ref y0, .ref n0, .int (bB hs)])), (h0, .inr (5, [.ref h1, .ref h2, .ref h3, .int (nI (sv_nc s)), .ref h4, .ref h5, .int (sv_la s), .int (sv_st s), .int (sv_sw s), .int (sv_fl s), .int (sv_sk s), .int (sv_mu s)])), (h5, .inr (4, [.int (nI 16), .ref h6, .ref h7, .ref h8, .int (nI (sv_ps s))])), (h6, .inl (tyI D, 16, .inl (nf (sv_fs s)))), (h7, .inl (tyI D, 16, .inl (nf (sv_fa s)))), (h8, .inl (tyI D, 16, .inl (nf (sv_fk s))))]) 0 0 := by
  refine CM_int (own := RX8) (cc := cX8_waiting) (maxL := 3) (L0 := [(0, .ref b0), (1, .int (nI j)), (2, .int (nI k))]) (by decide) rfl rfl (Nat.le_of_ble_eq_true rfl) rfl (fun X O E => ?_)
  refine g_iload_n O dX8_waiting_0 1 rfl rfl ?_
  refine g_if_ltN (tgt := 13) O (by omega) dX8_waiting_1 (by decide) ?_
  refine g_iload_n O dX8_waiting_4 2 rfl rfl ?_
  refine g_if_ltN (tgt := 13) O (by omega) dX8_waiting_5 (by decide) ?_
  refine g_iload_n O dX8_waiting_8 2 rfl rfl ?_
  refine g_iconst (x := (nI 3)) O dX8_waiting_9 (by decide +kernel) ?_
  refine g_icmp_leN (tgt := 16) O (by omega) (by omega) dX8_waiting_10 (by decide) (fun c_3 => ?_) (fun c_3 => (by exfalso; omega))
  refine g_iload_n O dX8_waiting_16 1 rfl rfl ?_
  refine g_aload_n O dX8_waiting_17 0 rfl rfl ?_
  refine g_get O hiX8_waiting_X8 0 rfl rfl 1 (by decide) (by decide +kernel) rfl dX8_waiting_18 ?_
  refine g_getN O hiX8_waiting_X5 1 rfl rfl 5 (by decide) 22 rfl rfl dX8_waiting_21 ?_
  refine g_getN O hiX8_waiting_X4 2 rfl rfl 4 (by decide) 7 rfl rfl dX8_waiting_24 ?_
  refine g_icmp_ltN (tgt := 33) O (by omega) (by omega) dX8_waiting_27 (by decide) (fun c_4 => (by exfalso; omega)) (fun c_4 => ?_)
  refine g_bipush (x := (-5)) O dX8_waiting_30 (by decide +kernel) ?_
  exact E 32 _ (-5) _ dX8_waiting_32 ⟨rfl, rfl⟩
set_option maxHeartbeats 2000000 in
set_option maxRecDepth 100000 in
theorem kX8_waiting_0 (l : Launch) (D : va_G) (z : Nat × Nat × Nat) (b0 : Nat) (w0 : Nat) (c0 : Nat) (f0 : Nat) (m0 : Nat) (t0 : Nat) (n0 : Nat) (hs : Bool) (y0 : Nat) (h0 : Nat) (h1 : Nat) (h2 : Nat) (h3 : Nat) (h4 : Nat) (h5 : Nat) (h6 : Nat) (h7 : Nat) (h8 : Nat) (s : SV) (j : Nat) (hps : sv_ps s ≤ 16) (hb : j < sv_ps s) : CM l yX8_waiting wsX8_waiting ({ frames := 5, cells := 0, slots := 0, locals := 117 } : Room) D z [.ref b0, .int (nI j), .int (nI 0)] [(b0, .inr (8, [.ref w0, .ref h0, .ref c0, .ref f0, .ref m0, .ref t0, .ref y0, .ref n0, .int (bB hs)])), (h0, .inr (5, [.ref h1, .ref h2, .ref h3, .int (nI (sv_nc s)), .ref h4, .ref h5, .int (sv_la s), .int (sv_st s), .int (sv_sw s), .int (sv_fl s), .int (sv_sk s), .int (sv_mu s)])), (h5, .inr (4, [.int (nI 16), .ref h6, .ref h7, .ref h8, .int (nI (sv_ps s))])), (h6, .inl (tyI D, 16, .inl (nf (sv_fs s)))), (h7, .inl (tyI D, 16, .inl (nf (sv_fa s)))), (h8, .inl (tyI D, 16, .inl (nf (sv_fk s))))] (fun r_ w_ => r_ = some (.int (nI (sv_fs s j))) ∧ w_ = [(b0, .inr (8, [.ref w0, .ref h0, .ref c0, .ref f0, .ref m0, .ref t0, .ref y0, .ref n0, .int (bB hs)])), (h0, .inr (5, [.ref h1, .ref h2, .ref h3, .int (nI (sv_nc s)), .ref h4, .ref h5, .int (sv_la s), .int (sv_st s), .int (sv_sw s), .int (sv_fl s), .int (sv_sk s), .int (sv_mu s)])), (h5, .inr (4, [.int (nI 16), .ref h6, .ref h7, .ref h8, .int (nI (sv_ps s))])), (h6, .inl (tyI D, 16, .inl (nf (sv_fs s)))), (h7, .inl (tyI D, 16, .inl (nf (sv_fa s)))), (h8, .inl (tyI D, 16, .inl (nf (sv_fk s))))]) 0 0 := by
  refine CM_int (own := RX8) (cc := cX8_waiting) (maxL := 3) (L0 := [(0, .ref b0), (1, .int (nI j)), (2, .int (nI 0))]) (by decide) rfl rfl (Nat.le_of_ble_eq_true rfl) rfl (fun X O E => ?_)
  refine g_iload_n O dX8_waiting_0 1 rfl rfl ?_
  refine g_if_ltN (tgt := 13) O (by omega) dX8_waiting_1 (by decide) ?_
  refine g_iload_n O dX8_waiting_4 2 rfl rfl ?_
  refine g_if_ltN (tgt := 13) O (by omega) dX8_waiting_5 (by decide) ?_
  refine g_iload_n O dX8_waiting_8 2 rfl rfl ?_
  refine g_iconst (x := (nI 3)) O dX8_waiting_9 (by decide +kernel) ?_
  refine g_icmp_leN (tgt := 16) O (by omega) (by omega) dX8_waiting_10 (by decide) (fun c_3 => ?_) (fun c_3 => absurd c_3 (by decide))
  refine g_iload_n O dX8_waiting_16 1 rfl rfl ?_
  refine g_aload_n O dX8_waiting_17 0 rfl rfl ?_
  refine g_get O hiX8_waiting_X8 0 rfl rfl 1 (by decide) (by decide +kernel) rfl dX8_waiting_18 ?_
  refine g_getN O hiX8_waiting_X5 1 rfl rfl 5 (by decide) 22 rfl rfl dX8_waiting_21 ?_
  refine g_getN O hiX8_waiting_X4 2 rfl rfl 4 (by decide) 7 rfl rfl dX8_waiting_24 ?_
  refine g_icmp_ltN (tgt := 33) O (by omega) (by omega) dX8_waiting_27 (by decide) (fun c_4 => ?_) (fun c_4 => (by exfalso; omega))
  refine g_iload_n O dX8_waiting_33 2 rfl rfl ?_
  refine g_tableIn (off := 26) (tgt := 60) O dX8_waiting_34 (by decide +kernel) (by decide +kernel) (by decide +kernel) (by decide) ?_
  refine g_aload_n O dX8_waiting_60 0 rfl rfl ?_
  refine g_get O hiX8_waiting_X8 0 rfl rfl 1 (by decide) (by decide +kernel) rfl dX8_waiting_61 ?_
  refine g_getN O hiX8_waiting_X5 1 rfl rfl 5 (by decide) 22 rfl rfl dX8_waiting_64 ?_
  refine g_getN O hiX8_waiting_X4 2 rfl rfl 1 (by decide) 3 rfl rfl dX8_waiting_67 ?_
  refine g_iload_n O dX8_waiting_70 1 rfl rfl ?_
  refine g_ialdN O 3 rfl (by omega) (by omega) dX8_waiting_71 ?_
  exact E 72 _ (nI ((sv_fs s) j)) _ dX8_waiting_72 ⟨rfl, rfl⟩
set_option maxHeartbeats 2000000 in
set_option maxRecDepth 100000 in
theorem kX8_waiting_1 (l : Launch) (D : va_G) (z : Nat × Nat × Nat) (b0 : Nat) (w0 : Nat) (c0 : Nat) (f0 : Nat) (m0 : Nat) (t0 : Nat) (n0 : Nat) (hs : Bool) (y0 : Nat) (h0 : Nat) (h1 : Nat) (h2 : Nat) (h3 : Nat) (h4 : Nat) (h5 : Nat) (h6 : Nat) (h7 : Nat) (h8 : Nat) (s : SV) (j : Nat) (hps : sv_ps s ≤ 16) (hb : j < sv_ps s) : CM l yX8_waiting wsX8_waiting ({ frames := 5, cells := 0, slots := 0, locals := 117 } : Room) D z [.ref b0, .int (nI j), .int (nI 1)] [(b0, .inr (8, [.ref w0, .ref h0, .ref c0, .ref f0, .ref m0, .ref t0, .ref y0, .ref n0, .int (bB hs)])), (h0, .inr (5, [.ref h1, .ref h2, .ref h3, .int (nI (sv_nc s)), .ref h4, .ref h5, .int (sv_la s), .int (sv_st s), .int (sv_sw s), .int (sv_fl s), .int (sv_sk s), .int (sv_mu s)])), (h5, .inr (4, [.int (nI 16), .ref h6, .ref h7, .ref h8, .int (nI (sv_ps s))])), (h6, .inl (tyI D, 16, .inl (nf (sv_fs s)))), (h7, .inl (tyI D, 16, .inl (nf (sv_fa s)))), (h8, .inl (tyI D, 16, .inl (nf (sv_fk s))))] (fun r_ w_ => r_ = some (.int (nI (sv_fa s j))) ∧ w_ = [(b0, .inr (8, [.ref w0, .ref h0, .ref c0, .ref f0, .ref m0, .ref t0, .ref y0, .ref n0, .int (bB hs)])), (h0, .inr (5, [.ref h1, .ref h2, .ref h3, .int (nI (sv_nc s)), .ref h4, .ref h5, .int (sv_la s), .int (sv_st s), .int (sv_sw s), .int (sv_fl s), .int (sv_sk s), .int (sv_mu s)])), (h5, .inr (4, [.int (nI 16), .ref h6, .ref h7, .ref h8, .int (nI (sv_ps s))])), (h6, .inl (tyI D, 16, .inl (nf (sv_fs s)))), (h7, .inl (tyI D, 16, .inl (nf (sv_fa s)))), (h8, .inl (tyI D, 16, .inl (nf (sv_fk s))))]) 0 0 := by
  refine CM_int (own := RX8) (cc := cX8_waiting) (maxL := 3) (L0 := [(0, .ref b0), (1, .int (nI j)), (2, .int (nI 1))]) (by decide) rfl rfl (Nat.le_of_ble_eq_true rfl) rfl (fun X O E => ?_)
  refine g_iload_n O dX8_waiting_0 1 rfl rfl ?_
  refine g_if_ltN (tgt := 13) O (by omega) dX8_waiting_1 (by decide) ?_
  refine g_iload_n O dX8_waiting_4 2 rfl rfl ?_
  refine g_if_ltN (tgt := 13) O (by omega) dX8_waiting_5 (by decide) ?_
  refine g_iload_n O dX8_waiting_8 2 rfl rfl ?_
  refine g_iconst (x := (nI 3)) O dX8_waiting_9 (by decide +kernel) ?_
  refine g_icmp_leN (tgt := 16) O (by omega) (by omega) dX8_waiting_10 (by decide) (fun c_3 => ?_) (fun c_3 => absurd c_3 (by decide))
  refine g_iload_n O dX8_waiting_16 1 rfl rfl ?_
  refine g_aload_n O dX8_waiting_17 0 rfl rfl ?_
  refine g_get O hiX8_waiting_X8 0 rfl rfl 1 (by decide) (by decide +kernel) rfl dX8_waiting_18 ?_
  refine g_getN O hiX8_waiting_X5 1 rfl rfl 5 (by decide) 22 rfl rfl dX8_waiting_21 ?_
  refine g_getN O hiX8_waiting_X4 2 rfl rfl 4 (by decide) 7 rfl rfl dX8_waiting_24 ?_
  refine g_icmp_ltN (tgt := 33) O (by omega) (by omega) dX8_waiting_27 (by decide) (fun c_4 => ?_) (fun c_4 => (by exfalso; omega))
  refine g_iload_n O dX8_waiting_33 2 rfl rfl ?_
  refine g_tableIn (off := 39) (tgt := 73) O dX8_waiting_34 (by decide +kernel) (by decide +kernel) (by decide +kernel) (by decide) ?_
  refine g_aload_n O dX8_waiting_73 0 rfl rfl ?_
  refine g_get O hiX8_waiting_X8 0 rfl rfl 1 (by decide) (by decide +kernel) rfl dX8_waiting_74 ?_
  refine g_getN O hiX8_waiting_X5 1 rfl rfl 5 (by decide) 22 rfl rfl dX8_waiting_77 ?_
  refine g_getN O hiX8_waiting_X4 2 rfl rfl 2 (by decide) 4 rfl rfl dX8_waiting_80 ?_
  refine g_iload_n O dX8_waiting_83 1 rfl rfl ?_
  refine g_ialdN O 4 rfl (by omega) (by omega) dX8_waiting_84 ?_
  exact E 85 _ (nI ((sv_fa s) j)) _ dX8_waiting_85 ⟨rfl, rfl⟩
set_option maxHeartbeats 2000000 in
set_option maxRecDepth 100000 in
theorem kX8_waiting_2 (l : Launch) (D : va_G) (z : Nat × Nat × Nat) (b0 : Nat) (w0 : Nat) (c0 : Nat) (f0 : Nat) (m0 : Nat) (t0 : Nat) (n0 : Nat) (hs : Bool) (y0 : Nat) (h0 : Nat) (h1 : Nat) (h2 : Nat) (h3 : Nat) (h4 : Nat) (h5 : Nat) (h6 : Nat) (h7 : Nat) (h8 : Nat) (s : SV) (j : Nat) (hps : sv_ps s ≤ 16) (hb : j < sv_ps s) : CM l yX8_waiting wsX8_waiting ({ frames := 5, cells := 0, slots := 0, locals := 117 } : Room) D z [.ref b0, .int (nI j), .int (nI 2)] [(b0, .inr (8, [.ref w0, .ref h0, .ref c0, .ref f0, .ref m0, .ref t0, .ref y0, .ref n0, .int (bB hs)])), (h0, .inr (5, [.ref h1, .ref h2, .ref h3, .int (nI (sv_nc s)), .ref h4, .ref h5, .int (sv_la s), .int (sv_st s), .int (sv_sw s), .int (sv_fl s), .int (sv_sk s), .int (sv_mu s)])), (h5, .inr (4, [.int (nI 16), .ref h6, .ref h7, .ref h8, .int (nI (sv_ps s))])), (h6, .inl (tyI D, 16, .inl (nf (sv_fs s)))), (h7, .inl (tyI D, 16, .inl (nf (sv_fa s)))), (h8, .inl (tyI D, 16, .inl (nf (sv_fk s))))] (fun r_ w_ => r_ = some (.int (nI (sv_fk s j))) ∧ w_ = [(b0, .inr (8, [.ref w0, .ref h0, .ref c0, .ref f0, .ref m0, .ref t0, .ref y0, .ref n0, .int (bB hs)])), (h0, .inr (5, [.ref h1, .ref h2, .ref h3, .int (nI (sv_nc s)), .ref h4, .ref h5, .int (sv_la s), .int (sv_st s), .int (sv_sw s), .int (sv_fl s), .int (sv_sk s), .int (sv_mu s)])), (h5, .inr (4, [.int (nI 16), .ref h6, .ref h7, .ref h8, .int (nI (sv_ps s))])), (h6, .inl (tyI D, 16, .inl (nf (sv_fs s)))), (h7, .inl (tyI D, 16, .inl (nf (sv_fa s)))), (h8, .inl (tyI D, 16, .inl (nf (sv_fk s))))]) 0 0 := by
  refine CM_int (own := RX8) (cc := cX8_waiting) (maxL := 3) (L0 := [(0, .ref b0), (1, .int (nI j)), (2, .int (nI 2))]) (by decide) rfl rfl (Nat.le_of_ble_eq_true rfl) rfl (fun X O E => ?_)
  refine g_iload_n O dX8_waiting_0 1 rfl rfl ?_
  refine g_if_ltN (tgt := 13) O (by omega) dX8_waiting_1 (by decide) ?_
  refine g_iload_n O dX8_waiting_4 2 rfl rfl ?_
  refine g_if_ltN (tgt := 13) O (by omega) dX8_waiting_5 (by decide) ?_
  refine g_iload_n O dX8_waiting_8 2 rfl rfl ?_
  refine g_iconst (x := (nI 3)) O dX8_waiting_9 (by decide +kernel) ?_
  refine g_icmp_leN (tgt := 16) O (by omega) (by omega) dX8_waiting_10 (by decide) (fun c_3 => ?_) (fun c_3 => absurd c_3 (by decide))
  refine g_iload_n O dX8_waiting_16 1 rfl rfl ?_
  refine g_aload_n O dX8_waiting_17 0 rfl rfl ?_
  refine g_get O hiX8_waiting_X8 0 rfl rfl 1 (by decide) (by decide +kernel) rfl dX8_waiting_18 ?_
  refine g_getN O hiX8_waiting_X5 1 rfl rfl 5 (by decide) 22 rfl rfl dX8_waiting_21 ?_
  refine g_getN O hiX8_waiting_X4 2 rfl rfl 4 (by decide) 7 rfl rfl dX8_waiting_24 ?_
  refine g_icmp_ltN (tgt := 33) O (by omega) (by omega) dX8_waiting_27 (by decide) (fun c_4 => ?_) (fun c_4 => (by exfalso; omega))
  refine g_iload_n O dX8_waiting_33 2 rfl rfl ?_
  refine g_tableIn (off := 52) (tgt := 86) O dX8_waiting_34 (by decide +kernel) (by decide +kernel) (by decide +kernel) (by decide) ?_
  refine g_aload_n O dX8_waiting_86 0 rfl rfl ?_
  refine g_get O hiX8_waiting_X8 0 rfl rfl 1 (by decide) (by decide +kernel) rfl dX8_waiting_87 ?_
  refine g_getN O hiX8_waiting_X5 1 rfl rfl 5 (by decide) 22 rfl rfl dX8_waiting_90 ?_
  refine g_getN O hiX8_waiting_X4 2 rfl rfl 3 (by decide) 5 rfl rfl dX8_waiting_93 ?_
  refine g_iload_n O dX8_waiting_96 1 rfl rfl ?_
  refine g_ialdN O 5 rfl (by omega) (by omega) dX8_waiting_97 ?_
  exact E 98 _ (nI ((sv_fk s) j)) _ dX8_waiting_98 ⟨rfl, rfl⟩
