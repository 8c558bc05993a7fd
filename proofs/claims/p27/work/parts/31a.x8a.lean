theorem hiX8_isClamp_X5 : ∀ w ∈ wsX50, w ∈ wsX8_isClamp := by intro w h; simp only [wsX8_isClamp, List.mem_append, List.mem_cons, h, or_true, true_or]
theorem hiX8_isClamp_X8 : ∀ w ∈ wsX80, w ∈ wsX8_isClamp := by intro w h; simp only [wsX8_isClamp, List.mem_append, List.mem_cons, h, or_true, true_or]
set_option maxHeartbeats 2000000 in
set_option maxRecDepth 100000 in
theorem kX8_isClamp (l : Launch) (D : va_G) (z : Nat × Nat × Nat) (b0 : Nat) (w0 : Nat) (c0 : Nat) (f0 : Nat) (m0 : Nat) (t0 : Nat) (n0 : Nat) (hs : Bool) (y0 : Nat) (h0 : Nat) (h1 : Nat) (h2 : Nat) (h3 : Nat) (h4 : Nat) (h5 : Nat) (s : SV) (x : Int32) (hnc : sv_nc s ≤ 4) : CM l yX8_isClamp wsX8_isClamp ({ frames := 0, cells := 0, slots := 0, locals := 0 } : Room) D z [.ref b0, .int x] [(b0, .inr (8, [.ref w0, .ref h0, .ref c0, .ref f0, .ref m0, .ref t0, .ref y0, .ref n0, .int (bB hs)])), (h0, .inr (5, [.ref h1, .ref h2, .ref h3, .int (nI (sv_nc s)), .ref h4, .ref h5, .int (sv_la s), .int (sv_st s), .int (sv_sw s), .int (sv_fl s), .int (sv_sk s), .int (sv_mu s)]))] (fun r_ w_ => r_ = some (.int (bB (rgB x (sv_nc s)))) ∧ w_ = [(b0, .inr (8, [.ref w0, .ref h0, .ref c0, .ref f0, .ref m0, .ref t0, .ref y0, .ref n0, .int (bB hs)])), (h0, .inr (5, [.ref h1, .ref h2, .ref h3, .int (nI (sv_nc s)), .ref h4, .ref h5, .int (sv_la s), .int (sv_st s), .int (sv_sw s), .int (sv_fl s), .int (sv_sk s), .int (sv_mu s)]))]) 0 0 := by
  refine CM_bool (own := RX8) (cc := cX8_isClamp) (maxL := 2) (L0 := [(0, .ref b0), (1, .int x)]) (by decide) rfl rfl (Nat.le_of_ble_eq_true rfl) rfl (fun X O E => ?_)
  refine g_iload_n O dX8_isClamp_0 1 rfl rfl ?_
  refine g_if_lt (tgt := 19) O dX8_isClamp_1 (by decide) (fun c_1 => ?_) (fun c_1 => ?_)
  ·
    refine g_iconst (x := (nI 0)) O dX8_isClamp_19 (by decide +kernel) ?_
    refine g_eq (st' := [.int (bB false)]) rfl rfl rfl ?_
    exact E 20 _ false _ dX8_isClamp_20 (by refine ⟨?_, rfl⟩; congr 3; first | exact (rgB_of ‹_› ‹_›).symm | exact (rgB_neg ‹_›).symm | exact (rgB_ge ‹_›).symm)
  ·
    refine g_iload_n O dX8_isClamp_4 1 rfl rfl ?_
    refine g_aload_n O dX8_isClamp_5 0 rfl rfl ?_
    refine g_get O hiX8_isClamp_X8 0 rfl rfl 1 (by decide) (by decide +kernel) rfl dX8_isClamp_6 ?_
    refine g_getN O hiX8_isClamp_X5 1 rfl rfl 3 (by decide) 17 rfl rfl dX8_isClamp_9 ?_
    refine g_icmp_ge (tgt := 19) O dX8_isClamp_12 (by decide) (fun c_2 => ?_) (fun c_2 => ?_)
    ·
      refine g_iconst (x := (nI 0)) O dX8_isClamp_19 (by decide +kernel) ?_
      refine g_eq (st' := [.int (bB false)]) rfl rfl rfl ?_
      exact E 20 _ false _ dX8_isClamp_20 (by refine ⟨?_, rfl⟩; congr 3; first | exact (rgB_of ‹_› ‹_›).symm | exact (rgB_neg ‹_›).symm | exact (rgB_ge ‹_›).symm)
    ·
      refine g_iconst (x := (nI 1)) O dX8_isClamp_15 (by decide +kernel) ?_
      refine g_goto (tgt := 20) O dX8_isClamp_16 (by decide) ?_
      refine g_eq (st' := [.int (bB true)]) rfl rfl rfl ?_
      exact E 20 _ true _ dX8_isClamp_20 (by refine ⟨?_, rfl⟩; congr 3; first | exact (rgB_of ‹_› ‹_›).symm | exact (rgB_neg ‹_›).symm | exact (rgB_ge ‹_›).symm)
set_option maxHeartbeats 2000000 in
set_option maxRecDepth 100000 in
theorem kX8_isBow (l : Launch) (D : va_G) (z : Nat × Nat × Nat) (x : Int32) (y : Int32)  : CM l yX8_isBow wsX8_isBow ({ frames := 1, cells := 0, slots := 0, locals := 20 } : Room) D z [.int x, .int y] [] (fun r_ w_ => r_ = some (.int (bB (rgB x 4 && rgB y 12))) ∧ w_ = []) 0 0 := by
  refine CM_bool (own := RX8) (cc := cX8_isBow) (maxL := 2) (L0 := [(0, .int x), (1, .int y)]) (by decide) rfl rfl (Nat.le_of_ble_eq_true rfl) rfl (fun X O E => ?_)
  refine g_iload_n O dX8_isBow_0 0 rfl rfl ?_
  refine g_if_lt (tgt := 20) O dX8_isBow_1 (by decide) (fun c_1 => ?_) (fun c_1 => ?_)
  ·
    refine g_iconst (x := (nI 0)) O dX8_isBow_20 (by decide +kernel) ?_
    refine g_eq (st' := [.int (bB false)]) rfl rfl rfl ?_
    exact E 21 _ false _ dX8_isBow_21 (by refine ⟨?_, rfl⟩; congr 3; first | (rw [rgB_of (x := x) ‹_› ‹_›]; simp_all) | (rw [rgB_neg (x := x) ‹_›]; rfl) | (rw [rgB_ge (x := x) ‹_›]; rfl) | simp_all)
  ·
    refine g_iload_n O dX8_isBow_4 0 rfl rfl ?_
    refine g_iconst (x := (nI 4)) O dX8_isBow_5 (by decide +kernel) ?_
    refine g_icmp_ge (tgt := 20) O dX8_isBow_6 (by decide) (fun c_2 => ?_) (fun c_2 => ?_)
    ·
      refine g_iconst (x := (nI 0)) O dX8_isBow_20 (by decide +kernel) ?_
      refine g_eq (st' := [.int (bB false)]) rfl rfl rfl ?_
      exact E 21 _ false _ dX8_isBow_21 (by refine ⟨?_, rfl⟩; congr 3; first | (rw [rgB_of (x := x) ‹_› ‹_›]; simp_all) | (rw [rgB_neg (x := x) ‹_›]; rfl) | (rw [rgB_ge (x := x) ‹_›]; rfl) | simp_all)
    ·
      refine g_iload_n O dX8_isBow_9 1 rfl rfl ?_
      refine g_callS (As := [.int y]) (wr := []) O (kX8_isLine l D z y ) gX8_isBow_X8_isLine rfl rfl rfl 1 (by decide +kernel) (by decide) (by decide) [] [] rfl (by decide) rfl (by decide) (by decide) rfl rfl (Nat.le_of_ble_eq_true rfl) dX8_isBow_10 (fun r_3 w_4 hp => ?_)
      obtain ⟨rfl, rfl⟩ := hp
      refine g_eq (st' := [.int (bB (rgB y 12))]) (ws' := []) rfl rfl rfl ?_
      refine g_if_eqB (tgt := 20) O dX8_isBow_13 (by decide) (fun c_5 => ?_) (fun c_5 => ?_)
      ·
        refine g_iconst (x := (nI 0)) O dX8_isBow_20 (by decide +kernel) ?_
        refine g_eq (st' := [.int (bB false)]) rfl rfl rfl ?_
        exact E 21 _ false _ dX8_isBow_21 (by refine ⟨?_, rfl⟩; congr 3; first | (rw [rgB_of (x := x) ‹_› ‹_›]; simp_all) | (rw [rgB_neg (x := x) ‹_›]; rfl) | (rw [rgB_ge (x := x) ‹_›]; rfl) | simp_all)
      ·
        refine g_iconst (x := (nI 1)) O dX8_isBow_16 (by decide +kernel) ?_
        refine g_goto (tgt := 21) O dX8_isBow_17 (by decide) ?_
        refine g_eq (st' := [.int (bB true)]) rfl rfl rfl ?_
        exact E 21 _ true _ dX8_isBow_21 (by refine ⟨?_, rfl⟩; congr 3; first | (rw [rgB_of (x := x) ‹_› ‹_›]; simp_all) | (rw [rgB_neg (x := x) ‹_›]; rfl) | (rw [rgB_ge (x := x) ‹_›]; rfl) | simp_all)
set_option maxHeartbeats 2000000 in
set_option maxRecDepth 100000 in
theorem kX8_orNone (l : Launch) (D : va_G) (z : Nat × Nat × Nat) (x : Int32)  : CM l yX8_orNone wsX8_orNone ({ frames := 0, cells := 0, slots := 0, locals := 0 } : Room) D z [.int x] [] (fun r_ w_ => r_ = some (.int (laM x)) ∧ w_ = []) 0 0 := by
  refine CM_int (own := RX8) (cc := cX8_orNone) (maxL := 1) (L0 := [(0, .int x)]) (by decide) rfl rfl (Nat.le_of_ble_eq_true rfl) rfl (fun X O E => ?_)
  refine g_iload_n O dX8_orNone_0 0 rfl rfl ?_
  refine g_if_lt (tgt := 8) O dX8_orNone_1 (by decide) (fun c_1 => ?_) (fun c_1 => ?_)
  ·
    have he : laM x = -5 := by simp only [laM]; rw [if_pos c_1]
    refine g_bipush (x := (-5)) O dX8_orNone_8 (by decide +kernel) ?_
    exact E 10 _ (-5) _ dX8_orNone_10 (by rw [he]; exact ⟨rfl, rfl⟩)
  ·
    have he : laM x = x := by simp only [laM]; rw [if_neg c_1]
    refine g_iload_n O dX8_orNone_4 0 rfl rfl ?_
    refine g_goto (tgt := 10) O dX8_orNone_5 (by decide) ?_
    exact E 10 _ x _ dX8_orNone_10 (by rw [he]; exact ⟨rfl, rfl⟩)
set_option maxHeartbeats 2000000 in
set_option maxRecDepth 100000 in
theorem kX8_asNumber (l : Launch) (D : va_G) (z : Nat × Nat × Nat) (x : Bool)  : CM l yX8_asNumber wsX8_asNumber ({ frames := 0, cells := 0, slots := 0, locals := 0 } : Room) D z [.int (bB x)] [] (fun r_ w_ => r_ = some (.int (bB x)) ∧ w_ = []) 0 0 := by
  refine CM_int (own := RX8) (cc := cX8_asNumber) (maxL := 1) (L0 := [(0, .int (bB x))]) (by decide) rfl rfl (Nat.le_of_ble_eq_true rfl) rfl (fun X O E => ?_)
  refine g_iload_n O dX8_asNumber_0 0 rfl rfl ?_
  refine g_if_eqB (tgt := 8) O dX8_asNumber_1 (by decide) (fun c_1 => ?_) (fun c_1 => ?_)
  ·
    refine g_iconst (x := (nI 0)) O dX8_asNumber_8 (by decide +kernel) ?_
    exact E 9 _ (nI 0) _ dX8_asNumber_9 (by subst_vars; exact ⟨rfl, rfl⟩)
  ·
    refine g_iconst (x := (nI 1)) O dX8_asNumber_4 (by decide +kernel) ?_
    refine g_goto (tgt := 9) O dX8_asNumber_5 (by decide) ?_
    exact E 9 _ (nI 1) _ dX8_asNumber_9 (by subst_vars; exact ⟨rfl, rfl⟩)
set_option maxHeartbeats 2000000 in
set_option maxRecDepth 100000 in
theorem kX8_strew_b1 (l : Launch) (D : va_G) (z : Nat × Nat × Nat) (b0 : Nat) (w0 : Nat) (c0 : Nat) (f0 : Nat) (m0 : Nat) (t0 : Nat) (n0 : Nat) (hs : Bool) (y0 : Nat) (h0 : Nat) (x : Int32) (y : Int32) (k : Int32) (hb : (rgB x 12 && rgB y 12) = false) : CM l yX8_strew wsX8_strew ({ frames := 5, cells := 0, slots := 0, locals := 109 } : Room) D z [.ref b0, .int x, .int y, .int k] [(b0, .inr (8, [.ref w0, .ref h0, .ref c0, .ref f0, .ref m0, .ref t0, .ref y0, .ref n0, .int (bB hs)]))] (fun r_ w_ => r_ = some (.int (-1)) ∧ w_ = [(b0, .inr (8, [.ref w0, .ref h0, .ref c0, .ref f0, .ref m0, .ref t0, .ref y0, .ref n0, .int (bB hs)]))]) 0 0 := by
  refine CM_int (own := RX8) (cc := cX8_strew) (maxL := 5) (L0 := [(0, .ref b0), (1, .int x), (2, .int y), (3, .int k)]) (by decide) rfl rfl (Nat.le_of_ble_eq_true rfl) rfl (fun X O E => ?_)
  refine g_iload_n O dX8_strew_0 1 rfl rfl ?_
  refine g_iload_n O dX8_strew_1 2 rfl rfl ?_
  refine g_callS (As := [.int x, .int y]) (wr := [(b0, .inr (8, [.ref w0, .ref h0, .ref c0, .ref f0, .ref m0, .ref t0, .ref y0, .ref n0, .int (bB hs)]))]) O (kX8_isPlace l D z x y ) gX8_strew_X8_isPlace rfl rfl rfl 2 (by decide +kernel) (by decide) (by decide) [] [0] rfl (by decide) rfl (by decide) (by decide) rfl rfl (Nat.le_of_ble_eq_true rfl) dX8_strew_2 (fun r_1 w_2 hp => ?_)
  obtain ⟨rfl, rfl⟩ := hp
  refine g_eq (st' := [.int (bB (rgB x 12 && rgB y 12))]) (ws' := [(b0, .inr (8, [.ref w0, .ref h0, .ref c0, .ref f0, .ref m0, .ref t0, .ref y0, .ref n0, .int (bB hs)]))]) rfl rfl rfl ?_
  refine g_if_neB (tgt := 10) O dX8_strew_5 (by decide) (fun c_3 => absurd c_3 (by rw [hb]; decide)) (fun c_3 => ?_)
  refine g_iconst (x := (-1)) O dX8_strew_8 (by decide +kernel) ?_
  exact E 9 _ (-1) _ dX8_strew_9 ⟨rfl, rfl⟩
set_option maxHeartbeats 2000000 in
set_option maxRecDepth 100000 in
theorem kX8_strew_b2 (l : Launch) (D : va_G) (z : Nat × Nat × Nat) (b0 : Nat) (w0 : Nat) (c0 : Nat) (f0 : Nat) (m0 : Nat) (t0 : Nat) (n0 : Nat) (hs : Bool) (y0 : Nat) (h0 : Nat) (x : Nat) (y : Nat) (k : Int32) (hx : x < 12) (hy : y < 12) (hb : k < nI 1 ∨ nI 99 < k) : CM l yX8_strew wsX8_strew ({ frames := 5, cells := 0, slots := 0, locals := 109 } : Room) D z [.ref b0, .int (nI x), .int (nI y), .int k] [(b0, .inr (8, [.ref w0, .ref h0, .ref c0, .ref f0, .ref m0, .ref t0, .ref y0, .ref n0, .int (bB hs)]))] (fun r_ w_ => r_ = some (.int (-2)) ∧ w_ = [(b0, .inr (8, [.ref w0, .ref h0, .ref c0, .ref f0, .ref m0, .ref t0, .ref y0, .ref n0, .int (bB hs)]))]) 0 0 := by
  refine CM_int (own := RX8) (cc := cX8_strew) (maxL := 5) (L0 := [(0, .ref b0), (1, .int (nI x)), (2, .int (nI y)), (3, .int k)]) (by decide) rfl rfl (Nat.le_of_ble_eq_true rfl) rfl (fun X O E => ?_)
  refine g_iload_n O dX8_strew_0 1 rfl rfl ?_
  refine g_iload_n O dX8_strew_1 2 rfl rfl ?_
  refine g_callS (As := [.int (nI x), .int (nI y)]) (wr := [(b0, .inr (8, [.ref w0, .ref h0, .ref c0, .ref f0, .ref m0, .ref t0, .ref y0, .ref n0, .int (bB hs)]))]) O (kX8_isPlace l D z (nI x) (nI y) ) gX8_strew_X8_isPlace rfl rfl rfl 2 (by decide +kernel) (by decide) (by decide) [] [0] rfl (by decide) rfl (by decide) (by decide) rfl rfl (Nat.le_of_ble_eq_true rfl) dX8_strew_2 (fun r_1 w_2 hp => ?_)
  obtain ⟨rfl, rfl⟩ := hp
  refine g_eq (st' := [.int (bB (rgB (nI x) 12 && rgB (nI y) 12))]) (ws' := [(b0, .inr (8, [.ref w0, .ref h0, .ref c0, .ref f0, .ref m0, .ref t0, .ref y0, .ref n0, .int (bB hs)]))]) rfl rfl rfl ?_
  refine g_if_neB (tgt := 10) O dX8_strew_5 (by decide) (fun c_3 => ?_) (fun c_3 => absurd c_3 (by rw [rgB_t hx (by decide), rgB_t hy (by decide)]; decide))
  refine g_iload_n O dX8_strew_10 3 rfl rfl ?_
  refine g_iconst (x := (nI 1)) O dX8_strew_11 (by decide +kernel) ?_
  refine g_icmp_lt (tgt := 21) O dX8_strew_12 (by decide) (fun c_4 => ?_) (fun c_4 => ?_)
  ·
    refine g_bipush (x := (-2)) O dX8_strew_21 (by decide +kernel) ?_
    exact E 23 _ (-2) _ dX8_strew_23 ⟨rfl, rfl⟩
  ·
    refine g_iload_n O dX8_strew_15 3 rfl rfl ?_
    refine g_bipush (x := (nI 99)) O dX8_strew_16 (by decide +kernel) ?_
    refine g_icmp_le (tgt := 24) O dX8_strew_18 (by decide) (fun c_5 => (by rcases hb with h | h; exact absurd h ‹_›; exact absurd c_5 (Int32.not_le.mpr h))) (fun c_5 => ?_)
    refine g_bipush (x := (-2)) O dX8_strew_21 (by decide +kernel) ?_
    exact E 23 _ (-2) _ dX8_strew_23 ⟨rfl, rfl⟩
