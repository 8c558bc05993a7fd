theorem hiX1_isStill_X1 : ∀ w ∈ wsX10, w ∈ wsX1_isStill := by decide +kernel
theorem hiX1_isStill_X5 : ∀ w ∈ wsX50, w ∈ wsX1_isStill := by decide +kernel
set_option maxHeartbeats 2000000 in
set_option maxRecDepth 100000 in
/-- whether a place is still -/
theorem kX1_isStill (l : Launch) (D : va_G) (z : Nat × Nat × Nat) (f0 : Nat) (f1 : Nat) (f2 : Nat) (rc : Nat) (w0 : Nat) (w1 : Nat) (w2 : Nat) (w3 : Nat) (w4 : Nat) (h0 : Nat) (h1 : Nat) (h2 : Nat) (h3 : Nat) (h4 : Nat) (h5 : Nat) (s : SV) (w : Nat) (x : Nat) (y : Nat) (hw : w < 48) (hx : x < 12) (hy : y < 12) : CM l yX1_isStill wsX1_isStill ({ frames := 2, cells := 0, slots := 0, locals := 48 } : Room) D z [.ref f0, .int (nI w), .int (nI x), .int (nI y)] [(f0, .inr (1, [.ref w0, .ref h0, .ref f1, .ref f2, .int (nI rc)])), (w0, .inr (7, [.ref w1, .ref w2, .ref w3, .ref w4, .int (nI 48)])), (w1, .inl (tyI D, 48, .inl (nf tM))), (w2, .inl (tyI D, 48, .inl (nf tN))), (w3, .inl (tyI D, 48, .inl (nf tS))), (w4, .inl (tyI D, 84, .inl hT)), (h0, .inr (5, [.ref h1, .ref h2, .ref h3, .int (nI (sv_nc s)), .ref h4, .ref h5, .int (sv_la s), .int (sv_st s), .int (sv_sw s), .int (sv_fl s), .int (sv_sk s), .int (sv_mu s)])), (h4, .inl (tyI D, 4, .inl (sv_se s)))] (fun r_ w_ => r_ = some (.int (bB (stB s w (12 * y + x)))) ∧ w_ = [(f0, .inr (1, [.ref w0, .ref h0, .ref f1, .ref f2, .int (nI rc)])), (w0, .inr (7, [.ref w1, .ref w2, .ref w3, .ref w4, .int (nI 48)])), (w1, .inl (tyI D, 48, .inl (nf tM))), (w2, .inl (tyI D, 48, .inl (nf tN))), (w3, .inl (tyI D, 48, .inl (nf tS))), (w4, .inl (tyI D, 84, .inl hT)), (h0, .inr (5, [.ref h1, .ref h2, .ref h3, .int (nI (sv_nc s)), .ref h4, .ref h5, .int (sv_la s), .int (sv_st s), .int (sv_sw s), .int (sv_fl s), .int (sv_sk s), .int (sv_mu s)])), (h4, .inl (tyI D, 4, .inl (sv_se s)))]) 0 0 := by
  refine CM_bool (own := RX1) (cc := cX1_isStill) (maxL := 4) (L0 := [(0, .ref f0), (1, .int (nI w)), (2, .int (nI x)), (3, .int (nI y))]) (by decide) rfl rfl (Nat.le_of_ble_eq_true rfl) rfl (fun X O E => ?_)
  refine g_aload_n O dX1_isStill_0 0 rfl rfl ?_
  refine g_get O hiX1_isStill_X1 0 rfl rfl 0 (by decide) (by decide +kernel) rfl dX1_isStill_1 ?_
  refine g_iload_n O dX1_isStill_4 1 rfl rfl ?_
  refine g_iload_n O dX1_isStill_5 2 rfl rfl ?_
  refine g_iload_n O dX1_isStill_6 3 rfl rfl ?_
  refine g_callV (As := [.int (nI w), .int (nI x), .int (nI y)]) (wr := [(f0, .inr (1, [.ref w0, .ref h0, .ref f1, .ref f2, .int (nI rc)])), (h0, .inr (5, [.ref h1, .ref h2, .ref h3, .int (nI (sv_nc s)), .ref h4, .ref h5, .int (sv_la s), .int (sv_st s), .int (sv_sw s), .int (sv_fl s), .int (sv_sk s), .int (sv_mu s)])), (h4, .inl (tyI D, 4, .inl (sv_se s)))]) O (kX7_swingAt l D z w0 w1 w2 w3 w4 w x y (by first | assumption | omega) (by first | assumption | omega) (by first | assumption | omega)) gX1_isStill_X7_swingAt rfl rfl rfl 3 (by decide +kernel) (by decide) (by decide) (q0 := 0) rfl rfl rfl [1, 2, 3, 4, 5] [0, 6, 7] rfl (by decide) rfl (by decide) (by decide) rfl rfl (Nat.le_of_ble_eq_true rfl) dX1_isStill_7 (fun r_1 w_2 hp => ?_)
  obtain ⟨rfl, rfl⟩ := hp
  refine g_eq (st' := [.int (SW w (12 * y + x))]) (ws' := [(f0, .inr (1, [.ref w0, .ref h0, .ref f1, .ref f2, .int (nI rc)])), (h0, .inr (5, [.ref h1, .ref h2, .ref h3, .int (nI (sv_nc s)), .ref h4, .ref h5, .int (sv_la s), .int (sv_st s), .int (sv_sw s), .int (sv_fl s), .int (sv_sk s), .int (sv_mu s)])), (h4, .inl (tyI D, 4, .inl (sv_se s))), (w0, .inr (7, [.ref w1, .ref w2, .ref w3, .ref w4, .int (nI 48)])), (w1, .inl (tyI D, 48, .inl (nf tM))), (w2, .inl (tyI D, 48, .inl (nf tN))), (w3, .inl (tyI D, 48, .inl (nf tS))), (w4, .inl (tyI D, 84, .inl hT))]) rfl rfl rfl ?_
  refine g_aload_n O dX1_isStill_10 0 rfl rfl ?_
  refine g_get O hiX1_isStill_X1 0 rfl rfl 1 (by decide) (by decide +kernel) rfl dX1_isStill_11 ?_
  refine g_getN O hiX1_isStill_X5 1 rfl rfl 4 (by decide) 18 rfl rfl dX1_isStill_14 ?_
  refine g_iconst (x := (nI 2)) O dX1_isStill_17 (by decide +kernel) ?_
  refine g_ialdN O 2 rfl (by omega) (by omega) dX1_isStill_18 ?_
  refine g_icmp_gt (tgt := 26) O dX1_isStill_19 (by decide) (fun c_3 => ?_) (fun c_3 => ?_)
  ·
    refine g_iconst (x := (nI 0)) O dX1_isStill_26 (by decide +kernel) ?_
    refine g_perm (ws' := [(f0, .inr (1, [.ref w0, .ref h0, .ref f1, .ref f2, .int (nI rc)])), (w0, .inr (7, [.ref w1, .ref w2, .ref w3, .ref w4, .int (nI 48)])), (w1, .inl (tyI D, 48, .inl (nf tM))), (w2, .inl (tyI D, 48, .inl (nf tN))), (w3, .inl (tyI D, 48, .inl (nf tS))), (w4, .inl (tyI D, 84, .inl hT)), (h0, .inr (5, [.ref h1, .ref h2, .ref h3, .int (nI (sv_nc s)), .ref h4, .ref h5, .int (sv_la s), .int (sv_st s), .int (sv_sw s), .int (sv_fl s), .int (sv_sk s), .int (sv_mu s)])), (h4, .inl (tyI D, 4, .inl (sv_se s)))]) [0, 3, 4, 5, 6, 7, 1, 2] rfl (by decide) ?_
    refine g_eq (st' := [.int (bB false)]) rfl rfl rfl ?_
    exact E 27 _ false _ dX1_isStill_27 (by first | (rw [show stB s w (12 * y + x) = true from decide_eq_true (by simp_all [Int32.not_lt])]; exact ⟨rfl, rfl⟩) | (rw [show stB s w (12 * y + x) = false from decide_eq_false (by simp_all [Int32.not_le])]; exact ⟨rfl, rfl⟩))
  ·
    refine g_iconst (x := (nI 1)) O dX1_isStill_22 (by decide +kernel) ?_
    refine g_goto (tgt := 27) O dX1_isStill_23 (by decide) ?_
    refine g_perm (ws' := [(f0, .inr (1, [.ref w0, .ref h0, .ref f1, .ref f2, .int (nI rc)])), (w0, .inr (7, [.ref w1, .ref w2, .ref w3, .ref w4, .int (nI 48)])), (w1, .inl (tyI D, 48, .inl (nf tM))), (w2, .inl (tyI D, 48, .inl (nf tN))), (w3, .inl (tyI D, 48, .inl (nf tS))), (w4, .inl (tyI D, 84, .inl hT)), (h0, .inr (5, [.ref h1, .ref h2, .ref h3, .int (nI (sv_nc s)), .ref h4, .ref h5, .int (sv_la s), .int (sv_st s), .int (sv_sw s), .int (sv_fl s), .int (sv_sk s), .int (sv_mu s)])), (h4, .inl (tyI D, 4, .inl (sv_se s)))]) [0, 3, 4, 5, 6, 7, 1, 2] rfl (by decide) ?_
    refine g_eq (st' := [.int (bB true)]) rfl rfl rfl ?_
    exact E 27 _ true _ dX1_isStill_27 (by first | (rw [show stB s w (12 * y + x) = true from decide_eq_true (by simp_all [Int32.not_lt])]; exact ⟨rfl, rfl⟩) | (rw [show stB s w (12 * y + x) = false from decide_eq_false (by simp_all [Int32.not_le])]; exact ⟨rfl, rfl⟩))
set_option maxHeartbeats 2000000 in
set_option maxRecDepth 100000 in
/-- how many places are still -/
theorem kX1_stillPlaces (l : Launch) (D : va_G) (z : Nat × Nat × Nat) (f0 : Nat) (f1 : Nat) (f2 : Nat) (rc : Nat) (w0 : Nat) (w1 : Nat) (w2 : Nat) (w3 : Nat) (w4 : Nat) (h0 : Nat) (h1 : Nat) (h2 : Nat) (h3 : Nat) (h4 : Nat) (h5 : Nat) (s : SV) (w : Nat) (hw : w < 48) : CM l yX1_stillPlaces wsX1_stillPlaces ({ frames := 3, cells := 0, slots := 0, locals := 71 } : Room) D z [.ref f0, .int (nI w)] [(f0, .inr (1, [.ref w0, .ref h0, .ref f1, .ref f2, .int (nI rc)])), (w0, .inr (7, [.ref w1, .ref w2, .ref w3, .ref w4, .int (nI 48)])), (w1, .inl (tyI D, 48, .inl (nf tM))), (w2, .inl (tyI D, 48, .inl (nf tN))), (w3, .inl (tyI D, 48, .inl (nf tS))), (w4, .inl (tyI D, 84, .inl hT)), (h0, .inr (5, [.ref h1, .ref h2, .ref h3, .int (nI (sv_nc s)), .ref h4, .ref h5, .int (sv_la s), .int (sv_st s), .int (sv_sw s), .int (sv_fl s), .int (sv_sk s), .int (sv_mu s)])), (h4, .inl (tyI D, 4, .inl (sv_se s)))] (fun r_ w_ => r_ = some (.int (nI (cntB (fun p => stB s w p) 144))) ∧ w_ = [(f0, .inr (1, [.ref w0, .ref h0, .ref f1, .ref f2, .int (nI rc)])), (w0, .inr (7, [.ref w1, .ref w2, .ref w3, .ref w4, .int (nI 48)])), (w1, .inl (tyI D, 48, .inl (nf tM))), (w2, .inl (tyI D, 48, .inl (nf tN))), (w3, .inl (tyI D, 48, .inl (nf tS))), (w4, .inl (tyI D, 84, .inl hT)), (h0, .inr (5, [.ref h1, .ref h2, .ref h3, .int (nI (sv_nc s)), .ref h4, .ref h5, .int (sv_la s), .int (sv_st s), .int (sv_sw s), .int (sv_fl s), .int (sv_sk s), .int (sv_mu s)])), (h4, .inl (tyI D, 4, .inl (sv_se s)))]) 0 0 := by
  refine CM_int (own := RX1) (cc := cX1_stillPlaces) (maxL := 4) (L0 := [(0, .ref f0), (1, .int (nI w))]) (by decide) rfl rfl (Nat.le_of_ble_eq_true rfl) rfl (fun X O E => ?_)
  refine g_iconst (x := (nI 0)) O dX1_stillPlaces_0 (by decide +kernel) ?_
  refine g_istore_n (L' := [(0, .ref f0), (1, .int (nI w)), (2, .int (nI 0))]) O dX1_stillPlaces_1 rfl (by decide) [1, 2, 0] rfl ?_
  refine g_iconst (x := (nI 0)) O dX1_stillPlaces_2 (by decide +kernel) ?_
  refine g_istore_n (L' := [(0, .ref f0), (1, .int (nI w)), (2, .int (nI 0)), (3, .int (nI 0))]) O dX1_stillPlaces_3 rfl (by decide) [1, 2, 3, 0] rfl ?_
  have J4 : ∀ (n_ : Nat), ∀ (i_ : Nat) (k_ : Nat) (hi_ : i_ ≤ 144) (hk : k_ = cntB (fun p => stB s w p) i_), 144 - i_ < n_ → G X 0 0 4 [(0, .ref f0), (1, .int (nI w)), (2, .int (nI k_)), (3, .int (nI i_))] [] [(f0, .inr (1, [.ref w0, .ref h0, .ref f1, .ref f2, .int (nI rc)])), (w0, .inr (7, [.ref w1, .ref w2, .ref w3, .ref w4, .int (nI 48)])), (w1, .inl (tyI D, 48, .inl (nf tM))), (w2, .inl (tyI D, 48, .inl (nf tN))), (w3, .inl (tyI D, 48, .inl (nf tS))), (w4, .inl (tyI D, 84, .inl hT)), (h0, .inr (5, [.ref h1, .ref h2, .ref h3, .int (nI (sv_nc s)), .ref h4, .ref h5, .int (sv_la s), .int (sv_st s), .int (sv_sw s), .int (sv_fl s), .int (sv_sk s), .int (sv_mu s)])), (h4, .inl (tyI D, 4, .inl (sv_se s)))] := by
    intro n_
    induction n_ with
    | zero => intro i_ k_ hi_ hk hm_; exact absurd hm_ (Nat.not_lt_zero _)
    | succ n_ ih_ =>
      intro i_ k_ hi_ hk hm_
      have hkl := cntB_le (fun p => stB s w p) i_
      refine g_iload_n O dX1_stillPlaces_4 3 rfl rfl ?_
      refine g_sipush (x := (nI 144)) O dX1_stillPlaces_5 (by decide +kernel) ?_
      refine g_icmp_geN (tgt := 36) O (by omega) (by omega) dX1_stillPlaces_8 (by decide) (fun c_1 => ?_) (fun c_1 => ?_)
      ·
        obtain rfl : i_ = 144 := by omega
        refine g_iload_n O dX1_stillPlaces_36 2 rfl rfl ?_
        exact E 37 _ (nI k_) _ dX1_stillPlaces_37 (by rw [hk]; exact ⟨rfl, rfl⟩)
      ·
        refine g_aload_n O dX1_stillPlaces_11 0 rfl rfl ?_
        refine g_iload_n O dX1_stillPlaces_12 1 rfl rfl ?_
        refine g_iload_n O dX1_stillPlaces_13 3 rfl rfl ?_
        refine g_callSN (As := [.int (nI i_)]) (wr := [(f0, .inr (1, [.ref w0, .ref h0, .ref f1, .ref f2, .int (nI rc)])), (w0, .inr (7, [.ref w1, .ref w2, .ref w3, .ref w4, .int (nI 48)])), (w1, .inl (tyI D, 48, .inl (nf tM))), (w2, .inl (tyI D, 48, .inl (nf tN))), (w3, .inl (tyI D, 48, .inl (nf tS))), (w4, .inl (tyI D, 84, .inl hT)), (h0, .inr (5, [.ref h1, .ref h2, .ref h3, .int (nI (sv_nc s)), .ref h4, .ref h5, .int (sv_la s), .int (sv_st s), .int (sv_sw s), .int (sv_fl s), .int (sv_sk s), .int (sv_mu s)])), (h4, .inl (tyI D, 4, .inl (sv_se s)))]) O (kX8_columnOf l D z i_ (by first | assumption | omega)) gX1_stillPlaces_X8_columnOf_n42 rfl rfl rfl 1 (by decide +kernel) (by decide) (by decide) (by decide +kernel) 7 rfl (by decide +kernel) [] [0, 1, 2, 3, 4, 5, 6, 7] rfl (by decide) rfl (by decide) (by decide) rfl rfl (Nat.le_of_ble_eq_true rfl) dX1_stillPlaces_14 (fun r_2 w_3 hp => ?_)
        obtain ⟨rfl, rfl⟩ := hp
        refine g_eq (st' := [.int (nI (i_ % 12)), .int (nI w), .ref f0]) (ws' := [(f0, .inr (1, [.ref w0, .ref h0, .ref f1, .ref f2, .int (nI rc)])), (w0, .inr (7, [.ref w1, .ref w2, .ref w3, .ref w4, .int (nI 48)])), (w1, .inl (tyI D, 48, .inl (nf tM))), (w2, .inl (tyI D, 48, .inl (nf tN))), (w3, .inl (tyI D, 48, .inl (nf tS))), (w4, .inl (tyI D, 84, .inl hT)), (h0, .inr (5, [.ref h1, .ref h2, .ref h3, .int (nI (sv_nc s)), .ref h4, .ref h5, .int (sv_la s), .int (sv_st s), .int (sv_sw s), .int (sv_fl s), .int (sv_sk s), .int (sv_mu s)])), (h4, .inl (tyI D, 4, .inl (sv_se s)))]) rfl rfl rfl ?_
        refine g_iload_n O dX1_stillPlaces_17 3 rfl rfl ?_
        refine g_callSN (As := [.int (nI i_)]) (wr := [(f0, .inr (1, [.ref w0, .ref h0, .ref f1, .ref f2, .int (nI rc)])), (w0, .inr (7, [.ref w1, .ref w2, .ref w3, .ref w4, .int (nI 48)])), (w1, .inl (tyI D, 48, .inl (nf tM))), (w2, .inl (tyI D, 48, .inl (nf tN))), (w3, .inl (tyI D, 48, .inl (nf tS))), (w4, .inl (tyI D, 84, .inl hT)), (h0, .inr (5, [.ref h1, .ref h2, .ref h3, .int (nI (sv_nc s)), .ref h4, .ref h5, .int (sv_la s), .int (sv_st s), .int (sv_sw s), .int (sv_fl s), .int (sv_sk s), .int (sv_mu s)])), (h4, .inl (tyI D, 4, .inl (sv_se s)))]) O (kX8_rowOf l D z i_ (by first | assumption | omega)) gX1_stillPlaces_X8_rowOf_n46 rfl rfl rfl 1 (by decide +kernel) (by decide) (by decide) (by decide +kernel) 8 rfl (by decide +kernel) [] [0, 1, 2, 3, 4, 5, 6, 7] rfl (by decide) rfl (by decide) (by decide) rfl rfl (Nat.le_of_ble_eq_true rfl) dX1_stillPlaces_18 (fun r_4 w_5 hp => ?_)
        obtain ⟨rfl, rfl⟩ := hp
        refine g_eq (st' := [.int (nI (i_ / 12)), .int (nI (i_ % 12)), .int (nI w), .ref f0]) (ws' := [(f0, .inr (1, [.ref w0, .ref h0, .ref f1, .ref f2, .int (nI rc)])), (w0, .inr (7, [.ref w1, .ref w2, .ref w3, .ref w4, .int (nI 48)])), (w1, .inl (tyI D, 48, .inl (nf tM))), (w2, .inl (tyI D, 48, .inl (nf tN))), (w3, .inl (tyI D, 48, .inl (nf tS))), (w4, .inl (tyI D, 84, .inl hT)), (h0, .inr (5, [.ref h1, .ref h2, .ref h3, .int (nI (sv_nc s)), .ref h4, .ref h5, .int (sv_la s), .int (sv_st s), .int (sv_sw s), .int (sv_fl s), .int (sv_sk s), .int (sv_mu s)])), (h4, .inl (tyI D, 4, .inl (sv_se s)))]) rfl rfl rfl ?_
        refine g_callV (As := [.int (nI w), .int (nI (i_ % 12)), .int (nI (i_ / 12))]) (wr := []) O (kX1_isStill l D z f0 f1 f2 rc w0 w1 w2 w3 w4 h0 h1 h2 h3 h4 h5 s w (i_ % 12) (i_ / 12) (by first | assumption | omega) (by first | assumption | omega) (by first | assumption | omega)) gX1_stillPlaces_X1_isStill rfl rfl rfl 3 (by decide +kernel) (by decide) (by decide) (q0 := 0) rfl rfl rfl [0, 1, 2, 3, 4, 5, 6, 7] [] rfl (by decide) rfl (by decide) (by decide) rfl rfl (Nat.le_of_ble_eq_true rfl) dX1_stillPlaces_21 (fun r_6 w_7 hp => ?_)
        obtain ⟨rfl, rfl⟩ := hp
        refine g_eq (st' := [.int (bB (stB s w (12 * (i_ / 12) + (i_ % 12))))]) (ws' := [(f0, .inr (1, [.ref w0, .ref h0, .ref f1, .ref f2, .int (nI rc)])), (w0, .inr (7, [.ref w1, .ref w2, .ref w3, .ref w4, .int (nI 48)])), (w1, .inl (tyI D, 48, .inl (nf tM))), (w2, .inl (tyI D, 48, .inl (nf tN))), (w3, .inl (tyI D, 48, .inl (nf tS))), (w4, .inl (tyI D, 84, .inl hT)), (h0, .inr (5, [.ref h1, .ref h2, .ref h3, .int (nI (sv_nc s)), .ref h4, .ref h5, .int (sv_la s), .int (sv_st s), .int (sv_sw s), .int (sv_fl s), .int (sv_sk s), .int (sv_mu s)])), (h4, .inl (tyI D, 4, .inl (sv_se s)))]) rfl rfl rfl ?_
        rw [show 12 * (i_ / 12) + i_ % 12 = i_ by omega]
        refine g_if_eqB (tgt := 30) O dX1_stillPlaces_24 (by decide) (fun c_8 => ?_) (fun c_8 => ?_)
        ·
          have c_2 := c_8
          refine g_iincN (L' := [(0, .ref f0), (1, .int (nI w)), (2, .int (nI k_)), (3, .int (nI (i_ + 1)))]) O dX1_stillPlaces_30 3 rfl (by decide) [1, 2, 3, 0] rfl ?_
          refine g_goto (tgt := 4) O dX1_stillPlaces_33 (by decide) ?_
          exact ih_ (i_ + 1) _ (by first | assumption | omega | rfl) (by rw [hk]; first | exact (cntB_t (p := fun p => stB s w p) c_2).symm | exact (cntB_f (p := fun p => stB s w p) c_2).symm) (by omega)
        ·
          have c_2 := c_8
          refine g_iincN (L' := [(0, .ref f0), (1, .int (nI w)), (2, .int (nI (k_ + 1))), (3, .int (nI i_))]) O dX1_stillPlaces_27 2 rfl (by decide) [1, 2, 0, 3] rfl ?_
          refine g_iincN (L' := [(0, .ref f0), (1, .int (nI w)), (2, .int (nI (k_ + 1))), (3, .int (nI (i_ + 1)))]) O dX1_stillPlaces_30 3 rfl (by decide) [1, 2, 3, 0] rfl ?_
          refine g_goto (tgt := 4) O dX1_stillPlaces_33 (by decide) ?_
          exact ih_ (i_ + 1) _ (by first | assumption | omega | rfl) (by rw [hk]; first | exact (cntB_t (p := fun p => stB s w p) c_2).symm | exact (cntB_f (p := fun p => stB s w p) c_2).symm) (by omega)
  exact J4 _ 0 _ (Nat.zero_le _) (rfl) (Nat.lt_succ_self _)
theorem hiX1_grainsOnLines_X1 : ∀ w ∈ wsX10, w ∈ wsX1_grainsOnLines := by decide +kernel
theorem hiX1_grainsOnLines_X5 : ∀ w ∈ wsX50, w ∈ wsX1_grainsOnLines := by decide +kernel
set_option maxHeartbeats 2000000 in
set_option maxRecDepth 100000 in
/-- the grains on still places -/
theorem kX1_grainsOnLines (l : Launch) (D : va_G) (z : Nat × Nat × Nat) (f0 : Nat) (f1 : Nat) (f2 : Nat) (rc : Nat) (w0 : Nat) (w1 : Nat) (w2 : Nat) (w3 : Nat) (w4 : Nat) (h0 : Nat) (h1 : Nat) (h2 : Nat) (h3 : Nat) (h4 : Nat) (h5 : Nat) (s : SV) (w : Nat) (hw : w < 48) : CM l yX1_grainsOnLines wsX1_grainsOnLines ({ frames := 3, cells := 0, slots := 0, locals := 71 } : Room) D z [.ref f0, .int (nI w)] [(f0, .inr (1, [.ref w0, .ref h0, .ref f1, .ref f2, .int (nI rc)])), (w0, .inr (7, [.ref w1, .ref w2, .ref w3, .ref w4, .int (nI 48)])), (w1, .inl (tyI D, 48, .inl (nf tM))), (w2, .inl (tyI D, 48, .inl (nf tN))), (w3, .inl (tyI D, 48, .inl (nf tS))), (w4, .inl (tyI D, 84, .inl hT)), (h0, .inr (5, [.ref h1, .ref h2, .ref h3, .int (nI (sv_nc s)), .ref h4, .ref h5, .int (sv_la s), .int (sv_st s), .int (sv_sw s), .int (sv_fl s), .int (sv_sk s), .int (sv_mu s)])), (h4, .inl (tyI D, 4, .inl (sv_se s))), (h1, .inl (tyI D, 144, .inl (nf (sv_g s))))] (fun r_ w_ => r_ = some (.int (nI (gsN s w 144))) ∧ w_ = [(f0, .inr (1, [.ref w0, .ref h0, .ref f1, .ref f2, .int (nI rc)])), (w0, .inr (7, [.ref w1, .ref w2, .ref w3, .ref w4, .int (nI 48)])), (w1, .inl (tyI D, 48, .inl (nf tM))), (w2, .inl (tyI D, 48, .inl (nf tN))), (w3, .inl (tyI D, 48, .inl (nf tS))), (w4, .inl (tyI D, 84, .inl hT)), (h0, .inr (5, [.ref h1, .ref h2, .ref h3, .int (nI (sv_nc s)), .ref h4, .ref h5, .int (sv_la s), .int (sv_st s), .int (sv_sw s), .int (sv_fl s), .int (sv_sk s), .int (sv_mu s)])), (h4, .inl (tyI D, 4, .inl (sv_se s))), (h1, .inl (tyI D, 144, .inl (nf (sv_g s))))]) 0 0 := by
  refine CM_int (own := RX1) (cc := cX1_grainsOnLines) (maxL := 4) (L0 := [(0, .ref f0), (1, .int (nI w))]) (by decide) rfl rfl (Nat.le_of_ble_eq_true rfl) rfl (fun X O E => ?_)
  refine g_iconst (x := (nI 0)) O dX1_grainsOnLines_0 (by decide +kernel) ?_
  refine g_istore_n (L' := [(0, .ref f0), (1, .int (nI w)), (2, .int (nI 0))]) O dX1_grainsOnLines_1 rfl (by decide) [1, 2, 0] rfl ?_
  refine g_iconst (x := (nI 0)) O dX1_grainsOnLines_2 (by decide +kernel) ?_
  refine g_istore_n (L' := [(0, .ref f0), (1, .int (nI w)), (2, .int (nI 0)), (3, .int (nI 0))]) O dX1_grainsOnLines_3 rfl (by decide) [1, 2, 3, 0] rfl ?_
  have J4 : ∀ (n_ : Nat), ∀ (i_ : Nat) (k_ : Nat) (hi_ : i_ ≤ 144) (hk : k_ = gsN s w i_), 144 - i_ < n_ → G X 0 0 4 [(0, .ref f0), (1, .int (nI w)), (2, .int (nI k_)), (3, .int (nI i_))] [] [(f0, .inr (1, [.ref w0, .ref h0, .ref f1, .ref f2, .int (nI rc)])), (w0, .inr (7, [.ref w1, .ref w2, .ref w3, .ref w4, .int (nI 48)])), (w1, .inl (tyI D, 48, .inl (nf tM))), (w2, .inl (tyI D, 48, .inl (nf tN))), (w3, .inl (tyI D, 48, .inl (nf tS))), (w4, .inl (tyI D, 84, .inl hT)), (h0, .inr (5, [.ref h1, .ref h2, .ref h3, .int (nI (sv_nc s)), .ref h4, .ref h5, .int (sv_la s), .int (sv_st s), .int (sv_sw s), .int (sv_fl s), .int (sv_sk s), .int (sv_mu s)])), (h4, .inl (tyI D, 4, .inl (sv_se s))), (h1, .inl (tyI D, 144, .inl (nf (sv_g s))))] := by
    intro n_
    induction n_ with
    | zero => intro i_ k_ hi_ hk hm_; exact absurd hm_ (Nat.not_lt_zero _)
    | succ n_ ih_ =>
      intro i_ k_ hi_ hk hm_
      refine g_iload_n O dX1_grainsOnLines_4 3 rfl rfl ?_
      refine g_sipush (x := (nI 144)) O dX1_grainsOnLines_5 (by decide +kernel) ?_
      refine g_icmp_geN (tgt := 45) O (by omega) (by omega) dX1_grainsOnLines_8 (by decide) (fun c_1 => ?_) (fun c_1 => ?_)
      ·
        obtain rfl : i_ = 144 := by omega
        refine g_iload_n O dX1_grainsOnLines_45 2 rfl rfl ?_
        exact E 46 _ (nI k_) _ dX1_grainsOnLines_46 (by rw [hk]; exact ⟨rfl, rfl⟩)
      ·
        refine g_aload_n O dX1_grainsOnLines_11 0 rfl rfl ?_
        refine g_iload_n O dX1_grainsOnLines_12 1 rfl rfl ?_
        refine g_iload_n O dX1_grainsOnLines_13 3 rfl rfl ?_
        refine g_callSN (As := [.int (nI i_)]) (wr := [(f0, .inr (1, [.ref w0, .ref h0, .ref f1, .ref f2, .int (nI rc)])), (w0, .inr (7, [.ref w1, .ref w2, .ref w3, .ref w4, .int (nI 48)])), (w1, .inl (tyI D, 48, .inl (nf tM))), (w2, .inl (tyI D, 48, .inl (nf tN))), (w3, .inl (tyI D, 48, .inl (nf tS))), (w4, .inl (tyI D, 84, .inl hT)), (h0, .inr (5, [.ref h1, .ref h2, .ref h3, .int (nI (sv_nc s)), .ref h4, .ref h5, .int (sv_la s), .int (sv_st s), .int (sv_sw s), .int (sv_fl s), .int (sv_sk s), .int (sv_mu s)])), (h4, .inl (tyI D, 4, .inl (sv_se s))), (h1, .inl (tyI D, 144, .inl (nf (sv_g s))))]) O (kX8_columnOf l D z i_ (by first | assumption | omega)) gX1_grainsOnLines_X8_columnOf_n42 rfl rfl rfl 1 (by decide +kernel) (by decide) (by decide) (by decide +kernel) 7 rfl (by decide +kernel) [] [0, 1, 2, 3, 4, 5, 6, 7, 8] rfl (by decide) rfl (by decide) (by decide) rfl rfl (Nat.le_of_ble_eq_true rfl) dX1_grainsOnLines_14 (fun r_2 w_3 hp => ?_)
        obtain ⟨rfl, rfl⟩ := hp
        refine g_eq (st' := [.int (nI (i_ % 12)), .int (nI w), .ref f0]) (ws' := [(f0, .inr (1, [.ref w0, .ref h0, .ref f1, .ref f2, .int (nI rc)])), (w0, .inr (7, [.ref w1, .ref w2, .ref w3, .ref w4, .int (nI 48)])), (w1, .inl (tyI D, 48, .inl (nf tM))), (w2, .inl (tyI D, 48, .inl (nf tN))), (w3, .inl (tyI D, 48, .inl (nf tS))), (w4, .inl (tyI D, 84, .inl hT)), (h0, .inr (5, [.ref h1, .ref h2, .ref h3, .int (nI (sv_nc s)), .ref h4, .ref h5, .int (sv_la s), .int (sv_st s), .int (sv_sw s), .int (sv_fl s), .int (sv_sk s), .int (sv_mu s)])), (h4, .inl (tyI D, 4, .inl (sv_se s))), (h1, .inl (tyI D, 144, .inl (nf (sv_g s))))]) rfl rfl rfl ?_
        refine g_iload_n O dX1_grainsOnLines_17 3 rfl rfl ?_
        refine g_callSN (As := [.int (nI i_)]) (wr := [(f0, .inr (1, [.ref w0, .ref h0, .ref f1, .ref f2, .int (nI rc)])), (w0, .inr (7, [.ref w1, .ref w2, .ref w3, .ref w4, .int (nI 48)])), (w1, .inl (tyI D, 48, .inl (nf tM))), (w2, .inl (tyI D, 48, .inl (nf tN))), (w3, .inl (tyI D, 48, .inl (nf tS))), (w4, .inl (tyI D, 84, .inl hT)), (h0, .inr (5, [.ref h1, .ref h2, .ref h3, .int (nI (sv_nc s)), .ref h4, .ref h5, .int (sv_la s), .int (sv_st s), .int (sv_sw s), .int (sv_fl s), .int (sv_sk s), .int (sv_mu s)])), (h4, .inl (tyI D, 4, .inl (sv_se s))), (h1, .inl (tyI D, 144, .inl (nf (sv_g s))))]) O (kX8_rowOf l D z i_ (by first | assumption | omega)) gX1_grainsOnLines_X8_rowOf_n46 rfl rfl rfl 1 (by decide +kernel) (by decide) (by decide) (by decide +kernel) 8 rfl (by decide +kernel) [] [0, 1, 2, 3, 4, 5, 6, 7, 8] rfl (by decide) rfl (by decide) (by decide) rfl rfl (Nat.le_of_ble_eq_true rfl) dX1_grainsOnLines_18 (fun r_4 w_5 hp => ?_)
        obtain ⟨rfl, rfl⟩ := hp
        refine g_eq (st' := [.int (nI (i_ / 12)), .int (nI (i_ % 12)), .int (nI w), .ref f0]) (ws' := [(f0, .inr (1, [.ref w0, .ref h0, .ref f1, .ref f2, .int (nI rc)])), (w0, .inr (7, [.ref w1, .ref w2, .ref w3, .ref w4, .int (nI 48)])), (w1, .inl (tyI D, 48, .inl (nf tM))), (w2, .inl (tyI D, 48, .inl (nf tN))), (w3, .inl (tyI D, 48, .inl (nf tS))), (w4, .inl (tyI D, 84, .inl hT)), (h0, .inr (5, [.ref h1, .ref h2, .ref h3, .int (nI (sv_nc s)), .ref h4, .ref h5, .int (sv_la s), .int (sv_st s), .int (sv_sw s), .int (sv_fl s), .int (sv_sk s), .int (sv_mu s)])), (h4, .inl (tyI D, 4, .inl (sv_se s))), (h1, .inl (tyI D, 144, .inl (nf (sv_g s))))]) rfl rfl rfl ?_
        refine g_callV (As := [.int (nI w), .int (nI (i_ % 12)), .int (nI (i_ / 12))]) (wr := [(h1, .inl (tyI D, 144, .inl (nf (sv_g s))))]) O (kX1_isStill l D z f0 f1 f2 rc w0 w1 w2 w3 w4 h0 h1 h2 h3 h4 h5 s w (i_ % 12) (i_ / 12) (by first | assumption | omega) (by first | assumption | omega) (by first | assumption | omega)) gX1_grainsOnLines_X1_isStill rfl rfl rfl 3 (by decide +kernel) (by decide) (by decide) (q0 := 0) rfl rfl rfl [0, 1, 2, 3, 4, 5, 6, 7] [8] rfl (by decide) rfl (by decide) (by decide) rfl rfl (Nat.le_of_ble_eq_true rfl) dX1_grainsOnLines_21 (fun r_6 w_7 hp => ?_)
        obtain ⟨rfl, rfl⟩ := hp
        refine g_eq (st' := [.int (bB (stB s w (12 * (i_ / 12) + (i_ % 12))))]) (ws' := [(h1, .inl (tyI D, 144, .inl (nf (sv_g s)))), (f0, .inr (1, [.ref w0, .ref h0, .ref f1, .ref f2, .int (nI rc)])), (w0, .inr (7, [.ref w1, .ref w2, .ref w3, .ref w4, .int (nI 48)])), (w1, .inl (tyI D, 48, .inl (nf tM))), (w2, .inl (tyI D, 48, .inl (nf tN))), (w3, .inl (tyI D, 48, .inl (nf tS))), (w4, .inl (tyI D, 84, .inl hT)), (h0, .inr (5, [.ref h1, .ref h2, .ref h3, .int (nI (sv_nc s)), .ref h4, .ref h5, .int (sv_la s), .int (sv_st s), .int (sv_sw s), .int (sv_fl s), .int (sv_sk s), .int (sv_mu s)])), (h4, .inl (tyI D, 4, .inl (sv_se s)))]) rfl rfl rfl ?_
        rw [show 12 * (i_ / 12) + i_ % 12 = i_ by omega]
        refine g_if_eqB (tgt := 39) O dX1_grainsOnLines_24 (by decide) (fun c_8 => ?_) (fun c_8 => ?_)
        ·
          refine g_iincN (L' := [(0, .ref f0), (1, .int (nI w)), (2, .int (nI k_)), (3, .int (nI (i_ + 1)))]) O dX1_grainsOnLines_39 3 rfl (by decide) [1, 2, 3, 0] rfl ?_
          refine g_goto (tgt := 4) O dX1_grainsOnLines_42 (by decide) ?_
          refine g_perm (ws' := [(f0, .inr (1, [.ref w0, .ref h0, .ref f1, .ref f2, .int (nI rc)])), (w0, .inr (7, [.ref w1, .ref w2, .ref w3, .ref w4, .int (nI 48)])), (w1, .inl (tyI D, 48, .inl (nf tM))), (w2, .inl (tyI D, 48, .inl (nf tN))), (w3, .inl (tyI D, 48, .inl (nf tS))), (w4, .inl (tyI D, 84, .inl hT)), (h0, .inr (5, [.ref h1, .ref h2, .ref h3, .int (nI (sv_nc s)), .ref h4, .ref h5, .int (sv_la s), .int (sv_st s), .int (sv_sw s), .int (sv_fl s), .int (sv_sk s), .int (sv_mu s)])), (h4, .inl (tyI D, 4, .inl (sv_se s))), (h1, .inl (tyI D, 144, .inl (nf (sv_g s))))]) [1, 2, 3, 4, 5, 6, 7, 8, 0] rfl (by decide) ?_
          exact ih_ (i_ + 1) _ (by first | assumption | omega | rfl) (by simp only [gsN]; simp_all) (by omega)
        ·
          refine g_iload_n O dX1_grainsOnLines_27 2 rfl rfl ?_
          refine g_aload_n O dX1_grainsOnLines_28 0 rfl rfl ?_
          refine g_get O hiX1_grainsOnLines_X1 1 rfl rfl 1 (by decide) (by decide +kernel) rfl dX1_grainsOnLines_29 ?_
          refine g_getN O hiX1_grainsOnLines_X5 7 rfl rfl 0 (by decide) 10 rfl rfl dX1_grainsOnLines_32 ?_
          refine g_iload_n O dX1_grainsOnLines_35 3 rfl rfl ?_
          refine g_ialdN O 0 rfl (by omega) (by omega) dX1_grainsOnLines_36 ?_
          refine g_iaddN O dX1_grainsOnLines_37 ?_
          refine g_istore_n (L' := [(0, .ref f0), (1, .int (nI w)), (2, .int (nI (k_ + ((sv_g s) i_)))), (3, .int (nI i_))]) O dX1_grainsOnLines_38 rfl (by decide) [1, 2, 0, 3] rfl ?_
          refine g_iincN (L' := [(0, .ref f0), (1, .int (nI w)), (2, .int (nI (k_ + ((sv_g s) i_)))), (3, .int (nI (i_ + 1)))]) O dX1_grainsOnLines_39 3 rfl (by decide) [1, 2, 3, 0] rfl ?_
          refine g_goto (tgt := 4) O dX1_grainsOnLines_42 (by decide) ?_
          refine g_perm (ws' := [(f0, .inr (1, [.ref w0, .ref h0, .ref f1, .ref f2, .int (nI rc)])), (w0, .inr (7, [.ref w1, .ref w2, .ref w3, .ref w4, .int (nI 48)])), (w1, .inl (tyI D, 48, .inl (nf tM))), (w2, .inl (tyI D, 48, .inl (nf tN))), (w3, .inl (tyI D, 48, .inl (nf tS))), (w4, .inl (tyI D, 84, .inl hT)), (h0, .inr (5, [.ref h1, .ref h2, .ref h3, .int (nI (sv_nc s)), .ref h4, .ref h5, .int (sv_la s), .int (sv_st s), .int (sv_sw s), .int (sv_fl s), .int (sv_sk s), .int (sv_mu s)])), (h4, .inl (tyI D, 4, .inl (sv_se s))), (h1, .inl (tyI D, 144, .inl (nf (sv_g s))))]) [1, 2, 3, 4, 5, 6, 7, 8, 0] rfl (by decide) ?_
          exact ih_ (i_ + 1) _ (by first | assumption | omega | rfl) (by simp only [gsN]; simp_all) (by omega)
  exact J4 _ 0 _ (Nat.zero_le _) (rfl) (Nat.lt_succ_self _)
theorem hiX1_reach_X1 : ∀ w ∈ wsX10, w ∈ wsX1_reach := by decide +kernel
set_option maxHeartbeats 2000000 in
set_option maxRecDepth 100000 in
/-- an open place is reached -/
theorem kX1_reach (l : Launch) (D : va_G) (z : Nat × Nat × Nat) (f0 : Nat) (f1 : Nat) (f2 : Nat) (w0 : Nat) (h0 : Nat) (t : VT) (x : Int32) (y : Int32) (hc : vC t < 1073741824) : CM l yX1_reach wsX1_reach ({ frames := 1, cells := 0, slots := 0, locals := 21 } : Room) D z [.ref f0, .int x, .int y] [(f0, .inr (1, [.ref w0, .ref h0, .ref f1, .ref f2, .int (nI (vC t))])), (f1, .inl (tyZ D, 144, .inl (bf (vO t)))), (f2, .inl (tyI D, 144, .inl (nf (vR t))))] (fun r_ w_ => r_ = none ∧ w_ = [(f0, .inr (1, [.ref w0, .ref h0, .ref f1, .ref f2, .int (nI (vC (visit (rchP x y) t)))])), (f1, .inl (tyZ D, 144, .inl (bf (vO (visit (rchP x y) t))))), (f2, .inl (tyI D, 144, .inl (nf (vR (visit (rchP x y) t)))))]) 0 0 := by
  refine CM_void (own := RX1) (cc := cX1_reach) (maxL := 3) (L0 := [(0, .ref f0), (1, .int x), (2, .int y)]) (by decide) rfl rfl (Nat.le_of_ble_eq_true rfl) rfl (fun X O E => ?_)
  refine g_iload_n O dX1_reach_0 1 rfl rfl ?_
  refine g_iload_n O dX1_reach_1 2 rfl rfl ?_
  refine g_callSN (As := [.int x, .int y]) (wr := [(f0, .inr (1, [.ref w0, .ref h0, .ref f1, .ref f2, .int (nI (vC t))])), (f1, .inl (tyZ D, 144, .inl (bf (vO t)))), (f2, .inl (tyI D, 144, .inl (nf (vR t))))]) O (kX8_isPlace l D z x y ) gX1_reach_X8_isPlace_n64 rfl rfl rfl 2 (by decide +kernel) (by decide) (by decide) (by decide +kernel) 9 rfl (by decide +kernel) [] [0, 1, 2] rfl (by decide) rfl (by decide) (by decide) rfl rfl (Nat.le_of_ble_eq_true rfl) dX1_reach_2 (fun r_1 w_2 hp => ?_)
  obtain ⟨rfl, rfl⟩ := hp
  refine g_eq (st' := [.int (bB (rgB x 12 && rgB y 12))]) (ws' := [(f0, .inr (1, [.ref w0, .ref h0, .ref f1, .ref f2, .int (nI (vC t))])), (f1, .inl (tyZ D, 144, .inl (bf (vO t)))), (f2, .inl (tyI D, 144, .inl (nf (vR t))))]) rfl rfl rfl ?_
  refine g_if_eqB (tgt := 66) O dX1_reach_5 (by decide) (fun c_3 => ?_) (fun c_3 => ?_)
  ·
    have hr := rchP_n c_3
    have hvis : visit (rchP x y) t = t := by rw [hr]; rfl
    exact E 66 _ _ dX1_reach_66 (by rw [hvis]; exact ⟨rfl, rfl⟩)
  ·
    rw [Bool.and_eq_true] at c_3
    obtain ⟨⟨a_, ha, rfl⟩, ⟨d_, hd, rfl⟩⟩ := And.intro ((rgB_iff (by decide)).mp c_3.1) ((rgB_iff (by decide)).mp c_3.2)
    have hr := rchP_s ha hd
    refine g_aload_n O dX1_reach_8 0 rfl rfl ?_
    refine g_get O hiX1_reach_X1 0 rfl rfl 2 (by decide) (by decide +kernel) rfl dX1_reach_9 ?_
    refine g_iload_n O dX1_reach_12 1 rfl rfl ?_
    refine g_iload_n O dX1_reach_13 2 rfl rfl ?_
    refine g_callSN (As := [.int (nI a_), .int (nI d_)]) (wr := [(f0, .inr (1, [.ref w0, .ref h0, .ref f1, .ref f2, .int (nI (vC t))])), (f1, .inl (tyZ D, 144, .inl (bf (vO t)))), (f2, .inl (tyI D, 144, .inl (nf (vR t))))]) O (kX8_placeOf l D z a_ d_ ) gX1_reach_X8_placeOf_n68 rfl rfl rfl 2 (by decide +kernel) (by decide) (by decide) (by decide +kernel) 10 rfl (by decide +kernel) [] [0, 1, 2] rfl (by decide) rfl (by decide) (by decide) rfl rfl (Nat.le_of_ble_eq_true rfl) dX1_reach_14 (fun r_4 w_5 hp => ?_)
    obtain ⟨rfl, rfl⟩ := hp
    refine g_eq (st' := [.int (nI (d_ * 12 + a_)), .ref f1]) (ws' := [(f0, .inr (1, [.ref w0, .ref h0, .ref f1, .ref f2, .int (nI (vC t))])), (f1, .inl (tyZ D, 144, .inl (bf (vO t)))), (f2, .inl (tyI D, 144, .inl (nf (vR t))))]) rfl rfl rfl ?_
    refine g_zaldN O 1 rfl (by omega) (by omega) dX1_reach_17 ?_
    refine g_if_eqB (tgt := 66) O dX1_reach_18 (by decide) (fun c_6 => ?_) (fun c_6 => ?_)
    ·
      have hvis : visit (rchP (nI a_) (nI d_)) t = t := by rw [hr]; simp only [visit]; rw [if_neg (by rw [c_6]; simp)]
      exact E 66 _ _ dX1_reach_66 (by rw [hvis]; exact ⟨rfl, rfl⟩)
    ·
      refine g_aload_n O dX1_reach_21 0 rfl rfl ?_
      refine g_get O hiX1_reach_X1 0 rfl rfl 4 (by decide) (by decide +kernel) rfl dX1_reach_22 ?_
      refine g_sipush (x := (nI 144)) O dX1_reach_25 (by decide +kernel) ?_
      refine g_icmp_geN (tgt := 66) O (by omega) (by omega) dX1_reach_28 (by decide) (fun c_7 => ?_) (fun c_7 => ?_)
      ·
        have hvis : visit (rchP (nI a_) (nI d_)) t = t := by rw [hr]; simp only [visit]; rw [if_neg (by omega)]
        exact E 66 _ _ dX1_reach_66 (by rw [hvis]; exact ⟨rfl, rfl⟩)
      ·
        have hvis : visit (rchP (nI a_) (nI d_)) t = mkV (upf (vO t) (d_ * 12 + a_) false) (upf (vR t) (vC t) (d_ * 12 + a_)) (vC t + 1) := by rw [hr]; simp only [visit]; rw [if_pos ⟨by assumption, c_7⟩]
        refine g_aload_n O dX1_reach_31 0 rfl rfl ?_
        refine g_get O hiX1_reach_X1 0 rfl rfl 2 (by decide) (by decide +kernel) rfl dX1_reach_32 ?_
        refine g_iload_n O dX1_reach_35 1 rfl rfl ?_
        refine g_iload_n O dX1_reach_36 2 rfl rfl ?_
        refine g_callSN (As := [.int (nI a_), .int (nI d_)]) (wr := [(f0, .inr (1, [.ref w0, .ref h0, .ref f1, .ref f2, .int (nI (vC t))])), (f1, .inl (tyZ D, 144, .inl (bf (vO t)))), (f2, .inl (tyI D, 144, .inl (nf (vR t))))]) O (kX8_placeOf l D z a_ d_ ) gX1_reach_X8_placeOf_n68 rfl rfl rfl 2 (by decide +kernel) (by decide) (by decide) (by decide +kernel) 10 rfl (by decide +kernel) [] [0, 1, 2] rfl (by decide) rfl (by decide) (by decide) rfl rfl (Nat.le_of_ble_eq_true rfl) dX1_reach_37 (fun r_8 w_9 hp => ?_)
        obtain ⟨rfl, rfl⟩ := hp
        refine g_eq (st' := [.int (nI (d_ * 12 + a_)), .ref f1]) (ws' := [(f0, .inr (1, [.ref w0, .ref h0, .ref f1, .ref f2, .int (nI (vC t))])), (f1, .inl (tyZ D, 144, .inl (bf (vO t)))), (f2, .inl (tyI D, 144, .inl (nf (vR t))))]) rfl rfl rfl ?_
        refine g_iconst (x := (nI 0)) O dX1_reach_40 (by decide +kernel) ?_
        refine g_zastN (f' := (bf (upf (vO t) (d_ * 12 + a_) false))) (ws' := [(f0, .inr (1, [.ref w0, .ref h0, .ref f1, .ref f2, .int (nI (vC t))])), (f1, .inl (tyZ D, 144, .inl (bf (upf (vO t) (d_ * 12 + a_) false)))), (f2, .inl (tyI D, 144, .inl (nf (vR t))))]) O 1 rfl (by omega) (by omega) dX1_reach_41 (bf_updF _ _) rfl ?_
        refine g_aload_n O dX1_reach_42 0 rfl rfl ?_
        refine g_get O hiX1_reach_X1 0 rfl rfl 3 (by decide) (by decide +kernel) rfl dX1_reach_43 ?_
        refine g_aload_n O dX1_reach_46 0 rfl rfl ?_
        refine g_get O hiX1_reach_X1 0 rfl rfl 4 (by decide) (by decide +kernel) rfl dX1_reach_47 ?_
        refine g_iload_n O dX1_reach_50 1 rfl rfl ?_
        refine g_iload_n O dX1_reach_51 2 rfl rfl ?_
        refine g_callSN (As := [.int (nI a_), .int (nI d_)]) (wr := [(f0, .inr (1, [.ref w0, .ref h0, .ref f1, .ref f2, .int (nI (vC t))])), (f1, .inl (tyZ D, 144, .inl (bf (upf (vO t) (d_ * 12 + a_) false)))), (f2, .inl (tyI D, 144, .inl (nf (vR t))))]) O (kX8_placeOf l D z a_ d_ ) gX1_reach_X8_placeOf_n68 rfl rfl rfl 2 (by decide +kernel) (by decide) (by decide) (by decide +kernel) 10 rfl (by decide +kernel) [] [0, 1, 2] rfl (by decide) rfl (by decide) (by decide) rfl rfl (Nat.le_of_ble_eq_true rfl) dX1_reach_52 (fun r_10 w_11 hp => ?_)
        obtain ⟨rfl, rfl⟩ := hp
        refine g_eq (st' := [.int (nI (d_ * 12 + a_)), .int (nI (vC t)), .ref f2]) (ws' := [(f0, .inr (1, [.ref w0, .ref h0, .ref f1, .ref f2, .int (nI (vC t))])), (f1, .inl (tyZ D, 144, .inl (bf (upf (vO t) (d_ * 12 + a_) false)))), (f2, .inl (tyI D, 144, .inl (nf (vR t))))]) rfl rfl rfl ?_
        refine g_iastN (f' := (nf (upf (vR t) (vC t) (d_ * 12 + a_)))) (ws' := [(f0, .inr (1, [.ref w0, .ref h0, .ref f1, .ref f2, .int (nI (vC t))])), (f1, .inl (tyZ D, 144, .inl (bf (upf (vO t) (d_ * 12 + a_) false)))), (f2, .inl (tyI D, 144, .inl (nf (upf (vR t) (vC t) (d_ * 12 + a_)))))]) O 2 rfl (by omega) (by omega) dX1_reach_55 (nf_upd _ _ _) rfl ?_
        refine g_aload_n O dX1_reach_56 0 rfl rfl ?_
        refine g_dup O dX1_reach_57 rfl ?_
        refine g_get O hiX1_reach_X1 0 rfl rfl 4 (by decide) (by decide +kernel) rfl dX1_reach_58 ?_
        refine g_iconst (x := (nI 1)) O dX1_reach_61 (by decide +kernel) ?_
        refine g_iaddN O dX1_reach_62 ?_
        refine g_put (ws' := [(f0, .inr (1, [.ref w0, .ref h0, .ref f1, .ref f2, .int (nI ((vC t) + 1))])), (f1, .inl (tyZ D, 144, .inl (bf (upf (vO t) (d_ * 12 + a_) false)))), (f2, .inl (tyI D, 144, .inl (nf (upf (vR t) (vC t) (d_ * 12 + a_)))))]) O hiX1_reach_X1 tyX1 tyX1_ok nmX1 0 rfl rfl 4 (by decide) (by decide +kernel) rfl (tyX1_ok 4 (by decide)) rfl rfl (Nat.le_of_ble_eq_true rfl) dX1_reach_63 rfl ?_
        exact E 66 _ _ dX1_reach_66 (by rw [hvis]; exact ⟨rfl, rfl⟩)
theorem hiX1_closeLine_X1 : ∀ w ∈ wsX10, w ∈ wsX1_closeLine := by decide +kernel
set_option maxHeartbeats 2000000 in
set_option maxRecDepth 100000 in
/-- a line is closed -/
theorem kX1_closeLine (l : Launch) (D : va_G) (z : Nat × Nat × Nat) (f0 : Nat) (f1 : Nat) (f2 : Nat) (w0 : Nat) (h0 : Nat) (t : VT) (p : Nat) (hp : p < 144) : CM l yX1_closeLine wsX1_closeLine ({ frames := 2, cells := 0, slots := 0, locals := 43 } : Room) D z [.ref f0, .int (nI p)] [(f0, .inr (1, [.ref w0, .ref h0, .ref f1, .ref f2, .int (nI (vC t))])), (f1, .inl (tyZ D, 144, .inl (bf (vO t)))), (f2, .inl (tyI D, 144, .inl (nf (vR t))))] (fun r_ w_ => r_ = none ∧ w_ = [(f0, .inr (1, [.ref w0, .ref h0, .ref f1, .ref f2, .int (nI (vC (clF t p)))])), (f1, .inl (tyZ D, 144, .inl (bf (vO (clF t p))))), (f2, .inl (tyI D, 144, .inl (nf (vR (clF t p)))))]) 0 0 := by
  refine CM_void (own := RX1) (cc := cX1_closeLine) (maxL := 5) (L0 := [(0, .ref f0), (1, .int (nI p))]) (by decide) rfl rfl (Nat.le_of_ble_eq_true rfl) rfl (fun X O E => ?_)
  refine g_aload_n O dX1_closeLine_0 0 rfl rfl ?_
  refine g_iconst (x := (nI 0)) O dX1_closeLine_1 (by decide +kernel) ?_
  refine g_put (ws' := [(f0, .inr (1, [.ref w0, .ref h0, .ref f1, .ref f2, .int (nI 0)])), (f1, .inl (tyZ D, 144, .inl (bf (vO t)))), (f2, .inl (tyI D, 144, .inl (nf (vR t))))]) O hiX1_closeLine_X1 tyX1 tyX1_ok nmX1 0 rfl rfl 4 (by decide) (by decide +kernel) rfl (tyX1_ok 4 (by decide)) rfl rfl (Nat.le_of_ble_eq_true rfl) dX1_closeLine_2 rfl ?_
  refine g_aload_n O dX1_closeLine_5 0 rfl rfl ?_
  refine g_iload_n O dX1_closeLine_6 1 rfl rfl ?_
  refine g_callSN (As := [.int (nI p)]) (wr := [(f0, .inr (1, [.ref w0, .ref h0, .ref f1, .ref f2, .int (nI 0)])), (f1, .inl (tyZ D, 144, .inl (bf (vO t)))), (f2, .inl (tyI D, 144, .inl (nf (vR t))))]) O (kX8_columnOf l D z p (by first | assumption | omega)) gX1_closeLine_X8_columnOf_n42 rfl rfl rfl 1 (by decide +kernel) (by decide) (by decide) (by decide +kernel) 7 rfl (by decide +kernel) [] [0, 1, 2] rfl (by decide) rfl (by decide) (by decide) rfl rfl (Nat.le_of_ble_eq_true rfl) dX1_closeLine_7 (fun r_1 w_2 hp => ?_)
  obtain ⟨rfl, rfl⟩ := hp
  refine g_eq (st' := [.int (nI (p % 12)), .ref f0]) (ws' := [(f0, .inr (1, [.ref w0, .ref h0, .ref f1, .ref f2, .int (nI 0)])), (f1, .inl (tyZ D, 144, .inl (bf (vO t)))), (f2, .inl (tyI D, 144, .inl (nf (vR t))))]) rfl rfl rfl ?_
  refine g_iload_n O dX1_closeLine_10 1 rfl rfl ?_
  refine g_callSN (As := [.int (nI p)]) (wr := [(f0, .inr (1, [.ref w0, .ref h0, .ref f1, .ref f2, .int (nI 0)])), (f1, .inl (tyZ D, 144, .inl (bf (vO t)))), (f2, .inl (tyI D, 144, .inl (nf (vR t))))]) O (kX8_rowOf l D z p (by first | assumption | omega)) gX1_closeLine_X8_rowOf_n46 rfl rfl rfl 1 (by decide +kernel) (by decide) (by decide) (by decide +kernel) 8 rfl (by decide +kernel) [] [0, 1, 2] rfl (by decide) rfl (by decide) (by decide) rfl rfl (Nat.le_of_ble_eq_true rfl) dX1_closeLine_11 (fun r_3 w_4 hp => ?_)
  obtain ⟨rfl, rfl⟩ := hp
  refine g_eq (st' := [.int (nI (p / 12)), .int (nI (p % 12)), .ref f0]) (ws' := [(f0, .inr (1, [.ref w0, .ref h0, .ref f1, .ref f2, .int (nI 0)])), (f1, .inl (tyZ D, 144, .inl (bf (vO t)))), (f2, .inl (tyI D, 144, .inl (nf (vR t))))]) rfl rfl rfl ?_
  refine g_callV (As := [.int (nI (p % 12)), .int (nI (p / 12))]) (wr := []) O (kX1_reach l D z f0 f1 f2 w0 h0 (mkV (vO t) (vR t) 0) (nI (p % 12)) (nI (p / 12)) (by show (0:Nat) < 1073741824; decide)) gX1_closeLine_X1_reach rfl rfl rfl 2 (by decide +kernel) (by decide) (by decide) (q0 := 0) rfl rfl rfl [0, 1, 2] [] rfl (by decide) rfl (by decide) (by decide) rfl rfl (Nat.le_of_ble_eq_true rfl) dX1_closeLine_14 (fun r_5 w_6 hp => ?_)
  obtain ⟨rfl, rfl⟩ := hp
  refine g_eq (st' := []) (ws' := [(f0, .inr (1, [.ref w0, .ref h0, .ref f1, .ref f2, .int (nI (vC (visit (rchP (nI (p % 12)) (nI (p / 12))) (mkV (vO t) (vR t) 0))))])), (f1, .inl (tyZ D, 144, .inl (bf (vO (visit (rchP (nI (p % 12)) (nI (p / 12))) (mkV (vO t) (vR t) 0)))))), (f2, .inl (tyI D, 144, .inl (nf (vR (visit (rchP (nI (p % 12)) (nI (p / 12))) (mkV (vO t) (vR t) 0))))))]) rfl rfl rfl ?_
  refine g_iconst (x := (nI 0)) O dX1_closeLine_17 (by decide +kernel) ?_
  refine g_istore_n (L' := [(0, .ref f0), (1, .int (nI p)), (2, .int (nI 0))]) O dX1_closeLine_18 rfl (by decide) [1, 2, 0] rfl ?_
  have J19 : ∀ (n_ : Nat), ∀ (k_ : Nat) (t_ : VT) (hk : k_ ≤ 144) (hb : bfs (145 - k_) t_ k_ = clF t p) (hr : rOk t_) (hc : vC t_ ≤ 144), 145 - k_ < n_ → G X 0 0 19 [(0, .ref f0), (1, .int (nI p)), (2, .int (nI k_))] [] [(f0, .inr (1, [.ref w0, .ref h0, .ref f1, .ref f2, .int (nI (vC t_))])), (f1, .inl (tyZ D, 144, .inl (bf (vO t_)))), (f2, .inl (tyI D, 144, .inl (nf (vR t_))))] := by
    intro n_
    induction n_ with
    | zero => intro k_ t_ hk hb hr hc hm_; exact absurd hm_ (Nat.not_lt_zero _)
    | succ n_ ih_ =>
      intro k_ t_ hk hb hr hc hm_
      refine g_iload_n O dX1_closeLine_19 2 rfl rfl ?_
      refine g_aload_n O dX1_closeLine_20 0 rfl rfl ?_
      refine g_get O hiX1_closeLine_X1 0 rfl rfl 4 (by decide) (by decide +kernel) rfl dX1_closeLine_21 ?_
      refine g_icmp_geN (tgt := 97) O (by omega) (by omega) dX1_closeLine_24 (by decide) (fun c_7 => ?_) (fun c_7 => ?_)
      ·
        have he := bfs_e (t := t_) hk (by omega)
        exact E 97 _ _ dX1_closeLine_97 (by rw [← hb, he]; exact ⟨rfl, rfl⟩)
      ·
        refine g_iload_n O dX1_closeLine_27 2 rfl rfl ?_
        refine g_sipush (x := (nI 144)) O dX1_closeLine_28 (by decide +kernel) ?_
        refine g_icmp_geN (tgt := 97) O (by omega) (by omega) dX1_closeLine_31 (by decide) (fun c_8 => ?_) (fun c_8 => ?_)
        ·
          have he := bfs_e (t := t_) hk (by omega)
          exact E 97 _ _ dX1_closeLine_97 (by rw [← hb, he]; exact ⟨rfl, rfl⟩)
        ·
          have hrk := hr k_ (by assumption)
          refine g_aload_n O dX1_closeLine_34 0 rfl rfl ?_
          refine g_get O hiX1_closeLine_X1 0 rfl rfl 3 (by decide) (by decide +kernel) rfl dX1_closeLine_35 ?_
          refine g_iload_n O dX1_closeLine_38 2 rfl rfl ?_
          refine g_ialdN O 2 rfl (by omega) (by omega) dX1_closeLine_39 ?_
          refine g_callSN (As := [.int (nI ((vR t_) k_))]) (wr := [(f0, .inr (1, [.ref w0, .ref h0, .ref f1, .ref f2, .int (nI (vC t_))])), (f1, .inl (tyZ D, 144, .inl (bf (vO t_)))), (f2, .inl (tyI D, 144, .inl (nf (vR t_))))]) O (kX8_columnOf l D z ((vR t_) k_) (by first | assumption | omega)) gX1_closeLine_X8_columnOf_n42 rfl rfl rfl 1 (by decide +kernel) (by decide) (by decide) (by decide +kernel) 7 rfl (by decide +kernel) [] [0, 1, 2] rfl (by decide) rfl (by decide) (by decide) rfl rfl (Nat.le_of_ble_eq_true rfl) dX1_closeLine_40 (fun r_9 w_10 hp => ?_)
          obtain ⟨rfl, rfl⟩ := hp
          refine g_eq (st' := [.int (nI (((vR t_) k_) % 12))]) (ws' := [(f0, .inr (1, [.ref w0, .ref h0, .ref f1, .ref f2, .int (nI (vC t_))])), (f1, .inl (tyZ D, 144, .inl (bf (vO t_)))), (f2, .inl (tyI D, 144, .inl (nf (vR t_))))]) rfl rfl rfl ?_
          refine g_istore_n (L' := [(0, .ref f0), (1, .int (nI p)), (2, .int (nI k_)), (3, .int (nI (((vR t_) k_) % 12)))]) O dX1_closeLine_43 rfl (by decide) [1, 2, 3, 0] rfl ?_
          refine g_aload_n O dX1_closeLine_44 0 rfl rfl ?_
          refine g_get O hiX1_closeLine_X1 0 rfl rfl 3 (by decide) (by decide +kernel) rfl dX1_closeLine_45 ?_
          refine g_iload_n O dX1_closeLine_48 2 rfl rfl ?_
          refine g_ialdN O 2 rfl (by omega) (by omega) dX1_closeLine_49 ?_
          refine g_callSN (As := [.int (nI ((vR t_) k_))]) (wr := [(f0, .inr (1, [.ref w0, .ref h0, .ref f1, .ref f2, .int (nI (vC t_))])), (f1, .inl (tyZ D, 144, .inl (bf (vO t_)))), (f2, .inl (tyI D, 144, .inl (nf (vR t_))))]) O (kX8_rowOf l D z ((vR t_) k_) (by first | assumption | omega)) gX1_closeLine_X8_rowOf_n46 rfl rfl rfl 1 (by decide +kernel) (by decide) (by decide) (by decide +kernel) 8 rfl (by decide +kernel) [] [0, 1, 2] rfl (by decide) rfl (by decide) (by decide) rfl rfl (Nat.le_of_ble_eq_true rfl) dX1_closeLine_50 (fun r_11 w_12 hp => ?_)
          obtain ⟨rfl, rfl⟩ := hp
          refine g_eq (st' := [.int (nI (((vR t_) k_) / 12))]) (ws' := [(f0, .inr (1, [.ref w0, .ref h0, .ref f1, .ref f2, .int (nI (vC t_))])), (f1, .inl (tyZ D, 144, .inl (bf (vO t_)))), (f2, .inl (tyI D, 144, .inl (nf (vR t_))))]) rfl rfl rfl ?_
          refine g_istore (L' := [(0, .ref f0), (1, .int (nI p)), (2, .int (nI k_)), (3, .int (nI (((vR t_) k_) % 12))), (4, .int (nI (((vR t_) k_) / 12)))]) O dX1_closeLine_53 (by decide) [1, 2, 3, 4, 0] rfl ?_
          refine g_aload_n O dX1_closeLine_55 0 rfl rfl ?_
          refine g_iload_n O dX1_closeLine_56 3 rfl rfl ?_
          refine g_iload O dX1_closeLine_57 4 rfl ?_
          refine g_iconst (x := (nI 1)) O dX1_closeLine_59 (by decide +kernel) ?_
          refine g_isub O dX1_closeLine_60 ?_
          refine g_callV (As := [.int (nI (((vR t_) k_) % 12)), .int ((nI (((vR t_) k_) / 12)) - (nI 1))]) (wr := []) O (kX1_reach l D z f0 f1 f2 w0 h0 t_ (nI (((vR t_) k_) % 12)) ((nI (((vR t_) k_) / 12)) - (nI 1)) (by exact vlt (by repeat first | exact hc | apply visit_c))) gX1_closeLine_X1_reach rfl rfl rfl 2 (by decide +kernel) (by decide) (by decide) (q0 := 0) rfl rfl rfl [0, 1, 2] [] rfl (by decide) rfl (by decide) (by decide) rfl rfl (Nat.le_of_ble_eq_true rfl) dX1_closeLine_61 (fun r_13 w_14 hp => ?_)
          obtain ⟨rfl, rfl⟩ := hp
          refine g_eq (st' := []) (ws' := [(f0, .inr (1, [.ref w0, .ref h0, .ref f1, .ref f2, .int (nI (vC (visit (rchP (nI (((vR t_) k_) % 12)) ((nI (((vR t_) k_) / 12)) - (nI 1))) t_)))])), (f1, .inl (tyZ D, 144, .inl (bf (vO (visit (rchP (nI (((vR t_) k_) % 12)) ((nI (((vR t_) k_) / 12)) - (nI 1))) t_))))), (f2, .inl (tyI D, 144, .inl (nf (vR (visit (rchP (nI (((vR t_) k_) % 12)) ((nI (((vR t_) k_) / 12)) - (nI 1))) t_)))))]) rfl rfl rfl ?_
          refine g_aload_n O dX1_closeLine_64 0 rfl rfl ?_
          refine g_iload_n O dX1_closeLine_65 3 rfl rfl ?_
          refine g_iconst (x := (nI 1)) O dX1_closeLine_66 (by decide +kernel) ?_
          refine g_isub O dX1_closeLine_67 ?_
          refine g_iload O dX1_closeLine_68 4 rfl ?_
          refine g_callV (As := [.int ((nI (((vR t_) k_) % 12)) - (nI 1)), .int (nI (((vR t_) k_) / 12))]) (wr := []) O (kX1_reach l D z f0 f1 f2 w0 h0 (visit (rchP (nI (((vR t_) k_) % 12)) ((nI (((vR t_) k_) / 12)) - (nI 1))) t_) ((nI (((vR t_) k_) % 12)) - (nI 1)) (nI (((vR t_) k_) / 12)) (by exact vlt (by repeat first | exact hc | apply visit_c))) gX1_closeLine_X1_reach rfl rfl rfl 2 (by decide +kernel) (by decide) (by decide) (q0 := 0) rfl rfl rfl [0, 1, 2] [] rfl (by decide) rfl (by decide) (by decide) rfl rfl (Nat.le_of_ble_eq_true rfl) dX1_closeLine_70 (fun r_15 w_16 hp => ?_)
          obtain ⟨rfl, rfl⟩ := hp
          refine g_eq (st' := []) (ws' := [(f0, .inr (1, [.ref w0, .ref h0, .ref f1, .ref f2, .int (nI (vC (visit (rchP ((nI (((vR t_) k_) % 12)) - (nI 1)) (nI (((vR t_) k_) / 12))) (visit (rchP (nI (((vR t_) k_) % 12)) ((nI (((vR t_) k_) / 12)) - (nI 1))) t_))))])), (f1, .inl (tyZ D, 144, .inl (bf (vO (visit (rchP ((nI (((vR t_) k_) % 12)) - (nI 1)) (nI (((vR t_) k_) / 12))) (visit (rchP (nI (((vR t_) k_) % 12)) ((nI (((vR t_) k_) / 12)) - (nI 1))) t_)))))), (f2, .inl (tyI D, 144, .inl (nf (vR (visit (rchP ((nI (((vR t_) k_) % 12)) - (nI 1)) (nI (((vR t_) k_) / 12))) (visit (rchP (nI (((vR t_) k_) % 12)) ((nI (((vR t_) k_) / 12)) - (nI 1))) t_))))))]) rfl rfl rfl ?_
          refine g_aload_n O dX1_closeLine_73 0 rfl rfl ?_
          refine g_iload_n O dX1_closeLine_74 3 rfl rfl ?_
          refine g_iconst (x := (nI 1)) O dX1_closeLine_75 (by decide +kernel) ?_
          refine g_iaddN O dX1_closeLine_76 ?_
          refine g_iload O dX1_closeLine_77 4 rfl ?_
          refine g_callV (As := [.int (nI ((((vR t_) k_) % 12) + 1)), .int (nI (((vR t_) k_) / 12))]) (wr := []) O (kX1_reach l D z f0 f1 f2 w0 h0 (visit (rchP ((nI (((vR t_) k_) % 12)) - (nI 1)) (nI (((vR t_) k_) / 12))) (visit (rchP (nI (((vR t_) k_) % 12)) ((nI (((vR t_) k_) / 12)) - (nI 1))) t_)) (nI ((((vR t_) k_) % 12) + 1)) (nI (((vR t_) k_) / 12)) (by exact vlt (by repeat first | exact hc | apply visit_c))) gX1_closeLine_X1_reach rfl rfl rfl 2 (by decide +kernel) (by decide) (by decide) (q0 := 0) rfl rfl rfl [0, 1, 2] [] rfl (by decide) rfl (by decide) (by decide) rfl rfl (Nat.le_of_ble_eq_true rfl) dX1_closeLine_79 (fun r_17 w_18 hp => ?_)
          obtain ⟨rfl, rfl⟩ := hp
          refine g_eq (st' := []) (ws' := [(f0, .inr (1, [.ref w0, .ref h0, .ref f1, .ref f2, .int (nI (vC (visit (rchP (nI ((((vR t_) k_) % 12) + 1)) (nI (((vR t_) k_) / 12))) (visit (rchP ((nI (((vR t_) k_) % 12)) - (nI 1)) (nI (((vR t_) k_) / 12))) (visit (rchP (nI (((vR t_) k_) % 12)) ((nI (((vR t_) k_) / 12)) - (nI 1))) t_)))))])), (f1, .inl (tyZ D, 144, .inl (bf (vO (visit (rchP (nI ((((vR t_) k_) % 12) + 1)) (nI (((vR t_) k_) / 12))) (visit (rchP ((nI (((vR t_) k_) % 12)) - (nI 1)) (nI (((vR t_) k_) / 12))) (visit (rchP (nI (((vR t_) k_) % 12)) ((nI (((vR t_) k_) / 12)) - (nI 1))) t_))))))), (f2, .inl (tyI D, 144, .inl (nf (vR (visit (rchP (nI ((((vR t_) k_) % 12) + 1)) (nI (((vR t_) k_) / 12))) (visit (rchP ((nI (((vR t_) k_) % 12)) - (nI 1)) (nI (((vR t_) k_) / 12))) (visit (rchP (nI (((vR t_) k_) % 12)) ((nI (((vR t_) k_) / 12)) - (nI 1))) t_)))))))]) rfl rfl rfl ?_
          refine g_aload_n O dX1_closeLine_82 0 rfl rfl ?_
          refine g_iload_n O dX1_closeLine_83 3 rfl rfl ?_
          refine g_iload O dX1_closeLine_84 4 rfl ?_
          refine g_iconst (x := (nI 1)) O dX1_closeLine_86 (by decide +kernel) ?_
          refine g_iaddN O dX1_closeLine_87 ?_
          refine g_callV (As := [.int (nI (((vR t_) k_) % 12)), .int (nI ((((vR t_) k_) / 12) + 1))]) (wr := []) O (kX1_reach l D z f0 f1 f2 w0 h0 (visit (rchP (nI ((((vR t_) k_) % 12) + 1)) (nI (((vR t_) k_) / 12))) (visit (rchP ((nI (((vR t_) k_) % 12)) - (nI 1)) (nI (((vR t_) k_) / 12))) (visit (rchP (nI (((vR t_) k_) % 12)) ((nI (((vR t_) k_) / 12)) - (nI 1))) t_))) (nI (((vR t_) k_) % 12)) (nI ((((vR t_) k_) / 12) + 1)) (by exact vlt (by repeat first | exact hc | apply visit_c))) gX1_closeLine_X1_reach rfl rfl rfl 2 (by decide +kernel) (by decide) (by decide) (q0 := 0) rfl rfl rfl [0, 1, 2] [] rfl (by decide) rfl (by decide) (by decide) rfl rfl (Nat.le_of_ble_eq_true rfl) dX1_closeLine_88 (fun r_19 w_20 hp => ?_)
          obtain ⟨rfl, rfl⟩ := hp
          refine g_eq (st' := []) (ws' := [(f0, .inr (1, [.ref w0, .ref h0, .ref f1, .ref f2, .int (nI (vC (visit (rchP (nI (((vR t_) k_) % 12)) (nI ((((vR t_) k_) / 12) + 1))) (visit (rchP (nI ((((vR t_) k_) % 12) + 1)) (nI (((vR t_) k_) / 12))) (visit (rchP ((nI (((vR t_) k_) % 12)) - (nI 1)) (nI (((vR t_) k_) / 12))) (visit (rchP (nI (((vR t_) k_) % 12)) ((nI (((vR t_) k_) / 12)) - (nI 1))) t_))))))])), (f1, .inl (tyZ D, 144, .inl (bf (vO (visit (rchP (nI (((vR t_) k_) % 12)) (nI ((((vR t_) k_) / 12) + 1))) (visit (rchP (nI ((((vR t_) k_) % 12) + 1)) (nI (((vR t_) k_) / 12))) (visit (rchP ((nI (((vR t_) k_) % 12)) - (nI 1)) (nI (((vR t_) k_) / 12))) (visit (rchP (nI (((vR t_) k_) % 12)) ((nI (((vR t_) k_) / 12)) - (nI 1))) t_)))))))), (f2, .inl (tyI D, 144, .inl (nf (vR (visit (rchP (nI (((vR t_) k_) % 12)) (nI ((((vR t_) k_) / 12) + 1))) (visit (rchP (nI ((((vR t_) k_) % 12) + 1)) (nI (((vR t_) k_) / 12))) (visit (rchP ((nI (((vR t_) k_) % 12)) - (nI 1)) (nI (((vR t_) k_) / 12))) (visit (rchP (nI (((vR t_) k_) % 12)) ((nI (((vR t_) k_) / 12)) - (nI 1))) t_))))))))]) rfl rfl rfl ?_
          refine g_iincN (L' := [(0, .ref f0), (1, .int (nI p)), (2, .int (nI (k_ + 1))), (3, .int (nI (((vR t_) k_) % 12))), (4, .int (nI (((vR t_) k_) / 12)))]) O dX1_closeLine_91 2 rfl (by decide) [1, 2, 0, 3, 4] rfl ?_
          refine g_goto (tgt := 19) O dX1_closeLine_94 (by decide) ?_
          refine g_locals (L' := [(0, .ref f0), (1, .int (nI p)), (2, .int (nI (k_ + 1)))]) [0, 1, 2] rfl ?_
          exact ih_ (k_ + 1) (vis4 t_ (vR t_ k_)) (by first | assumption | omega | rfl) (by rw [← hb]; exact (bfs_s (by assumption) (by assumption)).symm) (vis4_ok hr) (vis4_c hc) (by omega)
  exact J19 _ 0 (visit (rchP (nI (p % 12)) (nI (p / 12))) (mkV (vO t) (vR t) 0)) (Nat.zero_le _) (rfl) (visit_ok (fun _ h => rchP_lt h) (fun j hj => absurd hj (Nat.not_lt_zero _))) (visit_c (Nat.zero_le _)) (Nat.lt_succ_self _)
theorem hiX1_lines_X1 : ∀ w ∈ wsX10, w ∈ wsX1_lines := by decide +kernel
set_option maxHeartbeats 2000000 in
set_option maxRecDepth 100000 in
/-- how many lines -/
theorem kX1_lines (l : Launch) (D : va_G) (z : Nat × Nat × Nat) (f0 : Nat) (f1 : Nat) (f2 : Nat) (w0 : Nat) (w1 : Nat) (w2 : Nat) (w3 : Nat) (w4 : Nat) (h0 : Nat) (h1 : Nat) (h2 : Nat) (h3 : Nat) (h4 : Nat) (h5 : Nat) (s : SV) (t : VT) (w : Nat) (hw : w < 48) : CM l yX1_lines wsX1_lines ({ frames := 3, cells := 0, slots := 0, locals := 71 } : Room) D z [.ref f0, .int (nI w)] [(f0, .inr (1, [.ref w0, .ref h0, .ref f1, .ref f2, .int (nI (vC t))])), (f1, .inl (tyZ D, 144, .inl (bf (vO t)))), (f2, .inl (tyI D, 144, .inl (nf (vR t)))), (w0, .inr (7, [.ref w1, .ref w2, .ref w3, .ref w4, .int (nI 48)])), (w1, .inl (tyI D, 48, .inl (nf tM))), (w2, .inl (tyI D, 48, .inl (nf tN))), (w3, .inl (tyI D, 48, .inl (nf tS))), (w4, .inl (tyI D, 84, .inl hT)), (h0, .inr (5, [.ref h1, .ref h2, .ref h3, .int (nI (sv_nc s)), .ref h4, .ref h5, .int (sv_la s), .int (sv_st s), .int (sv_sw s), .int (sv_fl s), .int (sv_sk s), .int (sv_mu s)])), (h4, .inl (tyI D, 4, .inl (sv_se s)))] (fun r_ w_ => r_ = some (.int (nI ((lnF s w (vR t) (vC t) 144).2))) ∧ w_ = [(f0, .inr (1, [.ref w0, .ref h0, .ref f1, .ref f2, .int (nI (vC ((lnF s w (vR t) (vC t) 144).1)))])), (f1, .inl (tyZ D, 144, .inl (bf (vO ((lnF s w (vR t) (vC t) 144).1))))), (f2, .inl (tyI D, 144, .inl (nf (vR ((lnF s w (vR t) (vC t) 144).1))))), (w0, .inr (7, [.ref w1, .ref w2, .ref w3, .ref w4, .int (nI 48)])), (w1, .inl (tyI D, 48, .inl (nf tM))), (w2, .inl (tyI D, 48, .inl (nf tN))), (w3, .inl (tyI D, 48, .inl (nf tS))), (w4, .inl (tyI D, 84, .inl hT)), (h0, .inr (5, [.ref h1, .ref h2, .ref h3, .int (nI (sv_nc s)), .ref h4, .ref h5, .int (sv_la s), .int (sv_st s), .int (sv_sw s), .int (sv_fl s), .int (sv_sk s), .int (sv_mu s)])), (h4, .inl (tyI D, 4, .inl (sv_se s)))]) 0 0 := by
  refine CM_int (own := RX1) (cc := cX1_lines) (maxL := 4) (L0 := [(0, .ref f0), (1, .int (nI w))]) (by decide) rfl rfl (Nat.le_of_ble_eq_true rfl) rfl (fun X O E => ?_)
  refine g_iconst (x := (nI 0)) O dX1_lines_0 (by decide +kernel) ?_
  refine g_istore_n (L' := [(0, .ref f0), (1, .int (nI w)), (2, .int (nI 0))]) O dX1_lines_1 rfl (by decide) [1, 2, 0] rfl ?_
  have J2 : ∀ (n_ : Nat), ∀ (i_ : Nat) (F_ : Nat → Bool) (hi_ : i_ ≤ 144) (hF : ∀ j, j < i_ → F_ j = stB s w j), 144 - i_ < n_ → G X 0 0 2 [(0, .ref f0), (1, .int (nI w)), (2, .int (nI i_))] [] [(f0, .inr (1, [.ref w0, .ref h0, .ref f1, .ref f2, .int (nI (vC t))])), (f1, .inl (tyZ D, 144, .inl (bf F_))), (f2, .inl (tyI D, 144, .inl (nf (vR t)))), (w0, .inr (7, [.ref w1, .ref w2, .ref w3, .ref w4, .int (nI 48)])), (w1, .inl (tyI D, 48, .inl (nf tM))), (w2, .inl (tyI D, 48, .inl (nf tN))), (w3, .inl (tyI D, 48, .inl (nf tS))), (w4, .inl (tyI D, 84, .inl hT)), (h0, .inr (5, [.ref h1, .ref h2, .ref h3, .int (nI (sv_nc s)), .ref h4, .ref h5, .int (sv_la s), .int (sv_st s), .int (sv_sw s), .int (sv_fl s), .int (sv_sk s), .int (sv_mu s)])), (h4, .inl (tyI D, 4, .inl (sv_se s)))] := by
    intro n_
    induction n_ with
    | zero => intro i_ F_ hi_ hF hm_; exact absurd hm_ (Nat.not_lt_zero _)
    | succ n_ ih_ =>
      intro i_ F_ hi_ hF hm_
      refine g_iload_n O dX1_lines_2 2 rfl rfl ?_
      refine g_sipush (x := (nI 144)) O dX1_lines_3 (by decide +kernel) ?_
      refine g_icmp_geN (tgt := 34) O (by omega) (by omega) dX1_lines_6 (by decide) (fun c_1 => ?_) (fun c_1 => ?_)
      ·
        refine g_arr (f' := bf (fun p => stB s w p)) (ws' := [(f0, .inr (1, [.ref w0, .ref h0, .ref f1, .ref f2, .int (nI (vC t))])), (f1, .inl (tyZ D, 144, .inl (bf (fun p => stB s w p)))), (f2, .inl (tyI D, 144, .inl (nf (vR t)))), (w0, .inr (7, [.ref w1, .ref w2, .ref w3, .ref w4, .int (nI 48)])), (w1, .inl (tyI D, 48, .inl (nf tM))), (w2, .inl (tyI D, 48, .inl (nf tN))), (w3, .inl (tyI D, 48, .inl (nf tS))), (w4, .inl (tyI D, 84, .inl hT)), (h0, .inr (5, [.ref h1, .ref h2, .ref h3, .int (nI (sv_nc s)), .ref h4, .ref h5, .int (sv_la s), .int (sv_st s), .int (sv_sw s), .int (sv_fl s), .int (sv_sk s), .int (sv_mu s)])), (h4, .inl (tyI D, 4, .inl (sv_se s)))]) 1 rfl (fun j hj => by show bB (F_ j) = bB (stB s w j); rw [hF j (by omega)]) rfl ?_
        refine g_iconst (x := (nI 0)) O dX1_lines_34 (by decide +kernel) ?_
        refine g_istore_n (L' := [(0, .ref f0), (1, .int (nI w)), (2, .int (nI 0))]) O dX1_lines_35 rfl (by decide) [1, 2, 0] rfl ?_
        refine g_iconst (x := (nI 0)) O dX1_lines_36 (by decide +kernel) ?_
        refine g_istore_n (L' := [(0, .ref f0), (1, .int (nI w)), (2, .int (nI 0)), (3, .int (nI 0))]) O dX1_lines_37 rfl (by decide) [1, 2, 3, 0] rfl ?_
        have J38 : ∀ (n_ : Nat), ∀ (i_ : Nat) (k_ : Nat) (t_ : VT) (hi_ : i_ ≤ 144) (hTv : t_ = (lnF s w (vR t) (vC t) i_).1) (hk : k_ = (lnF s w (vR t) (vC t) i_).2) (hkl : k_ ≤ i_), 144 - i_ < n_ → G X 0 0 38 [(0, .ref f0), (1, .int (nI w)), (2, .int (nI k_)), (3, .int (nI i_))] [] [(f0, .inr (1, [.ref w0, .ref h0, .ref f1, .ref f2, .int (nI (vC t_))])), (f1, .inl (tyZ D, 144, .inl (bf (vO t_)))), (f2, .inl (tyI D, 144, .inl (nf (vR t_)))), (w0, .inr (7, [.ref w1, .ref w2, .ref w3, .ref w4, .int (nI 48)])), (w1, .inl (tyI D, 48, .inl (nf tM))), (w2, .inl (tyI D, 48, .inl (nf tN))), (w3, .inl (tyI D, 48, .inl (nf tS))), (w4, .inl (tyI D, 84, .inl hT)), (h0, .inr (5, [.ref h1, .ref h2, .ref h3, .int (nI (sv_nc s)), .ref h4, .ref h5, .int (sv_la s), .int (sv_st s), .int (sv_sw s), .int (sv_fl s), .int (sv_sk s), .int (sv_mu s)])), (h4, .inl (tyI D, 4, .inl (sv_se s)))] := by
          intro n_
          induction n_ with
          | zero => intro i_ k_ t_ hi_ hTv hk hkl hm_; exact absurd hm_ (Nat.not_lt_zero _)
          | succ n_ ih_ =>
            intro i_ k_ t_ hi_ hTv hk hkl hm_
            refine g_iload_n O dX1_lines_38 3 rfl rfl ?_
            refine g_sipush (x := (nI 144)) O dX1_lines_39 (by decide +kernel) ?_
            refine g_icmp_geN (tgt := 68) O (by omega) (by omega) dX1_lines_42 (by decide) (fun c_2 => ?_) (fun c_2 => ?_)
            ·
              obtain rfl : i_ = 144 := by omega
              refine g_iload_n O dX1_lines_68 2 rfl rfl ?_
              exact E 69 _ (nI k_) _ dX1_lines_69 (by rw [hTv, hk]; exact ⟨rfl, rfl⟩)
            ·
              refine g_aload_n O dX1_lines_45 0 rfl rfl ?_
              refine g_get O hiX1_lines_X1 0 rfl rfl 2 (by decide) (by decide +kernel) rfl dX1_lines_46 ?_
              refine g_iload_n O dX1_lines_49 3 rfl rfl ?_
              refine g_zaldN O 1 rfl (by omega) (by omega) dX1_lines_50 ?_
              refine g_if_eqB (tgt := 62) O dX1_lines_51 (by decide) (fun c_3 => ?_) (fun c_3 => ?_)
              ·
                have hq : lnF s w (vR t) (vC t) (i_ + 1) = (lnF s w (vR t) (vC t) i_) := by simp only [lnF]; rw [← hTv, if_neg (by rw [c_3]; decide)]
                refine g_iincN (L' := [(0, .ref f0), (1, .int (nI w)), (2, .int (nI k_)), (3, .int (nI (i_ + 1)))]) O dX1_lines_62 3 rfl (by decide) [1, 2, 3, 0] rfl ?_
                refine g_goto (tgt := 38) O dX1_lines_65 (by decide) ?_
                exact ih_ (i_ + 1) _ t_ (by first | assumption | omega | rfl) (by rw [hq] <;> first | rfl | exact hTv) (by rw [hq] <;> first | rfl | exact hk) (by first | assumption | omega | rfl) (by omega)
              ·
                have hq : lnF s w (vR t) (vC t) (i_ + 1) = (clF t_ i_, k_ + 1) := by simp only [lnF]; rw [← hTv, ← hk, if_pos c_3]
                refine g_iincN (L' := [(0, .ref f0), (1, .int (nI w)), (2, .int (nI (k_ + 1))), (3, .int (nI i_))]) O dX1_lines_54 2 rfl (by decide) [1, 2, 0, 3] rfl ?_
                refine g_aload_n O dX1_lines_57 0 rfl rfl ?_
                refine g_iload_n O dX1_lines_58 3 rfl rfl ?_
                refine g_callV (As := [.int (nI i_)]) (wr := [(w0, .inr (7, [.ref w1, .ref w2, .ref w3, .ref w4, .int (nI 48)])), (w1, .inl (tyI D, 48, .inl (nf tM))), (w2, .inl (tyI D, 48, .inl (nf tN))), (w3, .inl (tyI D, 48, .inl (nf tS))), (w4, .inl (tyI D, 84, .inl hT)), (h0, .inr (5, [.ref h1, .ref h2, .ref h3, .int (nI (sv_nc s)), .ref h4, .ref h5, .int (sv_la s), .int (sv_st s), .int (sv_sw s), .int (sv_fl s), .int (sv_sk s), .int (sv_mu s)])), (h4, .inl (tyI D, 4, .inl (sv_se s)))]) O (kX1_closeLine l D z f0 f1 f2 w0 h0 t_ i_ (by first | assumption | omega)) gX1_lines_X1_closeLine rfl rfl rfl 1 (by decide +kernel) (by decide) (by decide) (q0 := 0) rfl rfl rfl [0, 1, 2] [3, 4, 5, 6, 7, 8, 9] rfl (by decide) rfl (by decide) (by decide) rfl rfl (Nat.le_of_ble_eq_true rfl) dX1_lines_59 (fun r_4 w_5 hp => ?_)
                obtain ⟨rfl, rfl⟩ := hp
                refine g_eq (st' := []) (ws' := [(w0, .inr (7, [.ref w1, .ref w2, .ref w3, .ref w4, .int (nI 48)])), (w1, .inl (tyI D, 48, .inl (nf tM))), (w2, .inl (tyI D, 48, .inl (nf tN))), (w3, .inl (tyI D, 48, .inl (nf tS))), (w4, .inl (tyI D, 84, .inl hT)), (h0, .inr (5, [.ref h1, .ref h2, .ref h3, .int (nI (sv_nc s)), .ref h4, .ref h5, .int (sv_la s), .int (sv_st s), .int (sv_sw s), .int (sv_fl s), .int (sv_sk s), .int (sv_mu s)])), (h4, .inl (tyI D, 4, .inl (sv_se s))), (f0, .inr (1, [.ref w0, .ref h0, .ref f1, .ref f2, .int (nI (vC (clF t_ i_)))])), (f1, .inl (tyZ D, 144, .inl (bf (vO (clF t_ i_))))), (f2, .inl (tyI D, 144, .inl (nf (vR (clF t_ i_)))))]) rfl rfl rfl ?_
                refine g_iincN (L' := [(0, .ref f0), (1, .int (nI w)), (2, .int (nI (k_ + 1))), (3, .int (nI (i_ + 1)))]) O dX1_lines_62 3 rfl (by decide) [1, 2, 3, 0] rfl ?_
                refine g_goto (tgt := 38) O dX1_lines_65 (by decide) ?_
                refine g_perm (ws' := [(f0, .inr (1, [.ref w0, .ref h0, .ref f1, .ref f2, .int (nI (vC (clF t_ i_)))])), (f1, .inl (tyZ D, 144, .inl (bf (vO (clF t_ i_))))), (f2, .inl (tyI D, 144, .inl (nf (vR (clF t_ i_))))), (w0, .inr (7, [.ref w1, .ref w2, .ref w3, .ref w4, .int (nI 48)])), (w1, .inl (tyI D, 48, .inl (nf tM))), (w2, .inl (tyI D, 48, .inl (nf tN))), (w3, .inl (tyI D, 48, .inl (nf tS))), (w4, .inl (tyI D, 84, .inl hT)), (h0, .inr (5, [.ref h1, .ref h2, .ref h3, .int (nI (sv_nc s)), .ref h4, .ref h5, .int (sv_la s), .int (sv_st s), .int (sv_sw s), .int (sv_fl s), .int (sv_sk s), .int (sv_mu s)])), (h4, .inl (tyI D, 4, .inl (sv_se s)))]) [7, 8, 9, 0, 1, 2, 3, 4, 5, 6] rfl (by decide) ?_
                exact ih_ (i_ + 1) _ (clF t_ i_) (by first | assumption | omega | rfl) (by rw [hq] <;> first | rfl | exact hTv) (by rw [hq] <;> first | rfl | exact hk) (by first | assumption | omega | rfl) (by omega)
        exact J38 _ 0 0 (mkV (fun p => stB s w p) (vR t) (vC t)) (Nat.zero_le _) (rfl) (rfl) (Nat.le_refl _) (Nat.lt_succ_self _)
      ·
        refine g_aload_n O dX1_lines_9 0 rfl rfl ?_
        refine g_get O hiX1_lines_X1 0 rfl rfl 2 (by decide) (by decide +kernel) rfl dX1_lines_10 ?_
        refine g_iload_n O dX1_lines_13 2 rfl rfl ?_
        refine g_aload_n O dX1_lines_14 0 rfl rfl ?_
        refine g_iload_n O dX1_lines_15 1 rfl rfl ?_
        refine g_iload_n O dX1_lines_16 2 rfl rfl ?_
        refine g_callSN (As := [.int (nI i_)]) (wr := [(f0, .inr (1, [.ref w0, .ref h0, .ref f1, .ref f2, .int (nI (vC t))])), (f1, .inl (tyZ D, 144, .inl (bf F_))), (f2, .inl (tyI D, 144, .inl (nf (vR t)))), (w0, .inr (7, [.ref w1, .ref w2, .ref w3, .ref w4, .int (nI 48)])), (w1, .inl (tyI D, 48, .inl (nf tM))), (w2, .inl (tyI D, 48, .inl (nf tN))), (w3, .inl (tyI D, 48, .inl (nf tS))), (w4, .inl (tyI D, 84, .inl hT)), (h0, .inr (5, [.ref h1, .ref h2, .ref h3, .int (nI (sv_nc s)), .ref h4, .ref h5, .int (sv_la s), .int (sv_st s), .int (sv_sw s), .int (sv_fl s), .int (sv_sk s), .int (sv_mu s)])), (h4, .inl (tyI D, 4, .inl (sv_se s)))]) O (kX8_columnOf l D z i_ (by first | assumption | omega)) gX1_lines_X8_columnOf_n42 rfl rfl rfl 1 (by decide +kernel) (by decide) (by decide) (by decide +kernel) 7 rfl (by decide +kernel) [] [0, 1, 2, 3, 4, 5, 6, 7, 8, 9] rfl (by decide) rfl (by decide) (by decide) rfl rfl (Nat.le_of_ble_eq_true rfl) dX1_lines_17 (fun r_6 w_7 hp => ?_)
        obtain ⟨rfl, rfl⟩ := hp
        refine g_eq (st' := [.int (nI (i_ % 12)), .int (nI w), .ref f0, .int (nI i_), .ref f1]) (ws' := [(f0, .inr (1, [.ref w0, .ref h0, .ref f1, .ref f2, .int (nI (vC t))])), (f1, .inl (tyZ D, 144, .inl (bf F_))), (f2, .inl (tyI D, 144, .inl (nf (vR t)))), (w0, .inr (7, [.ref w1, .ref w2, .ref w3, .ref w4, .int (nI 48)])), (w1, .inl (tyI D, 48, .inl (nf tM))), (w2, .inl (tyI D, 48, .inl (nf tN))), (w3, .inl (tyI D, 48, .inl (nf tS))), (w4, .inl (tyI D, 84, .inl hT)), (h0, .inr (5, [.ref h1, .ref h2, .ref h3, .int (nI (sv_nc s)), .ref h4, .ref h5, .int (sv_la s), .int (sv_st s), .int (sv_sw s), .int (sv_fl s), .int (sv_sk s), .int (sv_mu s)])), (h4, .inl (tyI D, 4, .inl (sv_se s)))]) rfl rfl rfl ?_
        refine g_iload_n O dX1_lines_20 2 rfl rfl ?_
        refine g_callSN (As := [.int (nI i_)]) (wr := [(f0, .inr (1, [.ref w0, .ref h0, .ref f1, .ref f2, .int (nI (vC t))])), (f1, .inl (tyZ D, 144, .inl (bf F_))), (f2, .inl (tyI D, 144, .inl (nf (vR t)))), (w0, .inr (7, [.ref w1, .ref w2, .ref w3, .ref w4, .int (nI 48)])), (w1, .inl (tyI D, 48, .inl (nf tM))), (w2, .inl (tyI D, 48, .inl (nf tN))), (w3, .inl (tyI D, 48, .inl (nf tS))), (w4, .inl (tyI D, 84, .inl hT)), (h0, .inr (5, [.ref h1, .ref h2, .ref h3, .int (nI (sv_nc s)), .ref h4, .ref h5, .int (sv_la s), .int (sv_st s), .int (sv_sw s), .int (sv_fl s), .int (sv_sk s), .int (sv_mu s)])), (h4, .inl (tyI D, 4, .inl (sv_se s)))]) O (kX8_rowOf l D z i_ (by first | assumption | omega)) gX1_lines_X8_rowOf_n46 rfl rfl rfl 1 (by decide +kernel) (by decide) (by decide) (by decide +kernel) 8 rfl (by decide +kernel) [] [0, 1, 2, 3, 4, 5, 6, 7, 8, 9] rfl (by decide) rfl (by decide) (by decide) rfl rfl (Nat.le_of_ble_eq_true rfl) dX1_lines_21 (fun r_8 w_9 hp => ?_)
        obtain ⟨rfl, rfl⟩ := hp
        refine g_eq (st' := [.int (nI (i_ / 12)), .int (nI (i_ % 12)), .int (nI w), .ref f0, .int (nI i_), .ref f1]) (ws' := [(f0, .inr (1, [.ref w0, .ref h0, .ref f1, .ref f2, .int (nI (vC t))])), (f1, .inl (tyZ D, 144, .inl (bf F_))), (f2, .inl (tyI D, 144, .inl (nf (vR t)))), (w0, .inr (7, [.ref w1, .ref w2, .ref w3, .ref w4, .int (nI 48)])), (w1, .inl (tyI D, 48, .inl (nf tM))), (w2, .inl (tyI D, 48, .inl (nf tN))), (w3, .inl (tyI D, 48, .inl (nf tS))), (w4, .inl (tyI D, 84, .inl hT)), (h0, .inr (5, [.ref h1, .ref h2, .ref h3, .int (nI (sv_nc s)), .ref h4, .ref h5, .int (sv_la s), .int (sv_st s), .int (sv_sw s), .int (sv_fl s), .int (sv_sk s), .int (sv_mu s)])), (h4, .inl (tyI D, 4, .inl (sv_se s)))]) rfl rfl rfl ?_
        refine g_callV (As := [.int (nI w), .int (nI (i_ % 12)), .int (nI (i_ / 12))]) (wr := [(f1, .inl (tyZ D, 144, .inl (bf F_))), (f2, .inl (tyI D, 144, .inl (nf (vR t))))]) O (kX1_isStill l D z f0 f1 f2 (vC t) w0 w1 w2 w3 w4 h0 h1 h2 h3 h4 h5 s w (i_ % 12) (i_ / 12) (by first | assumption | omega) (by first | assumption | omega) (by first | assumption | omega)) gX1_lines_X1_isStill rfl rfl rfl 3 (by decide +kernel) (by decide) (by decide) (q0 := 0) rfl rfl rfl [0, 3, 4, 5, 6, 7, 8, 9] [1, 2] rfl (by decide) rfl (by decide) (by decide) rfl rfl (Nat.le_of_ble_eq_true rfl) dX1_lines_24 (fun r_10 w_11 hp => ?_)
        obtain ⟨rfl, rfl⟩ := hp
        refine g_eq (st' := [.int (bB (stB s w (12 * (i_ / 12) + (i_ % 12)))), .int (nI i_), .ref f1]) (ws' := [(f1, .inl (tyZ D, 144, .inl (bf F_))), (f2, .inl (tyI D, 144, .inl (nf (vR t)))), (f0, .inr (1, [.ref w0, .ref h0, .ref f1, .ref f2, .int (nI (vC t))])), (w0, .inr (7, [.ref w1, .ref w2, .ref w3, .ref w4, .int (nI 48)])), (w1, .inl (tyI D, 48, .inl (nf tM))), (w2, .inl (tyI D, 48, .inl (nf tN))), (w3, .inl (tyI D, 48, .inl (nf tS))), (w4, .inl (tyI D, 84, .inl hT)), (h0, .inr (5, [.ref h1, .ref h2, .ref h3, .int (nI (sv_nc s)), .ref h4, .ref h5, .int (sv_la s), .int (sv_st s), .int (sv_sw s), .int (sv_fl s), .int (sv_sk s), .int (sv_mu s)])), (h4, .inl (tyI D, 4, .inl (sv_se s)))]) rfl rfl rfl ?_
        rw [show 12 * (i_ / 12) + i_ % 12 = i_ by omega]
        refine g_zastN (f' := (bf (upf F_ i_ (stB s w i_)))) (ws' := [(f1, .inl (tyZ D, 144, .inl (bf (upf F_ i_ (stB s w i_))))), (f2, .inl (tyI D, 144, .inl (nf (vR t)))), (f0, .inr (1, [.ref w0, .ref h0, .ref f1, .ref f2, .int (nI (vC t))])), (w0, .inr (7, [.ref w1, .ref w2, .ref w3, .ref w4, .int (nI 48)])), (w1, .inl (tyI D, 48, .inl (nf tM))), (w2, .inl (tyI D, 48, .inl (nf tN))), (w3, .inl (tyI D, 48, .inl (nf tS))), (w4, .inl (tyI D, 84, .inl hT)), (h0, .inr (5, [.ref h1, .ref h2, .ref h3, .int (nI (sv_nc s)), .ref h4, .ref h5, .int (sv_la s), .int (sv_st s), .int (sv_sw s), .int (sv_fl s), .int (sv_sk s), .int (sv_mu s)])), (h4, .inl (tyI D, 4, .inl (sv_se s)))]) O 0 rfl (by omega) (by omega) dX1_lines_27 (bf_upd _ _ _) rfl ?_
        refine g_iincN (L' := [(0, .ref f0), (1, .int (nI w)), (2, .int (nI (i_ + 1)))]) O dX1_lines_28 2 rfl (by decide) [1, 2, 0] rfl ?_
        refine g_goto (tgt := 2) O dX1_lines_31 (by decide) ?_
        refine g_perm (ws' := [(f0, .inr (1, [.ref w0, .ref h0, .ref f1, .ref f2, .int (nI (vC t))])), (f1, .inl (tyZ D, 144, .inl (bf (upf F_ i_ (stB s w i_))))), (f2, .inl (tyI D, 144, .inl (nf (vR t)))), (w0, .inr (7, [.ref w1, .ref w2, .ref w3, .ref w4, .int (nI 48)])), (w1, .inl (tyI D, 48, .inl (nf tM))), (w2, .inl (tyI D, 48, .inl (nf tN))), (w3, .inl (tyI D, 48, .inl (nf tS))), (w4, .inl (tyI D, 84, .inl hT)), (h0, .inr (5, [.ref h1, .ref h2, .ref h3, .int (nI (sv_nc s)), .ref h4, .ref h5, .int (sv_la s), .int (sv_st s), .int (sv_sw s), .int (sv_fl s), .int (sv_sk s), .int (sv_mu s)])), (h4, .inl (tyI D, 4, .inl (sv_se s)))]) [2, 0, 1, 3, 4, 5, 6, 7, 8, 9] rfl (by decide) ?_
        exact ih_ (i_ + 1) _ (by first | assumption | omega | rfl) (fun j hj => by by_cases h : j = i_; (subst h; exact upf_s _ _ _); (rw [upf_n h]; exact hF j (by omega))) (by omega)
  exact J2 _ 0 _ (Nat.zero_le _) (fun j hj => absurd hj (Nat.not_lt_zero _)) (Nat.lt_succ_self _)
theorem hiX1_init_X1 : ∀ w ∈ wsX10, w ∈ wsX1_init := by decide +kernel
set_option maxHeartbeats 2000000 in
set_option maxRecDepth 100000 in
/-- a new figure -/
theorem kX1_init (l : Launch) (D : va_G) (z : Nat × Nat × Nat) (f0 : Nat) (w0 : Nat) (h0 : Nat)  : CM l yX1_init wsX1_init ({ frames := 1, cells := 2, slots := 288, locals := 14 } : Room) D z [.ref f0, .ref w0, .ref h0] [(f0, .inr (1, [.null, .null, .null, .null, .int (nI 0)]))] (fun r_ w_ => ∃ (q0 : Nat), ∃ (q1 : Nat), r_ = none ∧ w_ = [(f0, .inr (1, [.ref w0, .ref h0, .ref q0, .ref q1, .int (nI (vC (mkV (fun _ => false) (fun _ => 0) 0)))])), (q0, .inl (tyZ D, 144, .inl (bf (vO (mkV (fun _ => false) (fun _ => 0) 0))))), (q1, .inl (tyI D, 144, .inl (nf (vR (mkV (fun _ => false) (fun _ => 0) 0)))))]) 2 288 := by
  refine CM_void (own := RX1) (cc := cX1_init) (maxL := 3) (L0 := [(0, .ref f0), (1, .ref w0), (2, .ref h0)]) (by decide) rfl rfl (Nat.le_of_ble_eq_true rfl) rfl (fun X O E => ?_)
  refine g_aload_n O dX1_init_0 0 rfl rfl ?_
  refine g_objInit O (by decide +kernel) (by decide +kernel) (by decide +kernel) (by decide) (Nat.le_of_ble_eq_true rfl) dX1_init_1 ?_
  refine g_aload_n O dX1_init_4 0 rfl rfl ?_
  refine g_sipush (x := (nI 144)) O dX1_init_5 (by decide +kernel) ?_
  refine g_newZ (N := 144) O (by decide +kernel) (nI_pos (by decide)) (nI_clamp (by decide)) (by decide) (by decide) (by decide) dX1_init_8 (fun q_1 => ?_)
  refine g_eq (ws' := [(f0, .inr (1, [.null, .null, .null, .null, .int (nI 0)])), (q_1, .inl (tyZ D, 144, .inl (bf (fun _ => false))))]) rfl rfl (by rfl) ?_
  refine g_putF (ws' := [(f0, .inr (1, [.null, .null, .ref q_1, .null, .int (nI 0)])), (q_1, .inl (tyZ D, 144, .inl (bf (fun _ => false))))]) O hiX1_init_X1 tyX1 tyX1_ok nmX1 0 rfl rfl 2 (by decide) (by decide +kernel) rfl rfl rfl (tyX1_ok 2 (by decide)) rfl rfl (Nat.le_of_ble_eq_true rfl) dX1_init_10 rfl ?_
  refine g_aload_n O dX1_init_13 0 rfl rfl ?_
  refine g_sipush (x := (nI 144)) O dX1_init_14 (by decide +kernel) ?_
  refine g_newI (N := 144) O (by decide +kernel) (nI_pos (by decide)) (nI_clamp (by decide)) (by decide) (by decide) (by decide) dX1_init_17 (fun q_2 => ?_)
  refine g_eq (ws' := [(f0, .inr (1, [.null, .null, .ref q_1, .null, .int (nI 0)])), (q_1, .inl (tyZ D, 144, .inl (bf (fun _ => false)))), (q_2, .inl (tyI D, 144, .inl (nf (fun _ => 0))))]) rfl rfl (by rfl) ?_
  refine g_putF (ws' := [(f0, .inr (1, [.null, .null, .ref q_1, .ref q_2, .int (nI 0)])), (q_1, .inl (tyZ D, 144, .inl (bf (fun _ => false)))), (q_2, .inl (tyI D, 144, .inl (nf (fun _ => 0))))]) O hiX1_init_X1 tyX1 tyX1_ok nmX1 0 rfl rfl 3 (by decide) (by decide +kernel) rfl rfl rfl (tyX1_ok 3 (by decide)) rfl rfl (Nat.le_of_ble_eq_true rfl) dX1_init_19 rfl ?_
  refine g_aload_n O dX1_init_22 0 rfl rfl ?_
  refine g_iconst (x := (nI 0)) O dX1_init_23 (by decide +kernel) ?_
  refine g_put (ws' := [(f0, .inr (1, [.null, .null, .ref q_1, .ref q_2, .int (nI 0)])), (q_1, .inl (tyZ D, 144, .inl (bf (fun _ => false)))), (q_2, .inl (tyI D, 144, .inl (nf (fun _ => 0))))]) O hiX1_init_X1 tyX1 tyX1_ok nmX1 0 rfl rfl 4 (by decide) (by decide +kernel) rfl (tyX1_ok 4 (by decide)) rfl rfl (Nat.le_of_ble_eq_true rfl) dX1_init_24 rfl ?_
  refine g_aload_n O dX1_init_27 0 rfl rfl ?_
  refine g_aload_n O dX1_init_28 1 rfl rfl ?_
  refine g_putF (ws' := [(f0, .inr (1, [.ref w0, .null, .ref q_1, .ref q_2, .int (nI 0)])), (q_1, .inl (tyZ D, 144, .inl (bf (fun _ => false)))), (q_2, .inl (tyI D, 144, .inl (nf (fun _ => 0))))]) O hiX1_init_X1 tyX1 tyX1_ok nmX1 0 rfl rfl 0 (by decide) (by decide +kernel) rfl rfl rfl (tyX1_ok 0 (by decide)) rfl rfl (Nat.le_of_ble_eq_true rfl) dX1_init_29 rfl ?_
  refine g_aload_n O dX1_init_32 0 rfl rfl ?_
  refine g_aload_n O dX1_init_33 2 rfl rfl ?_
  refine g_putF (ws' := [(f0, .inr (1, [.ref w0, .ref h0, .ref q_1, .ref q_2, .int (nI 0)])), (q_1, .inl (tyZ D, 144, .inl (bf (fun _ => false)))), (q_2, .inl (tyI D, 144, .inl (nf (fun _ => 0))))]) O hiX1_init_X1 tyX1 tyX1_ok nmX1 0 rfl rfl 1 (by decide) (by decide +kernel) rfl rfl rfl (tyX1_ok 1 (by decide)) rfl rfl (Nat.le_of_ble_eq_true rfl) dX1_init_34 rfl ?_
  exact E 37 _ _ dX1_init_37 (⟨_, _, rfl, rfl⟩)
