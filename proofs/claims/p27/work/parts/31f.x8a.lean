set_option maxHeartbeats 2000000 in
set_option maxRecDepth 100000 in
/-- set -/
theorem kX8_set_ok (l : Launch) (D : va_G) (z : Nat × Nat × Nat) (b0 : Nat) (w0 : Nat) (c0 : Nat) (f0 : Nat) (m0 : Nat) (t0 : Nat) (n0 : Nat) (hs : Bool) (y0 : Nat) (y1 : Nat) (a0 : Nat) (a1 : Nat) (a2 : Nat) (a3 : Nat) (e0 : Nat) (e1 : Nat) (e2 : Nat) (e3 : Nat) (e4 : Nat) (e5 : Nat) (e6 : Nat) (e7 : Nat) (e8 : Nat) (h0 : Nat) (h1 : Nat) (h2 : Nat) (h3 : Nat) (h4 : Nat) (h5 : Nat) (h6 : Nat) (h7 : Nat) (h8 : Nat) (o : Nat) (hd : Nat) (v : SV) (s : SV) (w : Nat) (x : Int32) (hw : w < 4) (hv1 : ¬ x < zL w) (hv2 : x ≤ zM w) (hb : ¬ x = sv_se s w) (ho : o < 4) (hh : hd ≤ 4) (hk : rf4 a0 a1 a2 a3 (rkN o hd) = some e0) (hps : sv_ps s ≤ 16) : CM l yX8_set wsX8_set ({ frames := 5, cells := 0, slots := 0, locals := 109 } : Room) D z [.ref b0, .int (nI w), .int x] [(b0, .inr (8, [.ref w0, .ref h0, .ref c0, .ref f0, .ref m0, .ref t0, .ref y0, .ref n0, .int (bB hs)])), (y0, .inr (2, [.ref y1, .int (nI o), .int (nI hd)])), (y1, .inl (tyO D, 4, .inr (.inr (.inr (.inr (rf5 a0 a1 a2 a3)))))), (e0, .inr (5, [.ref e1, .ref e2, .ref e3, .int (nI (sv_nc v)), .ref e4, .ref e5, .int (sv_la v), .int (sv_st v), .int (sv_sw v), .int (sv_fl v), .int (sv_sk v), .int (sv_mu v)])), (e1, .inl (tyI D, 144, .inl (nf (sv_g v)))), (e2, .inl (tyI D, 4, .inl (nf (sv_cc v)))), (e3, .inl (tyI D, 4, .inl (nf (sv_cr v)))), (e4, .inl (tyI D, 4, .inl (sv_se v))), (e5, .inr (4, [.int (nI 16), .ref e6, .ref e7, .ref e8, .int (nI (sv_ps v))])), (e6, .inl (tyI D, 16, .inl (nf (sv_fs v)))), (e7, .inl (tyI D, 16, .inl (nf (sv_fa v)))), (e8, .inl (tyI D, 16, .inl (nf (sv_fk v)))), (h0, .inr (5, [.ref h1, .ref h2, .ref h3, .int (nI (sv_nc s)), .ref h4, .ref h5, .int (sv_la s), .int (sv_st s), .int (sv_sw s), .int (sv_fl s), .int (sv_sk s), .int (sv_mu s)])), (h1, .inl (tyI D, 144, .inl (nf (sv_g s)))), (h2, .inl (tyI D, 4, .inl (nf (sv_cc s)))), (h3, .inl (tyI D, 4, .inl (nf (sv_cr s)))), (h4, .inl (tyI D, 4, .inl (sv_se s))), (h5, .inr (4, [.int (nI 16), .ref h6, .ref h7, .ref h8, .int (nI (sv_ps s))])), (h6, .inl (tyI D, 16, .inl (nf (sv_fs s)))), (h7, .inl (tyI D, 16, .inl (nf (sv_fa s)))), (h8, .inl (tyI D, 16, .inl (nf (sv_fk s))))] (fun r_ w_ => r_ = some (.int (sv_se s w)) ∧ w_ = [(b0, .inr (8, [.ref w0, .ref h0, .ref c0, .ref f0, .ref m0, .ref t0, .ref y0, .ref n0, .int (bB hs)])), (y0, .inr (2, [.ref y1, .int (nI (roN o hd)), .int (nI (rhN hd))])), (y1, .inl (tyO D, 4, .inr (.inr (.inr (.inr (rf5 a0 a1 a2 a3)))))), (e0, .inr (5, [.ref e1, .ref e2, .ref e3, .int (nI (sv_nc (cpS v s))), .ref e4, .ref e5, .int (sv_la (cpS v s)), .int (sv_st (cpS v s)), .int (sv_sw (cpS v s)), .int (sv_fl (cpS v s)), .int (sv_sk (cpS v s)), .int (sv_mu (cpS v s))])), (e1, .inl (tyI D, 144, .inl (nf (sv_g (cpS v s))))), (e2, .inl (tyI D, 4, .inl (nf (sv_cc (cpS v s))))), (e3, .inl (tyI D, 4, .inl (nf (sv_cr (cpS v s))))), (e4, .inl (tyI D, 4, .inl (sv_se (cpS v s)))), (e5, .inr (4, [.int (nI 16), .ref e6, .ref e7, .ref e8, .int (nI (sv_ps (cpS v s)))])), (e6, .inl (tyI D, 16, .inl (nf (sv_fs (cpS v s))))), (e7, .inl (tyI D, 16, .inl (nf (sv_fa (cpS v s))))), (e8, .inl (tyI D, 16, .inl (nf (sv_fk (cpS v s))))), (h0, .inr (5, [.ref h1, .ref h2, .ref h3, .int (nI (sv_nc s)), .ref h4, .ref h5, .int (sv_la s), .int (sv_st s), .int (sv_sw s), .int (sv_fl s), .int (sv_sk s), .int (sv_mu s)])), (h1, .inl (tyI D, 144, .inl (nf (sv_g s)))), (h2, .inl (tyI D, 4, .inl (nf (sv_cc s)))), (h3, .inl (tyI D, 4, .inl (nf (sv_cr s)))), (h4, .inl (tyI D, 4, .inl (upd (sv_se s) w x))), (h5, .inr (4, [.int (nI 16), .ref h6, .ref h7, .ref h8, .int (nI (sv_ps s))])), (h6, .inl (tyI D, 16, .inl (nf (sv_fs s)))), (h7, .inl (tyI D, 16, .inl (nf (sv_fa s)))), (h8, .inl (tyI D, 16, .inl (nf (sv_fk s))))]) 0 0 := by
  refine CM_int (own := RX8) (cc := cX8_set) (maxL := 4) (L0 := [(0, .ref b0), (1, .int (nI w)), (2, .int x)]) (by decide) rfl rfl (Nat.le_of_ble_eq_true rfl) rfl (fun X O E => ?_)
  refine g_iload_n O dX8_set_0 1 rfl rfl ?_
  refine g_if_ltN (tgt := 9) O (by omega) dX8_set_1 (by decide) ?_
  refine g_iload_n O dX8_set_4 1 rfl rfl ?_
  refine g_iconst (x := (nI 4)) O dX8_set_5 (by decide +kernel) ?_
  refine g_icmp_ltN (tgt := 12) O (by omega) (by omega) dX8_set_6 (by decide) (fun c_2 => ?_) (fun c_2 => (by exfalso; omega))
  refine g_iload_n O dX8_set_12 2 rfl rfl ?_
  refine g_getsL O (by decide +kernel) dX8_set_13 ?_
  refine g_iload_n O dX8_set_16 1 rfl rfl ?_
  refine g_saldL O (by omega) dX8_set_17 ?_
  refine g_icmp_lt (tgt := 30) O dX8_set_18 (by decide) (fun c_3 => absurd c_3 hv1) (fun c_3 => ?_)
  refine g_iload_n O dX8_set_21 2 rfl rfl ?_
  refine g_getsM O (by decide +kernel) dX8_set_22 ?_
  refine g_iload_n O dX8_set_25 1 rfl rfl ?_
  refine g_saldM O (by omega) dX8_set_26 ?_
  refine g_icmp_le (tgt := 33) O dX8_set_27 (by decide) (fun c_4 => ?_) (fun c_4 => absurd c_4 (fun h => h hv2))
  refine g_aload_n O dX8_set_33 0 rfl rfl ?_
  refine g_get O hiX8_set_X8 0 rfl rfl 1 (by decide) (by decide +kernel) rfl dX8_set_34 ?_
  refine g_getN O hiX8_set_X5 12 rfl rfl 4 (by decide) 21 rfl rfl dX8_set_37 ?_
  refine g_iload_n O dX8_set_40 1 rfl rfl ?_
  refine g_ialdN O 16 rfl (by omega) (by omega) dX8_set_41 ?_
  refine g_istore_n (L' := [(0, .ref b0), (1, .int (nI w)), (2, .int x), (3, .int ((sv_se s) w))]) O dX8_set_42 rfl (by decide) [1, 2, 3, 0] rfl ?_
  refine g_iload_n O dX8_set_43 2 rfl rfl ?_
  refine g_iload_n O dX8_set_44 3 rfl rfl ?_
  refine g_icmp_ne (tgt := 51) O dX8_set_45 (by decide) (fun c_5 => ?_) (fun c_5 => absurd c_5 hb)
  refine g_aload_n O dX8_set_51 0 rfl rfl ?_
  refine g_get O hiX8_set_X8 0 rfl rfl 6 (by decide) (by decide +kernel) rfl dX8_set_52 ?_
  refine g_aload_n O dX8_set_55 0 rfl rfl ?_
  refine g_get O hiX8_set_X8 0 rfl rfl 1 (by decide) (by decide +kernel) rfl dX8_set_56 ?_
  refine g_callV (As := [.ref h0]) (wr := [(b0, .inr (8, [.ref w0, .ref h0, .ref c0, .ref f0, .ref m0, .ref t0, .ref y0, .ref n0, .int (bB hs)]))]) O (kX2_record l D z y0 y1 a0 a1 a2 a3 e0 e1 e2 e3 e4 e5 e6 e7 e8 h0 h1 h2 h3 h4 h5 h6 h7 h8 o hd v s (by first | assumption | omega) (by first | assumption | omega) (by first | assumption | omega) (by first | assumption | omega)) gX8_set_X2_record rfl rfl rfl 1 (by decide +kernel) (by decide) (by decide) (q0 := 0) rfl rfl rfl [1, 2, 3, 4, 5, 6, 7, 8, 9, 10, 11, 12, 13, 14, 15, 16, 17, 18, 19, 20] [0] rfl (by decide) rfl (by decide) (by decide) rfl rfl (Nat.le_of_ble_eq_true rfl) dX8_set_59 (fun r_6 w_7 hp => ?_)
  obtain ⟨rfl, rfl⟩ := hp
  refine g_eq (st' := []) (ws' := [(b0, .inr (8, [.ref w0, .ref h0, .ref c0, .ref f0, .ref m0, .ref t0, .ref y0, .ref n0, .int (bB hs)])), (y0, .inr (2, [.ref y1, .int (nI (roN o hd)), .int (nI (rhN hd))])), (y1, .inl (tyO D, 4, .inr (.inr (.inr (.inr (rf5 a0 a1 a2 a3)))))), (e0, .inr (5, [.ref e1, .ref e2, .ref e3, .int (nI (sv_nc (cpS v s))), .ref e4, .ref e5, .int (sv_la (cpS v s)), .int (sv_st (cpS v s)), .int (sv_sw (cpS v s)), .int (sv_fl (cpS v s)), .int (sv_sk (cpS v s)), .int (sv_mu (cpS v s))])), (e1, .inl (tyI D, 144, .inl (nf (sv_g (cpS v s))))), (e2, .inl (tyI D, 4, .inl (nf (sv_cc (cpS v s))))), (e3, .inl (tyI D, 4, .inl (nf (sv_cr (cpS v s))))), (e4, .inl (tyI D, 4, .inl (sv_se (cpS v s)))), (e5, .inr (4, [.int (nI 16), .ref e6, .ref e7, .ref e8, .int (nI (sv_ps (cpS v s)))])), (e6, .inl (tyI D, 16, .inl (nf (sv_fs (cpS v s))))), (e7, .inl (tyI D, 16, .inl (nf (sv_fa (cpS v s))))), (e8, .inl (tyI D, 16, .inl (nf (sv_fk (cpS v s))))), (h0, .inr (5, [.ref h1, .ref h2, .ref h3, .int (nI (sv_nc s)), .ref h4, .ref h5, .int (sv_la s), .int (sv_st s), .int (sv_sw s), .int (sv_fl s), .int (sv_sk s), .int (sv_mu s)])), (h1, .inl (tyI D, 144, .inl (nf (sv_g s)))), (h2, .inl (tyI D, 4, .inl (nf (sv_cc s)))), (h3, .inl (tyI D, 4, .inl (nf (sv_cr s)))), (h4, .inl (tyI D, 4, .inl (sv_se s))), (h5, .inr (4, [.int (nI 16), .ref h6, .ref h7, .ref h8, .int (nI (sv_ps s))])), (h6, .inl (tyI D, 16, .inl (nf (sv_fs s)))), (h7, .inl (tyI D, 16, .inl (nf (sv_fa s)))), (h8, .inl (tyI D, 16, .inl (nf (sv_fk s))))]) rfl rfl rfl ?_
  refine g_aload_n O dX8_set_62 0 rfl rfl ?_
  refine g_get O hiX8_set_X8 0 rfl rfl 1 (by decide) (by decide +kernel) rfl dX8_set_63 ?_
  refine g_getN O hiX8_set_X5 12 rfl rfl 4 (by decide) 21 rfl rfl dX8_set_66 ?_
  refine g_iload_n O dX8_set_69 1 rfl rfl ?_
  refine g_iload_n O dX8_set_70 2 rfl rfl ?_
  refine g_iastN (f' := (upd (sv_se s) w x)) (ws' := [(b0, .inr (8, [.ref w0, .ref h0, .ref c0, .ref f0, .ref m0, .ref t0, .ref y0, .ref n0, .int (bB hs)])), (y0, .inr (2, [.ref y1, .int (nI (roN o hd)), .int (nI (rhN hd))])), (y1, .inl (tyO D, 4, .inr (.inr (.inr (.inr (rf5 a0 a1 a2 a3)))))), (e0, .inr (5, [.ref e1, .ref e2, .ref e3, .int (nI (sv_nc (cpS v s))), .ref e4, .ref e5, .int (sv_la (cpS v s)), .int (sv_st (cpS v s)), .int (sv_sw (cpS v s)), .int (sv_fl (cpS v s)), .int (sv_sk (cpS v s)), .int (sv_mu (cpS v s))])), (e1, .inl (tyI D, 144, .inl (nf (sv_g (cpS v s))))), (e2, .inl (tyI D, 4, .inl (nf (sv_cc (cpS v s))))), (e3, .inl (tyI D, 4, .inl (nf (sv_cr (cpS v s))))), (e4, .inl (tyI D, 4, .inl (sv_se (cpS v s)))), (e5, .inr (4, [.int (nI 16), .ref e6, .ref e7, .ref e8, .int (nI (sv_ps (cpS v s)))])), (e6, .inl (tyI D, 16, .inl (nf (sv_fs (cpS v s))))), (e7, .inl (tyI D, 16, .inl (nf (sv_fa (cpS v s))))), (e8, .inl (tyI D, 16, .inl (nf (sv_fk (cpS v s))))), (h0, .inr (5, [.ref h1, .ref h2, .ref h3, .int (nI (sv_nc s)), .ref h4, .ref h5, .int (sv_la s), .int (sv_st s), .int (sv_sw s), .int (sv_fl s), .int (sv_sk s), .int (sv_mu s)])), (h1, .inl (tyI D, 144, .inl (nf (sv_g s)))), (h2, .inl (tyI D, 4, .inl (nf (sv_cc s)))), (h3, .inl (tyI D, 4, .inl (nf (sv_cr s)))), (h4, .inl (tyI D, 4, .inl (upd (sv_se s) w x))), (h5, .inr (4, [.int (nI 16), .ref h6, .ref h7, .ref h8, .int (nI (sv_ps s))])), (h6, .inl (tyI D, 16, .inl (nf (sv_fs s)))), (h7, .inl (tyI D, 16, .inl (nf (sv_fa s)))), (h8, .inl (tyI D, 16, .inl (nf (sv_fk s))))]) O 16 rfl (by omega) (by omega) dX8_set_71 rfl rfl ?_
  refine g_iload_n O dX8_set_72 3 rfl rfl ?_
  exact E 73 _ ((sv_se s) w) _ dX8_set_73 ⟨rfl, rfl⟩
set_option maxHeartbeats 2000000 in
set_option maxRecDepth 100000 in
theorem kX8_bow_b1 (l : Launch) (D : va_G) (z : Nat × Nat × Nat) (b0 : Nat) (w0 : Nat) (c0 : Nat) (f0 : Nat) (m0 : Nat) (t0 : Nat) (n0 : Nat) (hs : Bool) (y0 : Nat) (h0 : Nat) (x : Int32) (y : Int32) (k : Int32) (hb : (rgB x 4 && rgB y 12) = false) : CM l yX8_bow wsX8_bow ({ frames := 5, cells := 0, slots := 0, locals := 109 } : Room) D z [.ref b0, .int x, .int y, .int k] [(b0, .inr (8, [.ref w0, .ref h0, .ref c0, .ref f0, .ref m0, .ref t0, .ref y0, .ref n0, .int (bB hs)]))] (fun r_ w_ => r_ = some (.int (-1)) ∧ w_ = [(b0, .inr (8, [.ref w0, .ref h0, .ref c0, .ref f0, .ref m0, .ref t0, .ref y0, .ref n0, .int (bB hs)]))]) 0 0 := by
  refine CM_int (own := RX8) (cc := cX8_bow) (maxL := 4) (L0 := [(0, .ref b0), (1, .int x), (2, .int y), (3, .int k)]) (by decide) rfl rfl (Nat.le_of_ble_eq_true rfl) rfl (fun X O E => ?_)
  refine g_iload_n O dX8_bow_0 1 rfl rfl ?_
  refine g_iload_n O dX8_bow_1 2 rfl rfl ?_
  refine g_callS (As := [.int x, .int y]) (wr := [(b0, .inr (8, [.ref w0, .ref h0, .ref c0, .ref f0, .ref m0, .ref t0, .ref y0, .ref n0, .int (bB hs)]))]) O (kX8_isBow l D z x y ) gX8_bow_X8_isBow rfl rfl rfl 2 (by decide +kernel) (by decide) (by decide) [] [0] rfl (by decide) rfl (by decide) (by decide) rfl rfl (Nat.le_of_ble_eq_true rfl) dX8_bow_2 (fun r_1 w_2 hp => ?_)
  obtain ⟨rfl, rfl⟩ := hp
  refine g_eq (st' := [.int (bB (rgB x 4 && rgB y 12))]) (ws' := [(b0, .inr (8, [.ref w0, .ref h0, .ref c0, .ref f0, .ref m0, .ref t0, .ref y0, .ref n0, .int (bB hs)]))]) rfl rfl rfl ?_
  refine g_if_neB (tgt := 10) O dX8_bow_5 (by decide) (fun c_3 => absurd c_3 (by rw [hb]; decide)) (fun c_3 => ?_)
  refine g_iconst (x := (-1)) O dX8_bow_8 (by decide +kernel) ?_
  exact E 9 _ (-1) _ dX8_bow_9 ⟨rfl, rfl⟩
set_option maxHeartbeats 2000000 in
set_option maxRecDepth 100000 in
theorem kX8_bow_b2 (l : Launch) (D : va_G) (z : Nat × Nat × Nat) (b0 : Nat) (w0 : Nat) (c0 : Nat) (f0 : Nat) (m0 : Nat) (t0 : Nat) (n0 : Nat) (hs : Bool) (y0 : Nat) (h0 : Nat) (x : Nat) (y : Nat) (k : Int32) (hx : x < 4) (hy : y < 12) (hb : k < nI 1 ∨ nI 20 < k) : CM l yX8_bow wsX8_bow ({ frames := 5, cells := 0, slots := 0, locals := 109 } : Room) D z [.ref b0, .int (nI x), .int (nI y), .int k] [(b0, .inr (8, [.ref w0, .ref h0, .ref c0, .ref f0, .ref m0, .ref t0, .ref y0, .ref n0, .int (bB hs)]))] (fun r_ w_ => r_ = some (.int (-2)) ∧ w_ = [(b0, .inr (8, [.ref w0, .ref h0, .ref c0, .ref f0, .ref m0, .ref t0, .ref y0, .ref n0, .int (bB hs)]))]) 0 0 := by
  refine CM_int (own := RX8) (cc := cX8_bow) (maxL := 4) (L0 := [(0, .ref b0), (1, .int (nI x)), (2, .int (nI y)), (3, .int k)]) (by decide) rfl rfl (Nat.le_of_ble_eq_true rfl) rfl (fun X O E => ?_)
  refine g_iload_n O dX8_bow_0 1 rfl rfl ?_
  refine g_iload_n O dX8_bow_1 2 rfl rfl ?_
  refine g_callS (As := [.int (nI x), .int (nI y)]) (wr := [(b0, .inr (8, [.ref w0, .ref h0, .ref c0, .ref f0, .ref m0, .ref t0, .ref y0, .ref n0, .int (bB hs)]))]) O (kX8_isBow l D z (nI x) (nI y) ) gX8_bow_X8_isBow rfl rfl rfl 2 (by decide +kernel) (by decide) (by decide) [] [0] rfl (by decide) rfl (by decide) (by decide) rfl rfl (Nat.le_of_ble_eq_true rfl) dX8_bow_2 (fun r_1 w_2 hp => ?_)
  obtain ⟨rfl, rfl⟩ := hp
  refine g_eq (st' := [.int (bB (rgB (nI x) 4 && rgB (nI y) 12))]) (ws' := [(b0, .inr (8, [.ref w0, .ref h0, .ref c0, .ref f0, .ref m0, .ref t0, .ref y0, .ref n0, .int (bB hs)]))]) rfl rfl rfl ?_
  refine g_if_neB (tgt := 10) O dX8_bow_5 (by decide) (fun c_3 => ?_) (fun c_3 => absurd c_3 (by rw [rgB_t hx (by decide), rgB_t hy (by decide)]; decide))
  refine g_iload_n O dX8_bow_10 3 rfl rfl ?_
  refine g_iconst (x := (nI 1)) O dX8_bow_11 (by decide +kernel) ?_
  refine g_icmp_lt (tgt := 21) O dX8_bow_12 (by decide) (fun c_4 => ?_) (fun c_4 => ?_)
  ·
    refine g_bipush (x := (-2)) O dX8_bow_21 (by decide +kernel) ?_
    exact E 23 _ (-2) _ dX8_bow_23 ⟨rfl, rfl⟩
  ·
    refine g_iload_n O dX8_bow_15 3 rfl rfl ?_
    refine g_bipush (x := (nI 20)) O dX8_bow_16 (by decide +kernel) ?_
    refine g_icmp_le (tgt := 24) O dX8_bow_18 (by decide) (fun c_5 => (by rcases hb with h | h; exact absurd h ‹_›; exact absurd c_5 (Int32.not_le.mpr h))) (fun c_5 => ?_)
    refine g_bipush (x := (-2)) O dX8_bow_21 (by decide +kernel) ?_
    exact E 23 _ (-2) _ dX8_bow_23 ⟨rfl, rfl⟩
theorem hiX8_bow_X4 : ∀ w ∈ wsX40, w ∈ wsX8_bow := by intro w h; simp only [wsX8_bow, List.mem_append, List.mem_cons, h, or_true, true_or]
theorem hiX8_bow_X5 : ∀ w ∈ wsX50, w ∈ wsX8_bow := by intro w h; simp only [wsX8_bow, List.mem_append, List.mem_cons, h, or_true, true_or]
theorem hiX8_bow_X8 : ∀ w ∈ wsX80, w ∈ wsX8_bow := by intro w h; simp only [wsX8_bow, List.mem_append, List.mem_cons, h, or_true, true_or]
set_option maxHeartbeats 2000000 in
set_option maxRecDepth 100000 in
theorem kX8_bow_b3 (l : Launch) (D : va_G) (z : Nat × Nat × Nat) (b0 : Nat) (w0 : Nat) (c0 : Nat) (f0 : Nat) (m0 : Nat) (t0 : Nat) (n0 : Nat) (hs : Bool) (y0 : Nat) (h0 : Nat) (h1 : Nat) (h2 : Nat) (h3 : Nat) (h4 : Nat) (h5 : Nat) (h6 : Nat) (h7 : Nat) (h8 : Nat) (s : SV) (x : Nat) (y : Nat) (k : Nat) (hx : x < 4) (hy : y < 12) (hk1 : 1 ≤ k) (hk2 : k ≤ 20) (hps : sv_ps s ≤ 16) (hb : 16 ≤ sv_ps s) : CM l yX8_bow wsX8_bow ({ frames := 5, cells := 0, slots := 0, locals := 109 } : Room) D z [.ref b0, .int (nI x), .int (nI y), .int (nI k)] [(b0, .inr (8, [.ref w0, .ref h0, .ref c0, .ref f0, .ref m0, .ref t0, .ref y0, .ref n0, .int (bB hs)])), (h0, .inr (5, [.ref h1, .ref h2, .ref h3, .int (nI (sv_nc s)), .ref h4, .ref h5, .int (sv_la s), .int (sv_st s), .int (sv_sw s), .int (sv_fl s), .int (sv_sk s), .int (sv_mu s)])), (h5, .inr (4, [.int (nI 16), .ref h6, .ref h7, .ref h8, .int (nI (sv_ps s))])), (h6, .inl (tyI D, 16, .inl (nf (sv_fs s)))), (h7, .inl (tyI D, 16, .inl (nf (sv_fa s)))), (h8, .inl (tyI D, 16, .inl (nf (sv_fk s))))] (fun r_ w_ => r_ = some (.int (-3)) ∧ w_ = [(b0, .inr (8, [.ref w0, .ref h0, .ref c0, .ref f0, .ref m0, .ref t0, .ref y0, .ref n0, .int (bB hs)])), (h0, .inr (5, [.ref h1, .ref h2, .ref h3, .int (nI (sv_nc s)), .ref h4, .ref h5, .int (sv_la s), .int (sv_st s), .int (sv_sw s), .int (sv_fl s), .int (sv_sk s), .int (sv_mu s)])), (h5, .inr (4, [.int (nI 16), .ref h6, .ref h7, .ref h8, .int (nI (sv_ps s))])), (h6, .inl (tyI D, 16, .inl (nf (sv_fs s)))), (h7, .inl (tyI D, 16, .inl (nf (sv_fa s)))), (h8, .inl (tyI D, 16, .inl (nf (sv_fk s))))]) 0 0 := by
  refine CM_int (own := RX8) (cc := cX8_bow) (maxL := 4) (L0 := [(0, .ref b0), (1, .int (nI x)), (2, .int (nI y)), (3, .int (nI k))]) (by decide) rfl rfl (Nat.le_of_ble_eq_true rfl) rfl (fun X O E => ?_)
  refine g_iload_n O dX8_bow_0 1 rfl rfl ?_
  refine g_iload_n O dX8_bow_1 2 rfl rfl ?_
  refine g_callS (As := [.int (nI x), .int (nI y)]) (wr := [(b0, .inr (8, [.ref w0, .ref h0, .ref c0, .ref f0, .ref m0, .ref t0, .ref y0, .ref n0, .int (bB hs)])), (h0, .inr (5, [.ref h1, .ref h2, .ref h3, .int (nI (sv_nc s)), .ref h4, .ref h5, .int (sv_la s), .int (sv_st s), .int (sv_sw s), .int (sv_fl s), .int (sv_sk s), .int (sv_mu s)])), (h5, .inr (4, [.int (nI 16), .ref h6, .ref h7, .ref h8, .int (nI (sv_ps s))])), (h6, .inl (tyI D, 16, .inl (nf (sv_fs s)))), (h7, .inl (tyI D, 16, .inl (nf (sv_fa s)))), (h8, .inl (tyI D, 16, .inl (nf (sv_fk s))))]) O (kX8_isBow l D z (nI x) (nI y) ) gX8_bow_X8_isBow rfl rfl rfl 2 (by decide +kernel) (by decide) (by decide) [] [0, 1, 2, 3, 4, 5] rfl (by decide) rfl (by decide) (by decide) rfl rfl (Nat.le_of_ble_eq_true rfl) dX8_bow_2 (fun r_1 w_2 hp => ?_)
  obtain ⟨rfl, rfl⟩ := hp
  refine g_eq (st' := [.int (bB (rgB (nI x) 4 && rgB (nI y) 12))]) (ws' := [(b0, .inr (8, [.ref w0, .ref h0, .ref c0, .ref f0, .ref m0, .ref t0, .ref y0, .ref n0, .int (bB hs)])), (h0, .inr (5, [.ref h1, .ref h2, .ref h3, .int (nI (sv_nc s)), .ref h4, .ref h5, .int (sv_la s), .int (sv_st s), .int (sv_sw s), .int (sv_fl s), .int (sv_sk s), .int (sv_mu s)])), (h5, .inr (4, [.int (nI 16), .ref h6, .ref h7, .ref h8, .int (nI (sv_ps s))])), (h6, .inl (tyI D, 16, .inl (nf (sv_fs s)))), (h7, .inl (tyI D, 16, .inl (nf (sv_fa s)))), (h8, .inl (tyI D, 16, .inl (nf (sv_fk s))))]) rfl rfl rfl ?_
  refine g_if_neB (tgt := 10) O dX8_bow_5 (by decide) (fun c_3 => ?_) (fun c_3 => absurd c_3 (by rw [rgB_t hx (by decide), rgB_t hy (by decide)]; decide))
  refine g_iload_n O dX8_bow_10 3 rfl rfl ?_
  refine g_iconst (x := (nI 1)) O dX8_bow_11 (by decide +kernel) ?_
  refine g_icmp_ltN (tgt := 21) O (by omega) (by omega) dX8_bow_12 (by decide) (fun c_4 => (by exfalso; omega)) (fun c_4 => ?_)
  refine g_iload_n O dX8_bow_15 3 rfl rfl ?_
  refine g_bipush (x := (nI 20)) O dX8_bow_16 (by decide +kernel) ?_
  refine g_icmp_leN (tgt := 24) O (by omega) (by omega) dX8_bow_18 (by decide) (fun c_5 => ?_) (fun c_5 => (by exfalso; omega))
  refine g_aload_n O dX8_bow_24 0 rfl rfl ?_
  refine g_get O hiX8_bow_X8 0 rfl rfl 1 (by decide) (by decide +kernel) rfl dX8_bow_25 ?_
  refine g_getN O hiX8_bow_X5 1 rfl rfl 5 (by decide) 22 rfl rfl dX8_bow_28 ?_
  refine g_getN O hiX8_bow_X4 2 rfl rfl 4 (by decide) 7 rfl rfl dX8_bow_31 ?_
  refine g_bipush (x := (nI 16)) O dX8_bow_34 (by decide +kernel) ?_
  refine g_icmp_ltN (tgt := 42) O (by omega) (by omega) dX8_bow_36 (by decide) (fun c_6 => (by exfalso; omega)) (fun c_6 => ?_)
  refine g_bipush (x := (-3)) O dX8_bow_39 (by decide +kernel) ?_
  exact E 41 _ (-3) _ dX8_bow_41 ⟨rfl, rfl⟩
