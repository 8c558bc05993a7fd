set_option maxHeartbeats 2000000 in
set_option maxRecDepth 100000 in
theorem kX8_waiting_3 (l : Launch) (D : va_G) (z : Nat × Nat × Nat) (b0 : Nat) (w0 : Nat) (c0 : Nat) (f0 : Nat) (m0 : Nat) (t0 : Nat) (n0 : Nat) (hs : Bool) (y0 : Nat) (c1 : Nat) (c2 : Nat) (pn : Nat) (w1 : Nat) (w2 : Nat) (w3 : Nat) (w4 : Nat) (h0 : Nat) (h1 : Nat) (h2 : Nat) (h3 : Nat) (h4 : Nat) (h5 : Nat) (h6 : Nat) (h7 : Nat) (h8 : Nat) (s : SV) (j : Nat) (hnc : sv_nc s ≤ 4) (hcc : ∀ j, j < sv_nc s → sv_cc s j < 12 ∧ sv_cr s j < 12) (hps : sv_ps s ≤ 16) (hpc : ∀ j, j < sv_ps s → sv_fs s j < 4 ∧ sv_fa s j < 12 ∧ 1 ≤ sv_fk s j ∧ sv_fk s j ≤ 20) (hb : j < sv_ps s) : CM l yX8_waiting wsX8_waiting ({ frames := 5, cells := 0, slots := 0, locals := 117 } : Room) D z [.ref b0, .int (nI j), .int (nI 3)] [(b0, .inr (8, [.ref w0, .ref h0, .ref c0, .ref f0, .ref m0, .ref t0, .ref y0, .ref n0, .int (bB hs)])), (c0, .inr (0, [.ref w0, .ref h0, .ref c1, .int (nI pn), .ref c2])), (w0, .inr (7, [.ref w1, .ref w2, .ref w3, .ref w4, .int (nI 48)])), (w1, .inl (tyI D, 48, .inl (nf tM))), (w2, .inl (tyI D, 48, .inl (nf tN))), (w3, .inl (tyI D, 48, .inl (nf tS))), (w4, .inl (tyI D, 84, .inl hT)), (h0, .inr (5, [.ref h1, .ref h2, .ref h3, .int (nI (sv_nc s)), .ref h4, .ref h5, .int (sv_la s), .int (sv_st s), .int (sv_sw s), .int (sv_fl s), .int (sv_sk s), .int (sv_mu s)])), (h2, .inl (tyI D, 4, .inl (nf (sv_cc s)))), (h3, .inl (tyI D, 4, .inl (nf (sv_cr s)))), (h4, .inl (tyI D, 4, .inl (sv_se s))), (h5, .inr (4, [.int (nI 16), .ref h6, .ref h7, .ref h8, .int (nI (sv_ps s))])), (h6, .inl (tyI D, 16, .inl (nf (sv_fs s)))), (h7, .inl (tyI D, 16, .inl (nf (sv_fa s)))), (h8, .inl (tyI D, 16, .inl (nf (sv_fk s))))] (fun r_ w_ => r_ = some (.int (laM (orM (wyO s (bpN (sv_fs s j) (sv_fa s j)))))) ∧ w_ = [(b0, .inr (8, [.ref w0, .ref h0, .ref c0, .ref f0, .ref m0, .ref t0, .ref y0, .ref n0, .int (bB hs)])), (c0, .inr (0, [.ref w0, .ref h0, .ref c1, .int (nI pn), .ref c2])), (w0, .inr (7, [.ref w1, .ref w2, .ref w3, .ref w4, .int (nI 48)])), (w1, .inl (tyI D, 48, .inl (nf tM))), (w2, .inl (tyI D, 48, .inl (nf tN))), (w3, .inl (tyI D, 48, .inl (nf tS))), (w4, .inl (tyI D, 84, .inl hT)), (h0, .inr (5, [.ref h1, .ref h2, .ref h3, .int (nI (sv_nc s)), .ref h4, .ref h5, .int (sv_la s), .int (sv_st s), .int (sv_sw s), .int (sv_fl s), .int (sv_sk s), .int (sv_mu s)])), (h2, .inl (tyI D, 4, .inl (nf (sv_cc s)))), (h3, .inl (tyI D, 4, .inl (nf (sv_cr s)))), (h4, .inl (tyI D, 4, .inl (sv_se s))), (h5, .inr (4, [.int (nI 16), .ref h6, .ref h7, .ref h8, .int (nI (sv_ps s))])), (h6, .inl (tyI D, 16, .inl (nf (sv_fs s)))), (h7, .inl (tyI D, 16, .inl (nf (sv_fa s)))), (h8, .inl (tyI D, 16, .inl (nf (sv_fk s))))]) 0 0 := by
  refine CM_int (own := RX8) (cc := cX8_waiting) (maxL := 3) (L0 := [(0, .ref b0), (1, .int (nI j)), (2, .int (nI 3))]) (by decide) rfl rfl (Nat.le_of_ble_eq_true rfl) rfl (fun X O E => ?_)
  have hpj := hpc j hb
  refine g_iload_n O dX8_waiting_0 1 rfl rfl ?_
  refine g_if_ltN (tgt := 13) O (by omega) dX8_waiting_1 (by decide) ?_
  refine g_iload_n O dX8_waiting_4 2 rfl rfl ?_
  refine g_if_ltN (tgt := 13) O (by omega) dX8_waiting_5 (by decide) ?_
  refine g_iload_n O dX8_waiting_8 2 rfl rfl ?_
  refine g_iconst (x := (nI 3)) O dX8_waiting_9 (by decide +kernel) ?_
  refine g_icmp_leN (tgt := 16) O (by omega) (by omega) dX8_waiting_10 (by decide) (fun c_3 => ?_) (fun c_3 => absurd c_3 (by decide))
  refine g_iload_n O dX8_waiting_16 1 rfl rfl ?_
  refine g_aload_n O dX8_waiting_17 0 rfl rfl ?_
  refine g_get O hiX8_waiting_X8 0 rfl rfl 1 (by decide) (by decide +kernel) rfl dX8_waiting_18 ?_
  refine g_getN O hiX8_waiting_X5 7 rfl rfl 5 (by decide) 22 rfl rfl dX8_waiting_21 ?_
  refine g_getN O hiX8_waiting_X4 11 rfl rfl 4 (by decide) 7 rfl rfl dX8_waiting_24 ?_
  refine g_icmp_ltN (tgt := 33) O (by omega) (by omega) dX8_waiting_27 (by decide) (fun c_4 => ?_) (fun c_4 => (by exfalso; omega))
  refine g_iload_n O dX8_waiting_33 2 rfl rfl ?_
  refine g_tableO (tgt := 99) (N := 3) O dX8_waiting_34 (Or.inr (by decide +kernel)) (by decide) (by decide) (by decide) ?_
  refine g_aload_n O dX8_waiting_99 0 rfl rfl ?_
  refine g_get O hiX8_waiting_X8 0 rfl rfl 2 (by decide) (by decide +kernel) rfl dX8_waiting_100 ?_
  refine g_aload_n O dX8_waiting_103 0 rfl rfl ?_
  refine g_get O hiX8_waiting_X8 0 rfl rfl 1 (by decide) (by decide +kernel) rfl dX8_waiting_104 ?_
  refine g_getN O hiX8_waiting_X5 7 rfl rfl 5 (by decide) 22 rfl rfl dX8_waiting_107 ?_
  refine g_getN O hiX8_waiting_X4 11 rfl rfl 1 (by decide) 3 rfl rfl dX8_waiting_110 ?_
  refine g_iload_n O dX8_waiting_113 1 rfl rfl ?_
  refine g_ialdN O 12 rfl (by omega) (by omega) dX8_waiting_114 ?_
  refine g_aload_n O dX8_waiting_115 0 rfl rfl ?_
  refine g_get O hiX8_waiting_X8 0 rfl rfl 1 (by decide) (by decide +kernel) rfl dX8_waiting_116 ?_
  refine g_getN O hiX8_waiting_X5 7 rfl rfl 5 (by decide) 22 rfl rfl dX8_waiting_119 ?_
  refine g_getN O hiX8_waiting_X4 11 rfl rfl 2 (by decide) 4 rfl rfl dX8_waiting_122 ?_
  refine g_iload_n O dX8_waiting_125 1 rfl rfl ?_
  refine g_ialdN O 13 rfl (by omega) (by omega) dX8_waiting_126 ?_
  refine g_callV (As := [.int (nI ((sv_fs s) j)), .int (nI ((sv_fa s) j))]) (wr := [(b0, .inr (8, [.ref w0, .ref h0, .ref c0, .ref f0, .ref m0, .ref t0, .ref y0, .ref n0, .int (bB hs)])), (h5, .inr (4, [.int (nI 16), .ref h6, .ref h7, .ref h8, .int (nI (sv_ps s))])), (h6, .inl (tyI D, 16, .inl (nf (sv_fs s)))), (h7, .inl (tyI D, 16, .inl (nf (sv_fa s)))), (h8, .inl (tyI D, 16, .inl (nf (sv_fk s))))]) O (kX0_wayFor l D z c0 c1 c2 pn w0 w1 w2 w3 w4 h0 h1 h2 h3 h4 h5 s ((sv_fs s) j) ((sv_fa s) j) (by first | assumption | omega | exact hpj.1 | exact hpj.2.1) (by first | assumption | omega | exact hpj.1 | exact hpj.2.1) (by first | assumption | omega | exact hpj.1 | exact hpj.2.1) (by first | assumption | omega | exact hpj.1 | exact hpj.2.1)) gX8_waiting_X0_wayFor rfl rfl rfl 2 (by decide +kernel) (by decide) (by decide) (q0 := 0) rfl rfl rfl [1, 2, 3, 4, 5, 6, 7, 8, 9, 10] [0, 11, 12, 13, 14] rfl (by decide) rfl (by decide) (by decide) rfl rfl (Nat.le_of_ble_eq_true rfl) dX8_waiting_127 (fun r_5 w_6 hp => ?_)
  obtain ⟨rfl, rfl⟩ := hp
  refine g_eq (st' := [.int (orM (wyO s (bpN ((sv_fs s) j) ((sv_fa s) j))))]) (ws' := [(b0, .inr (8, [.ref w0, .ref h0, .ref c0, .ref f0, .ref m0, .ref t0, .ref y0, .ref n0, .int (bB hs)])), (h5, .inr (4, [.int (nI 16), .ref h6, .ref h7, .ref h8, .int (nI (sv_ps s))])), (h6, .inl (tyI D, 16, .inl (nf (sv_fs s)))), (h7, .inl (tyI D, 16, .inl (nf (sv_fa s)))), (h8, .inl (tyI D, 16, .inl (nf (sv_fk s)))), (c0, .inr (0, [.ref w0, .ref h0, .ref c1, .int (nI pn), .ref c2])), (w0, .inr (7, [.ref w1, .ref w2, .ref w3, .ref w4, .int (nI 48)])), (w1, .inl (tyI D, 48, .inl (nf tM))), (w2, .inl (tyI D, 48, .inl (nf tN))), (w3, .inl (tyI D, 48, .inl (nf tS))), (w4, .inl (tyI D, 84, .inl hT)), (h0, .inr (5, [.ref h1, .ref h2, .ref h3, .int (nI (sv_nc s)), .ref h4, .ref h5, .int (sv_la s), .int (sv_st s), .int (sv_sw s), .int (sv_fl s), .int (sv_sk s), .int (sv_mu s)])), (h2, .inl (tyI D, 4, .inl (nf (sv_cc s)))), (h3, .inl (tyI D, 4, .inl (nf (sv_cr s)))), (h4, .inl (tyI D, 4, .inl (sv_se s)))]) rfl rfl rfl ?_
  refine g_callS (As := [.int (orM (wyO s (bpN ((sv_fs s) j) ((sv_fa s) j))))]) (wr := [(b0, .inr (8, [.ref w0, .ref h0, .ref c0, .ref f0, .ref m0, .ref t0, .ref y0, .ref n0, .int (bB hs)])), (h5, .inr (4, [.int (nI 16), .ref h6, .ref h7, .ref h8, .int (nI (sv_ps s))])), (h6, .inl (tyI D, 16, .inl (nf (sv_fs s)))), (h7, .inl (tyI D, 16, .inl (nf (sv_fa s)))), (h8, .inl (tyI D, 16, .inl (nf (sv_fk s)))), (c0, .inr (0, [.ref w0, .ref h0, .ref c1, .int (nI pn), .ref c2])), (w0, .inr (7, [.ref w1, .ref w2, .ref w3, .ref w4, .int (nI 48)])), (w1, .inl (tyI D, 48, .inl (nf tM))), (w2, .inl (tyI D, 48, .inl (nf tN))), (w3, .inl (tyI D, 48, .inl (nf tS))), (w4, .inl (tyI D, 84, .inl hT)), (h0, .inr (5, [.ref h1, .ref h2, .ref h3, .int (nI (sv_nc s)), .ref h4, .ref h5, .int (sv_la s), .int (sv_st s), .int (sv_sw s), .int (sv_fl s), .int (sv_sk s), .int (sv_mu s)])), (h2, .inl (tyI D, 4, .inl (nf (sv_cc s)))), (h3, .inl (tyI D, 4, .inl (nf (sv_cr s)))), (h4, .inl (tyI D, 4, .inl (sv_se s)))]) O (kX8_orNone l D z (orM (wyO s (bpN ((sv_fs s) j) ((sv_fa s) j)))) ) gX8_waiting_X8_orNone rfl rfl rfl 1 (by decide +kernel) (by decide) (by decide) [] [0, 1, 2, 3, 4, 5, 6, 7, 8, 9, 10, 11, 12, 13, 14] rfl (by decide) rfl (by decide) (by decide) rfl rfl (Nat.le_of_ble_eq_true rfl) dX8_waiting_130 (fun r_7 w_8 hp => ?_)
  obtain ⟨rfl, rfl⟩ := hp
  refine g_eq (st' := [.int (laM (orM (wyO s (bpN ((sv_fs s) j) ((sv_fa s) j)))))]) (ws' := [(b0, .inr (8, [.ref w0, .ref h0, .ref c0, .ref f0, .ref m0, .ref t0, .ref y0, .ref n0, .int (bB hs)])), (h5, .inr (4, [.int (nI 16), .ref h6, .ref h7, .ref h8, .int (nI (sv_ps s))])), (h6, .inl (tyI D, 16, .inl (nf (sv_fs s)))), (h7, .inl (tyI D, 16, .inl (nf (sv_fa s)))), (h8, .inl (tyI D, 16, .inl (nf (sv_fk s)))), (c0, .inr (0, [.ref w0, .ref h0, .ref c1, .int (nI pn), .ref c2])), (w0, .inr (7, [.ref w1, .ref w2, .ref w3, .ref w4, .int (nI 48)])), (w1, .inl (tyI D, 48, .inl (nf tM))), (w2, .inl (tyI D, 48, .inl (nf tN))), (w3, .inl (tyI D, 48, .inl (nf tS))), (w4, .inl (tyI D, 84, .inl hT)), (h0, .inr (5, [.ref h1, .ref h2, .ref h3, .int (nI (sv_nc s)), .ref h4, .ref h5, .int (sv_la s), .int (sv_st s), .int (sv_sw s), .int (sv_fl s), .int (sv_sk s), .int (sv_mu s)])), (h2, .inl (tyI D, 4, .inl (nf (sv_cc s)))), (h3, .inl (tyI D, 4, .inl (nf (sv_cr s)))), (h4, .inl (tyI D, 4, .inl (sv_se s)))]) rfl rfl rfl ?_
  refine g_perm (ws' := [(b0, .inr (8, [.ref w0, .ref h0, .ref c0, .ref f0, .ref m0, .ref t0, .ref y0, .ref n0, .int (bB hs)])), (c0, .inr (0, [.ref w0, .ref h0, .ref c1, .int (nI pn), .ref c2])), (w0, .inr (7, [.ref w1, .ref w2, .ref w3, .ref w4, .int (nI 48)])), (w1, .inl (tyI D, 48, .inl (nf tM))), (w2, .inl (tyI D, 48, .inl (nf tN))), (w3, .inl (tyI D, 48, .inl (nf tS))), (w4, .inl (tyI D, 84, .inl hT)), (h0, .inr (5, [.ref h1, .ref h2, .ref h3, .int (nI (sv_nc s)), .ref h4, .ref h5, .int (sv_la s), .int (sv_st s), .int (sv_sw s), .int (sv_fl s), .int (sv_sk s), .int (sv_mu s)])), (h2, .inl (tyI D, 4, .inl (nf (sv_cc s)))), (h3, .inl (tyI D, 4, .inl (nf (sv_cr s)))), (h4, .inl (tyI D, 4, .inl (sv_se s))), (h5, .inr (4, [.int (nI 16), .ref h6, .ref h7, .ref h8, .int (nI (sv_ps s))])), (h6, .inl (tyI D, 16, .inl (nf (sv_fs s)))), (h7, .inl (tyI D, 16, .inl (nf (sv_fa s)))), (h8, .inl (tyI D, 16, .inl (nf (sv_fk s))))]) [0, 5, 6, 7, 8, 9, 10, 11, 12, 13, 14, 1, 2, 3, 4] rfl (by decide) ?_
  exact E 133 _ (laM (orM (wyO s (bpN ((sv_fs s) j) ((sv_fa s) j))))) _ dX8_waiting_133 ⟨rfl, rfl⟩
set_option maxHeartbeats 2000000 in
set_option maxRecDepth 100000 in
theorem kX8_sand_b1 (l : Launch) (D : va_G) (z : Nat × Nat × Nat) (b0 : Nat) (w0 : Nat) (c0 : Nat) (f0 : Nat) (m0 : Nat) (t0 : Nat) (n0 : Nat) (hs : Bool) (y0 : Nat) (h0 : Nat) (r : Bool) (x : Int32) (hb : rgB x 12 = false) : CM l yX8_sand wsX8_sand ({ frames := 1, cells := 0, slots := 0, locals := 21 } : Room) D z [.ref b0, .int (bB r), .int x] [(b0, .inr (8, [.ref w0, .ref h0, .ref c0, .ref f0, .ref m0, .ref t0, .ref y0, .ref n0, .int (bB hs)]))] (fun r_ w_ => r_ = some (.int (-1)) ∧ w_ = [(b0, .inr (8, [.ref w0, .ref h0, .ref c0, .ref f0, .ref m0, .ref t0, .ref y0, .ref n0, .int (bB hs)]))]) 0 0 := by
  refine CM_int (own := RX8) (cc := cX8_sand) (maxL := 5) (L0 := [(0, .ref b0), (1, .int (bB r)), (2, .int x)]) (by decide) rfl rfl (Nat.le_of_ble_eq_true rfl) rfl (fun X O E => ?_)
  refine g_iload_n O dX8_sand_0 2 rfl rfl ?_
  refine g_callS (As := [.int x]) (wr := [(b0, .inr (8, [.ref w0, .ref h0, .ref c0, .ref f0, .ref m0, .ref t0, .ref y0, .ref n0, .int (bB hs)]))]) O (kX8_isLine l D z x ) gX8_sand_X8_isLine rfl rfl rfl 1 (by decide +kernel) (by decide) (by decide) [] [0] rfl (by decide) rfl (by decide) (by decide) rfl rfl (Nat.le_of_ble_eq_true rfl) dX8_sand_1 (fun r_1 w_2 hp => ?_)
  obtain ⟨rfl, rfl⟩ := hp
  refine g_eq (st' := [.int (bB (rgB x 12))]) (ws' := [(b0, .inr (8, [.ref w0, .ref h0, .ref c0, .ref f0, .ref m0, .ref t0, .ref y0, .ref n0, .int (bB hs)]))]) rfl rfl rfl ?_
  refine g_if_neB (tgt := 9) O dX8_sand_4 (by decide) (fun c_3 => absurd c_3 (by rw [hb]; decide)) (fun c_3 => ?_)
  refine g_iconst (x := (-1)) O dX8_sand_7 (by decide +kernel) ?_
  exact E 8 _ (-1) _ dX8_sand_8 ⟨rfl, rfl⟩
theorem hiX8_sand_X5 : ∀ w ∈ wsX50, w ∈ wsX8_sand := by intro w h; simp only [wsX8_sand, List.mem_append, List.mem_cons, h, or_true, true_or]
theorem hiX8_sand_X8 : ∀ w ∈ wsX80, w ∈ wsX8_sand := by intro w h; simp only [wsX8_sand, List.mem_append, List.mem_cons, h, or_true, true_or]
set_option maxHeartbeats 2000000 in
set_option maxRecDepth 100000 in
/-- sand -/
theorem kX8_sand_row (l : Launch) (D : va_G) (z : Nat × Nat × Nat) (b0 : Nat) (w0 : Nat) (c0 : Nat) (f0 : Nat) (m0 : Nat) (t0 : Nat) (n0 : Nat) (hs : Bool) (y0 : Nat) (h0 : Nat) (h1 : Nat) (h2 : Nat) (h3 : Nat) (h4 : Nat) (h5 : Nat) (s : SV) (x : Nat) (hx : x < 12) : CM l yX8_sand wsX8_sand ({ frames := 1, cells := 0, slots := 0, locals := 21 } : Room) D z [.ref b0, .int (bB true), .int (nI x)] [(b0, .inr (8, [.ref w0, .ref h0, .ref c0, .ref f0, .ref m0, .ref t0, .ref y0, .ref n0, .int (bB hs)])), (h0, .inr (5, [.ref h1, .ref h2, .ref h3, .int (nI (sv_nc s)), .ref h4, .ref h5, .int (sv_la s), .int (sv_st s), .int (sv_sw s), .int (sv_fl s), .int (sv_sk s), .int (sv_mu s)])), (h1, .inl (tyI D, 144, .inl (nf (sv_g s))))] (fun r_ w_ => r_ = some (.int (nI (smN (fun k => sv_g s (x * 12 + k)) 12))) ∧ w_ = [(b0, .inr (8, [.ref w0, .ref h0, .ref c0, .ref f0, .ref m0, .ref t0, .ref y0, .ref n0, .int (bB hs)])), (h0, .inr (5, [.ref h1, .ref h2, .ref h3, .int (nI (sv_nc s)), .ref h4, .ref h5, .int (sv_la s), .int (sv_st s), .int (sv_sw s), .int (sv_fl s), .int (sv_sk s), .int (sv_mu s)])), (h1, .inl (tyI D, 144, .inl (nf (sv_g s))))]) 0 0 := by
  refine CM_int (own := RX8) (cc := cX8_sand) (maxL := 5) (L0 := [(0, .ref b0), (1, .int (bB true)), (2, .int (nI x))]) (by decide) rfl rfl (Nat.le_of_ble_eq_true rfl) rfl (fun X O E => ?_)
  refine g_iload_n O dX8_sand_0 2 rfl rfl ?_
  refine g_callS (As := [.int (nI x)]) (wr := [(b0, .inr (8, [.ref w0, .ref h0, .ref c0, .ref f0, .ref m0, .ref t0, .ref y0, .ref n0, .int (bB hs)])), (h0, .inr (5, [.ref h1, .ref h2, .ref h3, .int (nI (sv_nc s)), .ref h4, .ref h5, .int (sv_la s), .int (sv_st s), .int (sv_sw s), .int (sv_fl s), .int (sv_sk s), .int (sv_mu s)])), (h1, .inl (tyI D, 144, .inl (nf (sv_g s))))]) O (kX8_isLine l D z (nI x) ) gX8_sand_X8_isLine rfl rfl rfl 1 (by decide +kernel) (by decide) (by decide) [] [0, 1, 2] rfl (by decide) rfl (by decide) (by decide) rfl rfl (Nat.le_of_ble_eq_true rfl) dX8_sand_1 (fun r_1 w_2 hp => ?_)
  obtain ⟨rfl, rfl⟩ := hp
  refine g_eq (st' := [.int (bB (rgB (nI x) 12))]) (ws' := [(b0, .inr (8, [.ref w0, .ref h0, .ref c0, .ref f0, .ref m0, .ref t0, .ref y0, .ref n0, .int (bB hs)])), (h0, .inr (5, [.ref h1, .ref h2, .ref h3, .int (nI (sv_nc s)), .ref h4, .ref h5, .int (sv_la s), .int (sv_st s), .int (sv_sw s), .int (sv_fl s), .int (sv_sk s), .int (sv_mu s)])), (h1, .inl (tyI D, 144, .inl (nf (sv_g s))))]) rfl rfl rfl ?_
  refine g_if_neB (tgt := 9) O dX8_sand_4 (by decide) (fun c_3 => ?_) (fun c_3 => absurd c_3 (by rw [rgB_t hx (by decide)]; decide))
  refine g_iconst (x := (nI 0)) O dX8_sand_9 (by decide +kernel) ?_
  refine g_istore_n (L' := [(0, .ref b0), (1, .int (bB true)), (2, .int (nI x)), (3, .int (nI 0))]) O dX8_sand_10 rfl (by decide) [1, 2, 3, 0] rfl ?_
  refine g_iconst (x := (nI 0)) O dX8_sand_11 (by decide +kernel) ?_
  refine g_istore (L' := [(0, .ref b0), (1, .int (bB true)), (2, .int (nI x)), (3, .int (nI 0)), (4, .int (nI 0))]) O dX8_sand_12 (by decide) [1, 2, 3, 4, 0] rfl ?_
  have J14 : ∀ (n_ : Nat), ∀ (i_ : Nat) (hi_ : i_ ≤ 12), 12 - i_ < n_ → G X 0 0 14 [(0, .ref b0), (1, .int (bB true)), (2, .int (nI x)), (3, .int (nI (smN (fun k => sv_g s (x * 12 + k)) i_))), (4, .int (nI i_))] [] [(b0, .inr (8, [.ref w0, .ref h0, .ref c0, .ref f0, .ref m0, .ref t0, .ref y0, .ref n0, .int (bB hs)])), (h0, .inr (5, [.ref h1, .ref h2, .ref h3, .int (nI (sv_nc s)), .ref h4, .ref h5, .int (sv_la s), .int (sv_st s), .int (sv_sw s), .int (sv_fl s), .int (sv_sk s), .int (sv_mu s)])), (h1, .inl (tyI D, 144, .inl (nf (sv_g s))))] := by
    intro n_
    induction n_ with
    | zero => intro i_ hi_ hm_; exact absurd hm_ (Nat.not_lt_zero _)
    | succ n_ ih_ =>
      intro i_ hi_ hm_
      refine g_iload O dX8_sand_14 4 rfl ?_
      refine g_bipush (x := (nI 12)) O dX8_sand_16 (by decide +kernel) ?_
      refine g_icmp_geN (tgt := 57) O (by omega) (by omega) dX8_sand_18 (by decide) (fun c_4 => ?_) (fun c_4 => ?_)
      ·
        obtain rfl : i_ = 12 := by omega
        refine g_iload_n O dX8_sand_57 3 rfl rfl ?_
        exact E 58 _ (nI (smN (fun k => sv_g s (x * 12 + k)) 12)) _ dX8_sand_58 ⟨rfl, rfl⟩
      ·
        refine g_iload_n O dX8_sand_21 3 rfl rfl ?_
        refine g_aload_n O dX8_sand_22 0 rfl rfl ?_
        refine g_get O hiX8_sand_X8 0 rfl rfl 1 (by decide) (by decide +kernel) rfl dX8_sand_23 ?_
        refine g_getN O hiX8_sand_X5 1 rfl rfl 0 (by decide) 9 rfl rfl dX8_sand_26 ?_
        refine g_iload_n O dX8_sand_29 1 rfl rfl ?_
        refine g_if_eqB (tgt := 42) O dX8_sand_30 (by decide) (fun c_5 => absurd c_5 (by decide)) (fun c_5 => ?_)
        refine g_iload O dX8_sand_33 4 rfl ?_
        refine g_iload_n O dX8_sand_35 2 rfl rfl ?_
        refine g_callS (As := [.int (nI i_), .int (nI x)]) (wr := [(b0, .inr (8, [.ref w0, .ref h0, .ref c0, .ref f0, .ref m0, .ref t0, .ref y0, .ref n0, .int (bB hs)])), (h0, .inr (5, [.ref h1, .ref h2, .ref h3, .int (nI (sv_nc s)), .ref h4, .ref h5, .int (sv_la s), .int (sv_st s), .int (sv_sw s), .int (sv_fl s), .int (sv_sk s), .int (sv_mu s)])), (h1, .inl (tyI D, 144, .inl (nf (sv_g s))))]) O (kX8_placeOf l D z i_ x ) gX8_sand_X8_placeOf rfl rfl rfl 2 (by decide +kernel) (by decide) (by decide) [] [0, 1, 2] rfl (by decide) rfl (by decide) (by decide) rfl rfl (Nat.le_of_ble_eq_true rfl) dX8_sand_36 (fun r_6 w_7 hp => ?_)
        obtain ⟨rfl, rfl⟩ := hp
        refine g_eq (st' := [.int (nI (x * 12 + i_)), .ref h1, .int (nI (smN (fun k => sv_g s (x * 12 + k)) i_))]) (ws' := [(b0, .inr (8, [.ref w0, .ref h0, .ref c0, .ref f0, .ref m0, .ref t0, .ref y0, .ref n0, .int (bB hs)])), (h0, .inr (5, [.ref h1, .ref h2, .ref h3, .int (nI (sv_nc s)), .ref h4, .ref h5, .int (sv_la s), .int (sv_st s), .int (sv_sw s), .int (sv_fl s), .int (sv_sk s), .int (sv_mu s)])), (h1, .inl (tyI D, 144, .inl (nf (sv_g s))))]) rfl rfl rfl ?_
        refine g_goto (tgt := 48) O dX8_sand_39 (by decide) ?_
        refine g_ialdN O 2 rfl (by omega) (by omega) dX8_sand_48 ?_
        refine g_iaddN O dX8_sand_49 ?_
        refine g_istore_n (L' := [(0, .ref b0), (1, .int (bB true)), (2, .int (nI x)), (3, .int (nI ((smN (fun k => sv_g s (x * 12 + k)) i_) + ((sv_g s) (x * 12 + i_))))), (4, .int (nI i_))]) O dX8_sand_50 rfl (by decide) [1, 2, 3, 0, 4] rfl ?_
        refine g_eq (L' := [(0, .ref b0), (1, .int (bB true)), (2, .int (nI x)), (3, .int (nI (smN (fun k => sv_g s (x * 12 + k)) (i_ + 1)))), (4, .int (nI i_))]) rfl rfl rfl ?_
        refine g_iincN (L' := [(0, .ref b0), (1, .int (bB true)), (2, .int (nI x)), (3, .int (nI (smN (fun k => sv_g s (x * 12 + k)) (i_ + 1)))), (4, .int (nI (i_ + 1)))]) O dX8_sand_51 4 rfl (by decide) [1, 2, 3, 4, 0] rfl ?_
        refine g_goto (tgt := 14) O dX8_sand_54 (by decide) ?_
        exact ih_ (i_ + 1) (by first | assumption | omega | rfl) (by omega)
  exact J14 _ 0 (Nat.zero_le _) (Nat.lt_succ_self _)
set_option maxHeartbeats 2000000 in
set_option maxRecDepth 100000 in
/-- sand -/
theorem kX8_sand_col (l : Launch) (D : va_G) (z : Nat × Nat × Nat) (b0 : Nat) (w0 : Nat) (c0 : Nat) (f0 : Nat) (m0 : Nat) (t0 : Nat) (n0 : Nat) (hs : Bool) (y0 : Nat) (h0 : Nat) (h1 : Nat) (h2 : Nat) (h3 : Nat) (h4 : Nat) (h5 : Nat) (s : SV) (x : Nat) (hx : x < 12) : CM l yX8_sand wsX8_sand ({ frames := 1, cells := 0, slots := 0, locals := 21 } : Room) D z [.ref b0, .int (bB false), .int (nI x)] [(b0, .inr (8, [.ref w0, .ref h0, .ref c0, .ref f0, .ref m0, .ref t0, .ref y0, .ref n0, .int (bB hs)])), (h0, .inr (5, [.ref h1, .ref h2, .ref h3, .int (nI (sv_nc s)), .ref h4, .ref h5, .int (sv_la s), .int (sv_st s), .int (sv_sw s), .int (sv_fl s), .int (sv_sk s), .int (sv_mu s)])), (h1, .inl (tyI D, 144, .inl (nf (sv_g s))))] (fun r_ w_ => r_ = some (.int (nI (smN (fun k => sv_g s (k * 12 + x)) 12))) ∧ w_ = [(b0, .inr (8, [.ref w0, .ref h0, .ref c0, .ref f0, .ref m0, .ref t0, .ref y0, .ref n0, .int (bB hs)])), (h0, .inr (5, [.ref h1, .ref h2, .ref h3, .int (nI (sv_nc s)), .ref h4, .ref h5, .int (sv_la s), .int (sv_st s), .int (sv_sw s), .int (sv_fl s), .int (sv_sk s), .int (sv_mu s)])), (h1, .inl (tyI D, 144, .inl (nf (sv_g s))))]) 0 0 := by
  refine CM_int (own := RX8) (cc := cX8_sand) (maxL := 5) (L0 := [(0, .ref b0), (1, .int (bB false)), (2, .int (nI x))]) (by decide) rfl rfl (Nat.le_of_ble_eq_true rfl) rfl (fun X O E => ?_)
  refine g_iload_n O dX8_sand_0 2 rfl rfl ?_
  refine g_callS (As := [.int (nI x)]) (wr := [(b0, .inr (8, [.ref w0, .ref h0, .ref c0, .ref f0, .ref m0, .ref t0, .ref y0, .ref n0, .int (bB hs)])), (h0, .inr (5, [.ref h1, .ref h2, .ref h3, .int (nI (sv_nc s)), .ref h4, .ref h5, .int (sv_la s), .int (sv_st s), .int (sv_sw s), .int (sv_fl s), .int (sv_sk s), .int (sv_mu s)])), (h1, .inl (tyI D, 144, .inl (nf (sv_g s))))]) O (kX8_isLine l D z (nI x) ) gX8_sand_X8_isLine rfl rfl rfl 1 (by decide +kernel) (by decide) (by decide) [] [0, 1, 2] rfl (by decide) rfl (by decide) (by decide) rfl rfl (Nat.le_of_ble_eq_true rfl) dX8_sand_1 (fun r_1 w_2 hp => ?_)
  obtain ⟨rfl, rfl⟩ := hp
  refine g_eq (st' := [.int (bB (rgB (nI x) 12))]) (ws' := [(b0, .inr (8, [.ref w0, .ref h0, .ref c0, .ref f0, .ref m0, .ref t0, .ref y0, .ref n0, .int (bB hs)])), (h0, .inr (5, [.ref h1, .ref h2, .ref h3, .int (nI (sv_nc s)), .ref h4, .ref h5, .int (sv_la s), .int (sv_st s), .int (sv_sw s), .int (sv_fl s), .int (sv_sk s), .int (sv_mu s)])), (h1, .inl (tyI D, 144, .inl (nf (sv_g s))))]) rfl rfl rfl ?_
  refine g_if_neB (tgt := 9) O dX8_sand_4 (by decide) (fun c_3 => ?_) (fun c_3 => absurd c_3 (by rw [rgB_t hx (by decide)]; decide))
  refine g_iconst (x := (nI 0)) O dX8_sand_9 (by decide +kernel) ?_
  refine g_istore_n (L' := [(0, .ref b0), (1, .int (bB false)), (2, .int (nI x)), (3, .int (nI 0))]) O dX8_sand_10 rfl (by decide) [1, 2, 3, 0] rfl ?_
  refine g_iconst (x := (nI 0)) O dX8_sand_11 (by decide +kernel) ?_
  refine g_istore (L' := [(0, .ref b0), (1, .int (bB false)), (2, .int (nI x)), (3, .int (nI 0)), (4, .int (nI 0))]) O dX8_sand_12 (by decide) [1, 2, 3, 4, 0] rfl ?_
  have J14 : ∀ (n_ : Nat), ∀ (i_ : Nat) (hi_ : i_ ≤ 12), 12 - i_ < n_ → G X 0 0 14 [(0, .ref b0), (1, .int (bB false)), (2, .int (nI x)), (3, .int (nI (smN (fun k => sv_g s (k * 12 + x)) i_))), (4, .int (nI i_))] [] [(b0, .inr (8, [.ref w0, .ref h0, .ref c0, .ref f0, .ref m0, .ref t0, .ref y0, .ref n0, .int (bB hs)])), (h0, .inr (5, [.ref h1, .ref h2, .ref h3, .int (nI (sv_nc s)), .ref h4, .ref h5, .int (sv_la s), .int (sv_st s), .int (sv_sw s), .int (sv_fl s), .int (sv_sk s), .int (sv_mu s)])), (h1, .inl (tyI D, 144, .inl (nf (sv_g s))))] := by
    intro n_
    induction n_ with
    | zero => intro i_ hi_ hm_; exact absurd hm_ (Nat.not_lt_zero _)
    | succ n_ ih_ =>
      intro i_ hi_ hm_
      refine g_iload O dX8_sand_14 4 rfl ?_
      refine g_bipush (x := (nI 12)) O dX8_sand_16 (by decide +kernel) ?_
      refine g_icmp_geN (tgt := 57) O (by omega) (by omega) dX8_sand_18 (by decide) (fun c_4 => ?_) (fun c_4 => ?_)
      ·
        obtain rfl : i_ = 12 := by omega
        refine g_iload_n O dX8_sand_57 3 rfl rfl ?_
        exact E 58 _ (nI (smN (fun k => sv_g s (k * 12 + x)) 12)) _ dX8_sand_58 ⟨rfl, rfl⟩
      ·
        refine g_iload_n O dX8_sand_21 3 rfl rfl ?_
        refine g_aload_n O dX8_sand_22 0 rfl rfl ?_
        refine g_get O hiX8_sand_X8 0 rfl rfl 1 (by decide) (by decide +kernel) rfl dX8_sand_23 ?_
        refine g_getN O hiX8_sand_X5 1 rfl rfl 0 (by decide) 9 rfl rfl dX8_sand_26 ?_
        refine g_iload_n O dX8_sand_29 1 rfl rfl ?_
        refine g_if_eqB (tgt := 42) O dX8_sand_30 (by decide) (fun c_5 => ?_) (fun c_5 => absurd c_5 (by decide))
        refine g_iload_n O dX8_sand_42 2 rfl rfl ?_
        refine g_iload O dX8_sand_43 4 rfl ?_
        refine g_callS (As := [.int (nI x), .int (nI i_)]) (wr := [(b0, .inr (8, [.ref w0, .ref h0, .ref c0, .ref f0, .ref m0, .ref t0, .ref y0, .ref n0, .int (bB hs)])), (h0, .inr (5, [.ref h1, .ref h2, .ref h3, .int (nI (sv_nc s)), .ref h4, .ref h5, .int (sv_la s), .int (sv_st s), .int (sv_sw s), .int (sv_fl s), .int (sv_sk s), .int (sv_mu s)])), (h1, .inl (tyI D, 144, .inl (nf (sv_g s))))]) O (kX8_placeOf l D z x i_ ) gX8_sand_X8_placeOf rfl rfl rfl 2 (by decide +kernel) (by decide) (by decide) [] [0, 1, 2] rfl (by decide) rfl (by decide) (by decide) rfl rfl (Nat.le_of_ble_eq_true rfl) dX8_sand_45 (fun r_6 w_7 hp => ?_)
        obtain ⟨rfl, rfl⟩ := hp
        refine g_eq (st' := [.int (nI (i_ * 12 + x)), .ref h1, .int (nI (smN (fun k => sv_g s (k * 12 + x)) i_))]) (ws' := [(b0, .inr (8, [.ref w0, .ref h0, .ref c0, .ref f0, .ref m0, .ref t0, .ref y0, .ref n0, .int (bB hs)])), (h0, .inr (5, [.ref h1, .ref h2, .ref h3, .int (nI (sv_nc s)), .ref h4, .ref h5, .int (sv_la s), .int (sv_st s), .int (sv_sw s), .int (sv_fl s), .int (sv_sk s), .int (sv_mu s)])), (h1, .inl (tyI D, 144, .inl (nf (sv_g s))))]) rfl rfl rfl ?_
        refine g_ialdN O 2 rfl (by omega) (by omega) dX8_sand_48 ?_
        refine g_iaddN O dX8_sand_49 ?_
        refine g_istore_n (L' := [(0, .ref b0), (1, .int (bB false)), (2, .int (nI x)), (3, .int (nI ((smN (fun k => sv_g s (k * 12 + x)) i_) + ((sv_g s) (i_ * 12 + x))))), (4, .int (nI i_))]) O dX8_sand_50 rfl (by decide) [1, 2, 3, 0, 4] rfl ?_
        refine g_eq (L' := [(0, .ref b0), (1, .int (bB false)), (2, .int (nI x)), (3, .int (nI (smN (fun k => sv_g s (k * 12 + x)) (i_ + 1)))), (4, .int (nI i_))]) rfl rfl rfl ?_
        refine g_iincN (L' := [(0, .ref b0), (1, .int (bB false)), (2, .int (nI x)), (3, .int (nI (smN (fun k => sv_g s (k * 12 + x)) (i_ + 1)))), (4, .int (nI (i_ + 1)))]) O dX8_sand_51 4 rfl (by decide) [1, 2, 3, 4, 0] rfl ?_
        refine g_goto (tgt := 14) O dX8_sand_54 (by decide) ?_
        exact ih_ (i_ + 1) (by first | assumption | omega | rfl) (by omega)
  exact J14 _ 0 (Nat.zero_le _) (Nat.lt_succ_self _)
set_option maxHeartbeats 2000000 in
set_option maxRecDepth 100000 in
theorem kX8_count_b1 (l : Launch) (D : va_G) (z : Nat × Nat × Nat) (b0 : Nat) (w0 : Nat) (c0 : Nat) (f0 : Nat) (m0 : Nat) (t0 : Nat) (n0 : Nat) (hs : Bool) (y0 : Nat) (h0 : Nat) (k : Int32) (hsw : k < 0 ∨ nI 17 ≤ k) : CM l yX8_count wsX8_count ({ frames := 6, cells := 0, slots := 0, locals := 138 } : Room) D z [.ref b0, .int k] [(b0, .inr (8, [.ref w0, .ref h0, .ref c0, .ref f0, .ref m0, .ref t0, .ref y0, .ref n0, .int (bB hs)]))] (fun r_ w_ => r_ = some (.int (-2)) ∧ w_ = [(b0, .inr (8, [.ref w0, .ref h0, .ref c0, .ref f0, .ref m0, .ref t0, .ref y0, .ref n0, .int (bB hs)]))]) 0 0 := by
  refine CM_int (own := RX8) (cc := cX8_count) (maxL := 2) (L0 := [(0, .ref b0), (1, .int k)]) (by decide) rfl rfl (Nat.le_of_ble_eq_true rfl) rfl (fun X O E => ?_)
  refine g_iload_n O dX8_count_0 1 rfl rfl ?_
  refine g_tableO (tgt := 214) (N := 17) O dX8_count_1 hsw (by decide) (by decide) (by decide) ?_
  refine g_bipush (x := (-2)) O dX8_count_214 (by decide +kernel) ?_
  exact E 216 _ (-2) _ dX8_count_216 ⟨rfl, rfl⟩
theorem hiX8_count_X8 : ∀ w ∈ wsX80, w ∈ wsX8_count := by intro w h; simp only [wsX8_count, List.mem_append, List.mem_cons, h, or_true, true_or]
set_option maxHeartbeats 2000000 in
set_option maxRecDepth 100000 in
theorem kX8_count_0 (l : Launch) (D : va_G) (z : Nat × Nat × Nat) (b0 : Nat) (w0 : Nat) (c0 : Nat) (f0 : Nat) (m0 : Nat) (t0 : Nat) (n0 : Nat) (hs : Bool) (y0 : Nat) (h0 : Nat) (h1 : Nat) (h2 : Nat) (h3 : Nat) (h4 : Nat) (h5 : Nat) (s : SV)  : CM l yX8_count wsX8_count ({ frames := 6, cells := 0, slots := 0, locals := 138 } : Room) D z [.ref b0, .int (nI 0)] [(b0, .inr (8, [.ref w0, .ref h0, .ref c0, .ref f0, .ref m0, .ref t0, .ref y0, .ref n0, .int (bB hs)])), (h0, .inr (5, [.ref h1, .ref h2, .ref h3, .int (nI (sv_nc s)), .ref h4, .ref h5, .int (sv_la s), .int (sv_st s), .int (sv_sw s), .int (sv_fl s), .int (sv_sk s), .int (sv_mu s)])), (h1, .inl (tyI D, 144, .inl (nf (sv_g s))))] (fun r_ w_ => r_ = some (.int (nI (smN (sv_g s) 144))) ∧ w_ = [(b0, .inr (8, [.ref w0, .ref h0, .ref c0, .ref f0, .ref m0, .ref t0, .ref y0, .ref n0, .int (bB hs)])), (h0, .inr (5, [.ref h1, .ref h2, .ref h3, .int (nI (sv_nc s)), .ref h4, .ref h5, .int (sv_la s), .int (sv_st s), .int (sv_sw s), .int (sv_fl s), .int (sv_sk s), .int (sv_mu s)])), (h1, .inl (tyI D, 144, .inl (nf (sv_g s))))]) 0 0 := by
  refine CM_int (own := RX8) (cc := cX8_count) (maxL := 2) (L0 := [(0, .ref b0), (1, .int (nI 0))]) (by decide) rfl rfl (Nat.le_of_ble_eq_true rfl) rfl (fun X O E => ?_)
  refine g_iload_n O dX8_count_0 1 rfl rfl ?_
  refine g_tableIn (off := 83) (tgt := 84) O dX8_count_1 (by decide +kernel) (by decide +kernel) (by decide +kernel) (by decide) ?_
  refine g_aload_n O dX8_count_84 0 rfl rfl ?_
  refine g_get O hiX8_count_X8 0 rfl rfl 1 (by decide) (by decide +kernel) rfl dX8_count_85 ?_
  refine g_callV (As := []) (wr := [(b0, .inr (8, [.ref w0, .ref h0, .ref c0, .ref f0, .ref m0, .ref t0, .ref y0, .ref n0, .int (bB hs)]))]) O (kX5_allGrains l D z h0 h1 h2 h3 h4 h5 (sv_nc s) (sv_la s) (sv_st s) (sv_sw s) (sv_fl s) (sv_sk s) (sv_mu s) (sv_g s) ) gX8_count_X5_allGrains rfl rfl rfl 0 (by decide +kernel) (by decide) (by decide) (q0 := 0) rfl rfl rfl [1, 2] [0] rfl (by decide) rfl (by decide) (by decide) rfl rfl (Nat.le_of_ble_eq_true rfl) dX8_count_88 (fun r_1 w_2 hp => ?_)
  obtain ⟨rfl, rfl⟩ := hp
  refine g_eq (st' := [.int (nI (smN (sv_g s) 144))]) (ws' := [(b0, .inr (8, [.ref w0, .ref h0, .ref c0, .ref f0, .ref m0, .ref t0, .ref y0, .ref n0, .int (bB hs)])), (h0, .inr (5, [.ref h1, .ref h2, .ref h3, .int (nI (sv_nc s)), .ref h4, .ref h5, .int (sv_la s), .int (sv_st s), .int (sv_sw s), .int (sv_fl s), .int (sv_sk s), .int (sv_mu s)])), (h1, .inl (tyI D, 144, .inl (nf (sv_g s))))]) rfl rfl rfl ?_
  exact E 91 _ (nI (smN (sv_g s) 144)) _ dX8_count_91 ⟨rfl, rfl⟩
theorem hiX8_count_X5 : ∀ w ∈ wsX50, w ∈ wsX8_count := by intro w h; simp only [wsX8_count, List.mem_append, List.mem_cons, h, or_true, true_or]
set_option maxHeartbeats 2000000 in
set_option maxRecDepth 100000 in
theorem kX8_count_1 (l : Launch) (D : va_G) (z : Nat × Nat × Nat) (b0 : Nat) (w0 : Nat) (c0 : Nat) (f0 : Nat) (m0 : Nat) (t0 : Nat) (n0 : Nat) (hs : Bool) (y0 : Nat) (h0 : Nat) (h1 : Nat) (h2 : Nat) (h3 : Nat) (h4 : Nat) (h5 : Nat) (s : SV)  : CM l yX8_count wsX8_count ({ frames := 6, cells := 0, slots := 0, locals := 138 } : Room) D z [.ref b0, .int (nI 1)] [(b0, .inr (8, [.ref w0, .ref h0, .ref c0, .ref f0, .ref m0, .ref t0, .ref y0, .ref n0, .int (bB hs)])), (h0, .inr (5, [.ref h1, .ref h2, .ref h3, .int (nI (sv_nc s)), .ref h4, .ref h5, .int (sv_la s), .int (sv_st s), .int (sv_sw s), .int (sv_fl s), .int (sv_sk s), .int (sv_mu s)]))] (fun r_ w_ => r_ = some (.int (sv_st s)) ∧ w_ = [(b0, .inr (8, [.ref w0, .ref h0, .ref c0, .ref f0, .ref m0, .ref t0, .ref y0, .ref n0, .int (bB hs)])), (h0, .inr (5, [.ref h1, .ref h2, .ref h3, .int (nI (sv_nc s)), .ref h4, .ref h5, .int (sv_la s), .int (sv_st s), .int (sv_sw s), .int (sv_fl s), .int (sv_sk s), .int (sv_mu s)]))]) 0 0 := by
  refine CM_int (own := RX8) (cc := cX8_count) (maxL := 2) (L0 := [(0, .ref b0), (1, .int (nI 1))]) (by decide) rfl rfl (Nat.le_of_ble_eq_true rfl) rfl (fun X O E => ?_)
  refine g_iload_n O dX8_count_0 1 rfl rfl ?_
  refine g_tableIn (off := 91) (tgt := 92) O dX8_count_1 (by decide +kernel) (by decide +kernel) (by decide +kernel) (by decide) ?_
  refine g_aload_n O dX8_count_92 0 rfl rfl ?_
  refine g_get O hiX8_count_X8 0 rfl rfl 1 (by decide) (by decide +kernel) rfl dX8_count_93 ?_
  refine g_getN O hiX8_count_X5 1 rfl rfl 7 (by decide) 24 rfl rfl dX8_count_96 ?_
  exact E 99 _ (sv_st s) _ dX8_count_99 ⟨rfl, rfl⟩
set_option maxHeartbeats 2000000 in
set_option maxRecDepth 100000 in
theorem kX8_count_2 (l : Launch) (D : va_G) (z : Nat × Nat × Nat) (b0 : Nat) (w0 : Nat) (c0 : Nat) (f0 : Nat) (m0 : Nat) (t0 : Nat) (n0 : Nat) (hs : Bool) (y0 : Nat) (h0 : Nat) (h1 : Nat) (h2 : Nat) (h3 : Nat) (h4 : Nat) (h5 : Nat) (s : SV)  : CM l yX8_count wsX8_count ({ frames := 6, cells := 0, slots := 0, locals := 138 } : Room) D z [.ref b0, .int (nI 2)] [(b0, .inr (8, [.ref w0, .ref h0, .ref c0, .ref f0, .ref m0, .ref t0, .ref y0, .ref n0, .int (bB hs)])), (h0, .inr (5, [.ref h1, .ref h2, .ref h3, .int (nI (sv_nc s)), .ref h4, .ref h5, .int (sv_la s), .int (sv_st s), .int (sv_sw s), .int (sv_fl s), .int (sv_sk s), .int (sv_mu s)]))] (fun r_ w_ => r_ = some (.int (sv_sw s)) ∧ w_ = [(b0, .inr (8, [.ref w0, .ref h0, .ref c0, .ref f0, .ref m0, .ref t0, .ref y0, .ref n0, .int (bB hs)])), (h0, .inr (5, [.ref h1, .ref h2, .ref h3, .int (nI (sv_nc s)), .ref h4, .ref h5, .int (sv_la s), .int (sv_st s), .int (sv_sw s), .int (sv_fl s), .int (sv_sk s), .int (sv_mu s)]))]) 0 0 := by
  refine CM_int (own := RX8) (cc := cX8_count) (maxL := 2) (L0 := [(0, .ref b0), (1, .int (nI 2))]) (by decide) rfl rfl (Nat.le_of_ble_eq_true rfl) rfl (fun X O E => ?_)
  refine g_iload_n O dX8_count_0 1 rfl rfl ?_
  refine g_tableIn (off := 99) (tgt := 100) O dX8_count_1 (by decide +kernel) (by decide +kernel) (by decide +kernel) (by decide) ?_
  refine g_aload_n O dX8_count_100 0 rfl rfl ?_
  refine g_get O hiX8_count_X8 0 rfl rfl 1 (by decide) (by decide +kernel) rfl dX8_count_101 ?_
  refine g_getN O hiX8_count_X5 1 rfl rfl 8 (by decide) 25 rfl rfl dX8_count_104 ?_
  exact E 107 _ (sv_sw s) _ dX8_count_107 ⟨rfl, rfl⟩
set_option maxHeartbeats 2000000 in
set_option maxRecDepth 100000 in
theorem kX8_count_3 (l : Launch) (D : va_G) (z : Nat × Nat × Nat) (b0 : Nat) (w0 : Nat) (c0 : Nat) (f0 : Nat) (m0 : Nat) (t0 : Nat) (n0 : Nat) (hs : Bool) (y0 : Nat) (h0 : Nat) (h1 : Nat) (h2 : Nat) (h3 : Nat) (h4 : Nat) (h5 : Nat) (s : SV)  : CM l yX8_count wsX8_count ({ frames := 6, cells := 0, slots := 0, locals := 138 } : Room) D z [.ref b0, .int (nI 3)] [(b0, .inr (8, [.ref w0, .ref h0, .ref c0, .ref f0, .ref m0, .ref t0, .ref y0, .ref n0, .int (bB hs)])), (h0, .inr (5, [.ref h1, .ref h2, .ref h3, .int (nI (sv_nc s)), .ref h4, .ref h5, .int (sv_la s), .int (sv_st s), .int (sv_sw s), .int (sv_fl s), .int (sv_sk s), .int (sv_mu s)]))] (fun r_ w_ => r_ = some (.int (sv_fl s)) ∧ w_ = [(b0, .inr (8, [.ref w0, .ref h0, .ref c0, .ref f0, .ref m0, .ref t0, .ref y0, .ref n0, .int (bB hs)])), (h0, .inr (5, [.ref h1, .ref h2, .ref h3, .int (nI (sv_nc s)), .ref h4, .ref h5, .int (sv_la s), .int (sv_st s), .int (sv_sw s), .int (sv_fl s), .int (sv_sk s), .int (sv_mu s)]))]) 0 0 := by
  refine CM_int (own := RX8) (cc := cX8_count) (maxL := 2) (L0 := [(0, .ref b0), (1, .int (nI 3))]) (by decide) rfl rfl (Nat.le_of_ble_eq_true rfl) rfl (fun X O E => ?_)
  refine g_iload_n O dX8_count_0 1 rfl rfl ?_
  refine g_tableIn (off := 107) (tgt := 108) O dX8_count_1 (by decide +kernel) (by decide +kernel) (by decide +kernel) (by decide) ?_
  refine g_aload_n O dX8_count_108 0 rfl rfl ?_
  refine g_get O hiX8_count_X8 0 rfl rfl 1 (by decide) (by decide +kernel) rfl dX8_count_109 ?_
  refine g_getN O hiX8_count_X5 1 rfl rfl 9 (by decide) 27 rfl rfl dX8_count_112 ?_
  exact E 115 _ (sv_fl s) _ dX8_count_115 ⟨rfl, rfl⟩
set_option maxHeartbeats 2000000 in
set_option maxRecDepth 100000 in
theorem kX8_count_4 (l : Launch) (D : va_G) (z : Nat × Nat × Nat) (b0 : Nat) (w0 : Nat) (c0 : Nat) (f0 : Nat) (m0 : Nat) (t0 : Nat) (n0 : Nat) (hs : Bool) (y0 : Nat) (h0 : Nat) (h1 : Nat) (h2 : Nat) (h3 : Nat) (h4 : Nat) (h5 : Nat) (s : SV)  : CM l yX8_count wsX8_count ({ frames := 6, cells := 0, slots := 0, locals := 138 } : Room) D z [.ref b0, .int (nI 4)] [(b0, .inr (8, [.ref w0, .ref h0, .ref c0, .ref f0, .ref m0, .ref t0, .ref y0, .ref n0, .int (bB hs)])), (h0, .inr (5, [.ref h1, .ref h2, .ref h3, .int (nI (sv_nc s)), .ref h4, .ref h5, .int (sv_la s), .int (sv_st s), .int (sv_sw s), .int (sv_fl s), .int (sv_sk s), .int (sv_mu s)]))] (fun r_ w_ => r_ = some (.int (nI (sv_nc s))) ∧ w_ = [(b0, .inr (8, [.ref w0, .ref h0, .ref c0, .ref f0, .ref m0, .ref t0, .ref y0, .ref n0, .int (bB hs)])), (h0, .inr (5, [.ref h1, .ref h2, .ref h3, .int (nI (sv_nc s)), .ref h4, .ref h5, .int (sv_la s), .int (sv_st s), .int (sv_sw s), .int (sv_fl s), .int (sv_sk s), .int (sv_mu s)]))]) 0 0 := by
  refine CM_int (own := RX8) (cc := cX8_count) (maxL := 2) (L0 := [(0, .ref b0), (1, .int (nI 4))]) (by decide) rfl rfl (Nat.le_of_ble_eq_true rfl) rfl (fun X O E => ?_)
  refine g_iload_n O dX8_count_0 1 rfl rfl ?_
  refine g_tableIn (off := 115) (tgt := 116) O dX8_count_1 (by decide +kernel) (by decide +kernel) (by decide +kernel) (by decide) ?_
  refine g_aload_n O dX8_count_116 0 rfl rfl ?_
  refine g_get O hiX8_count_X8 0 rfl rfl 1 (by decide) (by decide +kernel) rfl dX8_count_117 ?_
  refine g_getN O hiX8_count_X5 1 rfl rfl 3 (by decide) 17 rfl rfl dX8_count_120 ?_
  exact E 123 _ (nI (sv_nc s)) _ dX8_count_123 ⟨rfl, rfl⟩
theorem hiX8_count_X4 : ∀ w ∈ wsX40, w ∈ wsX8_count := by intro w h; simp only [wsX8_count, List.mem_append, List.mem_cons, h, or_true, true_or]
set_option maxHeartbeats 2000000 in
set_option maxRecDepth 100000 in
theorem kX8_count_5 (l : Launch) (D : va_G) (z : Nat × Nat × Nat) (b0 : Nat) (w0 : Nat) (c0 : Nat) (f0 : Nat) (m0 : Nat) (t0 : Nat) (n0 : Nat) (hs : Bool) (y0 : Nat) (h0 : Nat) (h1 : Nat) (h2 : Nat) (h3 : Nat) (h4 : Nat) (h5 : Nat) (h6 : Nat) (h7 : Nat) (h8 : Nat) (s : SV)  : CM l yX8_count wsX8_count ({ frames := 6, cells := 0, slots := 0, locals := 138 } : Room) D z [.ref b0, .int (nI 5)] [(b0, .inr (8, [.ref w0, .ref h0, .ref c0, .ref f0, .ref m0, .ref t0, .ref y0, .ref n0, .int (bB hs)])), (h0, .inr (5, [.ref h1, .ref h2, .ref h3, .int (nI (sv_nc s)), .ref h4, .ref h5, .int (sv_la s), .int (sv_st s), .int (sv_sw s), .int (sv_fl s), .int (sv_sk s), .int (sv_mu s)])), (h5, .inr (4, [.int (nI 16), .ref h6, .ref h7, .ref h8, .int (nI (sv_ps s))]))] (fun r_ w_ => r_ = some (.int (nI (sv_ps s))) ∧ w_ = [(b0, .inr (8, [.ref w0, .ref h0, .ref c0, .ref f0, .ref m0, .ref t0, .ref y0, .ref n0, .int (bB hs)])), (h0, .inr (5, [.ref h1, .ref h2, .ref h3, .int (nI (sv_nc s)), .ref h4, .ref h5, .int (sv_la s), .int (sv_st s), .int (sv_sw s), .int (sv_fl s), .int (sv_sk s), .int (sv_mu s)])), (h5, .inr (4, [.int (nI 16), .ref h6, .ref h7, .ref h8, .int (nI (sv_ps s))]))]) 0 0 := by
  refine CM_int (own := RX8) (cc := cX8_count) (maxL := 2) (L0 := [(0, .ref b0), (1, .int (nI 5))]) (by decide) rfl rfl (Nat.le_of_ble_eq_true rfl) rfl (fun X O E => ?_)
  refine g_iload_n O dX8_count_0 1 rfl rfl ?_
  refine g_tableIn (off := 123) (tgt := 124) O dX8_count_1 (by decide +kernel) (by decide +kernel) (by decide +kernel) (by decide) ?_
  refine g_aload_n O dX8_count_124 0 rfl rfl ?_
  refine g_get O hiX8_count_X8 0 rfl rfl 1 (by decide) (by decide +kernel) rfl dX8_count_125 ?_
  refine g_getN O hiX8_count_X5 1 rfl rfl 5 (by decide) 22 rfl rfl dX8_count_128 ?_
  refine g_getN O hiX8_count_X4 2 rfl rfl 4 (by decide) 7 rfl rfl dX8_count_131 ?_
  exact E 134 _ (nI (sv_ps s)) _ dX8_count_134 ⟨rfl, rfl⟩
set_option maxHeartbeats 2000000 in
set_option maxRecDepth 100000 in
theorem kX8_count_6 (l : Launch) (D : va_G) (z : Nat × Nat × Nat) (b0 : Nat) (w0 : Nat) (c0 : Nat) (f0 : Nat) (m0 : Nat) (t0 : Nat) (n0 : Nat) (hs : Bool) (y0 : Nat) (h0 : Nat) (h1 : Nat) (h2 : Nat) (h3 : Nat) (h4 : Nat) (h5 : Nat) (s : SV)  : CM l yX8_count wsX8_count ({ frames := 6, cells := 0, slots := 0, locals := 138 } : Room) D z [.ref b0, .int (nI 6)] [(b0, .inr (8, [.ref w0, .ref h0, .ref c0, .ref f0, .ref m0, .ref t0, .ref y0, .ref n0, .int (bB hs)])), (h0, .inr (5, [.ref h1, .ref h2, .ref h3, .int (nI (sv_nc s)), .ref h4, .ref h5, .int (sv_la s), .int (sv_st s), .int (sv_sw s), .int (sv_fl s), .int (sv_sk s), .int (sv_mu s)]))] (fun r_ w_ => r_ = some (.int (sv_sk s)) ∧ w_ = [(b0, .inr (8, [.ref w0, .ref h0, .ref c0, .ref f0, .ref m0, .ref t0, .ref y0, .ref n0, .int (bB hs)])), (h0, .inr (5, [.ref h1, .ref h2, .ref h3, .int (nI (sv_nc s)), .ref h4, .ref h5, .int (sv_la s), .int (sv_st s), .int (sv_sw s), .int (sv_fl s), .int (sv_sk s), .int (sv_mu s)]))]) 0 0 := by
  refine CM_int (own := RX8) (cc := cX8_count) (maxL := 2) (L0 := [(0, .ref b0), (1, .int (nI 6))]) (by decide) rfl rfl (Nat.le_of_ble_eq_true rfl) rfl (fun X O E => ?_)
  refine g_iload_n O dX8_count_0 1 rfl rfl ?_
  refine g_tableIn (off := 134) (tgt := 135) O dX8_count_1 (by decide +kernel) (by decide +kernel) (by decide +kernel) (by decide) ?_
  refine g_aload_n O dX8_count_135 0 rfl rfl ?_
  refine g_get O hiX8_count_X8 0 rfl rfl 1 (by decide) (by decide +kernel) rfl dX8_count_136 ?_
  refine g_getN O hiX8_count_X5 1 rfl rfl 10 (by decide) 28 rfl rfl dX8_count_139 ?_
  exact E 142 _ (sv_sk s) _ dX8_count_142 ⟨rfl, rfl⟩
set_option maxHeartbeats 2000000 in
set_option maxRecDepth 100000 in
theorem kX8_count_7 (l : Launch) (D : va_G) (z : Nat × Nat × Nat) (b0 : Nat) (w0 : Nat) (c0 : Nat) (f0 : Nat) (m0 : Nat) (t0 : Nat) (n0 : Nat) (hs : Bool) (y0 : Nat) (h0 : Nat) (h1 : Nat) (h2 : Nat) (h3 : Nat) (h4 : Nat) (h5 : Nat) (s : SV)  : CM l yX8_count wsX8_count ({ frames := 6, cells := 0, slots := 0, locals := 138 } : Room) D z [.ref b0, .int (nI 7)] [(b0, .inr (8, [.ref w0, .ref h0, .ref c0, .ref f0, .ref m0, .ref t0, .ref y0, .ref n0, .int (bB hs)])), (h0, .inr (5, [.ref h1, .ref h2, .ref h3, .int (nI (sv_nc s)), .ref h4, .ref h5, .int (sv_la s), .int (sv_st s), .int (sv_sw s), .int (sv_fl s), .int (sv_sk s), .int (sv_mu s)]))] (fun r_ w_ => r_ = some (.int (sv_mu s)) ∧ w_ = [(b0, .inr (8, [.ref w0, .ref h0, .ref c0, .ref f0, .ref m0, .ref t0, .ref y0, .ref n0, .int (bB hs)])), (h0, .inr (5, [.ref h1, .ref h2, .ref h3, .int (nI (sv_nc s)), .ref h4, .ref h5, .int (sv_la s), .int (sv_st s), .int (sv_sw s), .int (sv_fl s), .int (sv_sk s), .int (sv_mu s)]))]) 0 0 := by
  refine CM_int (own := RX8) (cc := cX8_count) (maxL := 2) (L0 := [(0, .ref b0), (1, .int (nI 7))]) (by decide) rfl rfl (Nat.le_of_ble_eq_true rfl) rfl (fun X O E => ?_)
  refine g_iload_n O dX8_count_0 1 rfl rfl ?_
  refine g_tableIn (off := 142) (tgt := 143) O dX8_count_1 (by decide +kernel) (by decide +kernel) (by decide +kernel) (by decide) ?_
  refine g_aload_n O dX8_count_143 0 rfl rfl ?_
  refine g_get O hiX8_count_X8 0 rfl rfl 1 (by decide) (by decide +kernel) rfl dX8_count_144 ?_
  refine g_getN O hiX8_count_X5 1 rfl rfl 11 (by decide) 29 rfl rfl dX8_count_147 ?_
  exact E 150 _ (sv_mu s) _ dX8_count_150 ⟨rfl, rfl⟩
set_option maxHeartbeats 2000000 in
set_option maxRecDepth 100000 in
theorem kX8_count_8 (l : Launch) (D : va_G) (z : Nat × Nat × Nat) (b0 : Nat) (w0 : Nat) (c0 : Nat) (f0 : Nat) (m0 : Nat) (t0 : Nat) (n0 : Nat) (hs : Bool) (y0 : Nat) (h0 : Nat) (h1 : Nat) (h2 : Nat) (h3 : Nat) (h4 : Nat) (h5 : Nat) (s : SV)  : CM l yX8_count wsX8_count ({ frames := 6, cells := 0, slots := 0, locals := 138 } : Room) D z [.ref b0, .int (nI 8)] [(b0, .inr (8, [.ref w0, .ref h0, .ref c0, .ref f0, .ref m0, .ref t0, .ref y0, .ref n0, .int (bB hs)])), (h0, .inr (5, [.ref h1, .ref h2, .ref h3, .int (nI (sv_nc s)), .ref h4, .ref h5, .int (sv_la s), .int (sv_st s), .int (sv_sw s), .int (sv_fl s), .int (sv_sk s), .int (sv_mu s)]))] (fun r_ w_ => r_ = some (.int (laM (sv_la s))) ∧ w_ = [(b0, .inr (8, [.ref w0, .ref h0, .ref c0, .ref f0, .ref m0, .ref t0, .ref y0, .ref n0, .int (bB hs)])), (h0, .inr (5, [.ref h1, .ref h2, .ref h3, .int (nI (sv_nc s)), .ref h4, .ref h5, .int (sv_la s), .int (sv_st s), .int (sv_sw s), .int (sv_fl s), .int (sv_sk s), .int (sv_mu s)]))]) 0 0 := by
  refine CM_int (own := RX8) (cc := cX8_count) (maxL := 2) (L0 := [(0, .ref b0), (1, .int (nI 8))]) (by decide) rfl rfl (Nat.le_of_ble_eq_true rfl) rfl (fun X O E => ?_)
  refine g_iload_n O dX8_count_0 1 rfl rfl ?_
  refine g_tableIn (off := 150) (tgt := 151) O dX8_count_1 (by decide +kernel) (by decide +kernel) (by decide +kernel) (by decide) ?_
  refine g_aload_n O dX8_count_151 0 rfl rfl ?_
  refine g_get O hiX8_count_X8 0 rfl rfl 1 (by decide) (by decide +kernel) rfl dX8_count_152 ?_
  refine g_getN O hiX8_count_X5 1 rfl rfl 6 (by decide) 23 rfl rfl dX8_count_155 ?_
  refine g_callS (As := [.int (sv_la s)]) (wr := [(b0, .inr (8, [.ref w0, .ref h0, .ref c0, .ref f0, .ref m0, .ref t0, .ref y0, .ref n0, .int (bB hs)])), (h0, .inr (5, [.ref h1, .ref h2, .ref h3, .int (nI (sv_nc s)), .ref h4, .ref h5, .int (sv_la s), .int (sv_st s), .int (sv_sw s), .int (sv_fl s), .int (sv_sk s), .int (sv_mu s)]))]) O (kX8_orNone l D z (sv_la s) ) gX8_count_X8_orNone rfl rfl rfl 1 (by decide +kernel) (by decide) (by decide) [] [0, 1] rfl (by decide) rfl (by decide) (by decide) rfl rfl (Nat.le_of_ble_eq_true rfl) dX8_count_158 (fun r_1 w_2 hp => ?_)
  obtain ⟨rfl, rfl⟩ := hp
  refine g_eq (st' := [.int (laM (sv_la s))]) (ws' := [(b0, .inr (8, [.ref w0, .ref h0, .ref c0, .ref f0, .ref m0, .ref t0, .ref y0, .ref n0, .int (bB hs)])), (h0, .inr (5, [.ref h1, .ref h2, .ref h3, .int (nI (sv_nc s)), .ref h4, .ref h5, .int (sv_la s), .int (sv_st s), .int (sv_sw s), .int (sv_fl s), .int (sv_sk s), .int (sv_mu s)]))]) rfl rfl rfl ?_
  exact E 161 _ (laM (sv_la s)) _ dX8_count_161 ⟨rfl, rfl⟩
