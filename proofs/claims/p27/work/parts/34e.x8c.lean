theorem hiX8_count_X0 : ∀ w ∈ wsX00, w ∈ wsX8_count := by intro w h; simp only [wsX8_count, List.mem_append, List.mem_cons, h, or_true, true_or]
set_option maxHeartbeats 2000000 in
set_option maxRecDepth 100000 in
theorem kX8_count_9 (l : Launch) (D : va_G) (z : Nat × Nat × Nat) (b0 : Nat) (w0 : Nat) (c0 : Nat) (f0 : Nat) (m0 : Nat) (t0 : Nat) (n0 : Nat) (hs : Bool) (y0 : Nat) (c1 : Nat) (c2 : Nat) (pn : Nat) (pf : Nat → Nat) (tk : Nat → Bool) (w1 : Nat) (w2 : Nat) (w3 : Nat) (w4 : Nat) (h0 : Nat) (h1 : Nat) (h2 : Nat) (h3 : Nat) (h4 : Nat) (h5 : Nat) (s : SV) (hnc : sv_nc s ≤ 4) (hcc : ∀ j, j < sv_nc s → sv_cc s j < 12 ∧ sv_cr s j < 12) : CM l yX8_count wsX8_count ({ frames := 6, cells := 0, slots := 0, locals := 138 } : Room) D z [.ref b0, .int (nI 9)] [(b0, .inr (8, [.ref w0, .ref h0, .ref c0, .ref f0, .ref m0, .ref t0, .ref y0, .ref n0, .int (bB hs)])), (c0, .inr (0, [.ref w0, .ref h0, .ref c1, .int (nI pn), .ref c2])), (c1, .inl (tyI D, 48, .inl (nf pf))), (c2, .inl (tyZ D, 48, .inl (bf tk))), (w0, .inr (7, [.ref w1, .ref w2, .ref w3, .ref w4, .int (nI 48)])), (w1, .inl (tyI D, 48, .inl (nf tM))), (w2, .inl (tyI D, 48, .inl (nf tN))), (w3, .inl (tyI D, 48, .inl (nf tS))), (w4, .inl (tyI D, 84, .inl hT)), (h0, .inr (5, [.ref h1, .ref h2, .ref h3, .int (nI (sv_nc s)), .ref h4, .ref h5, .int (sv_la s), .int (sv_st s), .int (sv_sw s), .int (sv_fl s), .int (sv_sk s), .int (sv_mu s)])), (h2, .inl (tyI D, 4, .inl (nf (sv_cc s)))), (h3, .inl (tyI D, 4, .inl (nf (sv_cr s)))), (h4, .inl (tyI D, 4, .inl (sv_se s)))] (fun r_ w_ => r_ = some (.int (nI (cntB (fpP s) 48))) ∧ w_ = [(b0, .inr (8, [.ref w0, .ref h0, .ref c0, .ref f0, .ref m0, .ref t0, .ref y0, .ref n0, .int (bB hs)])), (c0, .inr (0, [.ref w0, .ref h0, .ref c1, .int (nI (cntB (fpP s) 48)), .ref c2])), (c1, .inl (tyI D, 48, .inl (nf (fpF s pf 48)))), (c2, .inl (tyZ D, 48, .inl (bf (fpK s 48)))), (w0, .inr (7, [.ref w1, .ref w2, .ref w3, .ref w4, .int (nI 48)])), (w1, .inl (tyI D, 48, .inl (nf tM))), (w2, .inl (tyI D, 48, .inl (nf tN))), (w3, .inl (tyI D, 48, .inl (nf tS))), (w4, .inl (tyI D, 84, .inl hT)), (h0, .inr (5, [.ref h1, .ref h2, .ref h3, .int (nI (sv_nc s)), .ref h4, .ref h5, .int (sv_la s), .int (sv_st s), .int (sv_sw s), .int (sv_fl s), .int (sv_sk s), .int (sv_mu s)])), (h2, .inl (tyI D, 4, .inl (nf (sv_cc s)))), (h3, .inl (tyI D, 4, .inl (nf (sv_cr s)))), (h4, .inl (tyI D, 4, .inl (sv_se s)))]) 0 0 := by
  refine CM_int (own := RX8) (cc := cX8_count) (maxL := 2) (L0 := [(0, .ref b0), (1, .int (nI 9))]) (by decide) rfl rfl (Nat.le_of_ble_eq_true rfl) rfl (fun X O E => ?_)
  refine g_iload_n O dX8_count_0 1 rfl rfl ?_
  refine g_tableIn (off := 161) (tgt := 162) O dX8_count_1 (by decide +kernel) (by decide +kernel) (by decide +kernel) (by decide) ?_
  refine g_aload_n O dX8_count_162 0 rfl rfl ?_
  refine g_get O hiX8_count_X8 0 rfl rfl 2 (by decide) (by decide +kernel) rfl dX8_count_163 ?_
  refine g_callV (As := []) (wr := [(b0, .inr (8, [.ref w0, .ref h0, .ref c0, .ref f0, .ref m0, .ref t0, .ref y0, .ref n0, .int (bB hs)]))]) O (kX0_findPossible l D z c0 c1 c2 pn w0 w1 w2 w3 w4 h0 h1 h2 h3 h4 h5 s pf tk (by first | assumption | omega) (by first | assumption | omega)) gX8_count_X0_findPossible rfl rfl rfl 0 (by decide +kernel) (by decide) (by decide) (q0 := 0) rfl rfl rfl [1, 2, 3, 4, 5, 6, 7, 8, 9, 10, 11, 12] [0] rfl (by decide) rfl (by decide) (by decide) rfl rfl (Nat.le_of_ble_eq_true rfl) dX8_count_166 (fun r_1 w_2 hp => ?_)
  obtain ⟨rfl, rfl⟩ := hp
  refine g_eq (st' := []) (ws' := [(b0, .inr (8, [.ref w0, .ref h0, .ref c0, .ref f0, .ref m0, .ref t0, .ref y0, .ref n0, .int (bB hs)])), (c0, .inr (0, [.ref w0, .ref h0, .ref c1, .int (nI (cntB (fpP s) 48)), .ref c2])), (c1, .inl (tyI D, 48, .inl (nf (fpF s pf 48)))), (c2, .inl (tyZ D, 48, .inl (bf (fpK s 48)))), (w0, .inr (7, [.ref w1, .ref w2, .ref w3, .ref w4, .int (nI 48)])), (w1, .inl (tyI D, 48, .inl (nf tM))), (w2, .inl (tyI D, 48, .inl (nf tN))), (w3, .inl (tyI D, 48, .inl (nf tS))), (w4, .inl (tyI D, 84, .inl hT)), (h0, .inr (5, [.ref h1, .ref h2, .ref h3, .int (nI (sv_nc s)), .ref h4, .ref h5, .int (sv_la s), .int (sv_st s), .int (sv_sw s), .int (sv_fl s), .int (sv_sk s), .int (sv_mu s)])), (h2, .inl (tyI D, 4, .inl (nf (sv_cc s)))), (h3, .inl (tyI D, 4, .inl (nf (sv_cr s)))), (h4, .inl (tyI D, 4, .inl (sv_se s)))]) rfl rfl rfl ?_
  refine g_aload_n O dX8_count_169 0 rfl rfl ?_
  refine g_get O hiX8_count_X8 0 rfl rfl 2 (by decide) (by decide +kernel) rfl dX8_count_170 ?_
  refine g_getN O hiX8_count_X0 1 rfl rfl 3 (by decide) 31 rfl rfl dX8_count_173 ?_
  exact E 176 _ (nI (cntB (fpP s) 48)) _ dX8_count_176 ⟨rfl, rfl⟩
set_option maxHeartbeats 2000000 in
set_option maxRecDepth 100000 in
theorem kX8_count_10 (l : Launch) (D : va_G) (z : Nat × Nat × Nat) (b0 : Nat) (w0 : Nat) (c0 : Nat) (f0 : Nat) (m0 : Nat) (t0 : Nat) (n0 : Nat) (hs : Bool) (y0 : Nat) (h0 : Nat) (h1 : Nat) (h2 : Nat) (h3 : Nat) (h4 : Nat) (h5 : Nat) (s : SV) (hg : ∀ j, j < 144 → sv_g s j < 1073741824) : CM l yX8_count wsX8_count ({ frames := 6, cells := 0, slots := 0, locals := 138 } : Room) D z [.ref b0, .int (nI 10)] [(b0, .inr (8, [.ref w0, .ref h0, .ref c0, .ref f0, .ref m0, .ref t0, .ref y0, .ref n0, .int (bB hs)])), (h0, .inr (5, [.ref h1, .ref h2, .ref h3, .int (nI (sv_nc s)), .ref h4, .ref h5, .int (sv_la s), .int (sv_st s), .int (sv_sw s), .int (sv_fl s), .int (sv_sk s), .int (sv_mu s)])), (h1, .inl (tyI D, 144, .inl (nf (sv_g s))))] (fun r_ w_ => r_ = some (.int (nI (mxN (sv_g s) 144))) ∧ w_ = [(b0, .inr (8, [.ref w0, .ref h0, .ref c0, .ref f0, .ref m0, .ref t0, .ref y0, .ref n0, .int (bB hs)])), (h0, .inr (5, [.ref h1, .ref h2, .ref h3, .int (nI (sv_nc s)), .ref h4, .ref h5, .int (sv_la s), .int (sv_st s), .int (sv_sw s), .int (sv_fl s), .int (sv_sk s), .int (sv_mu s)])), (h1, .inl (tyI D, 144, .inl (nf (sv_g s))))]) 0 0 := by
  refine CM_int (own := RX8) (cc := cX8_count) (maxL := 2) (L0 := [(0, .ref b0), (1, .int (nI 10))]) (by decide) rfl rfl (Nat.le_of_ble_eq_true rfl) rfl (fun X O E => ?_)
  refine g_iload_n O dX8_count_0 1 rfl rfl ?_
  refine g_tableIn (off := 176) (tgt := 177) O dX8_count_1 (by decide +kernel) (by decide +kernel) (by decide +kernel) (by decide) ?_
  refine g_aload_n O dX8_count_177 0 rfl rfl ?_
  refine g_get O hiX8_count_X8 0 rfl rfl 1 (by decide) (by decide +kernel) rfl dX8_count_178 ?_
  refine g_callV (As := []) (wr := [(b0, .inr (8, [.ref w0, .ref h0, .ref c0, .ref f0, .ref m0, .ref t0, .ref y0, .ref n0, .int (bB hs)]))]) O (kX5_mostGrains l D z h0 h1 h2 h3 h4 h5 (sv_nc s) (sv_la s) (sv_st s) (sv_sw s) (sv_fl s) (sv_sk s) (sv_mu s) (sv_g s) (by first | assumption | omega)) gX8_count_X5_mostGrains rfl rfl rfl 0 (by decide +kernel) (by decide) (by decide) (q0 := 0) rfl rfl rfl [1, 2] [0] rfl (by decide) rfl (by decide) (by decide) rfl rfl (Nat.le_of_ble_eq_true rfl) dX8_count_181 (fun r_1 w_2 hp => ?_)
  obtain ⟨rfl, rfl⟩ := hp
  refine g_eq (st' := [.int (nI (mxN (sv_g s) 144))]) (ws' := [(b0, .inr (8, [.ref w0, .ref h0, .ref c0, .ref f0, .ref m0, .ref t0, .ref y0, .ref n0, .int (bB hs)])), (h0, .inr (5, [.ref h1, .ref h2, .ref h3, .int (nI (sv_nc s)), .ref h4, .ref h5, .int (sv_la s), .int (sv_st s), .int (sv_sw s), .int (sv_fl s), .int (sv_sk s), .int (sv_mu s)])), (h1, .inl (tyI D, 144, .inl (nf (sv_g s))))]) rfl rfl rfl ?_
  exact E 184 _ (nI (mxN (sv_g s) 144)) _ dX8_count_184 ⟨rfl, rfl⟩
set_option maxHeartbeats 2000000 in
set_option maxRecDepth 100000 in
theorem kX8_count_11 (l : Launch) (D : va_G) (z : Nat × Nat × Nat) (b0 : Nat) (w0 : Nat) (c0 : Nat) (f0 : Nat) (m0 : Nat) (t0 : Nat) (n0 : Nat) (hs : Bool) (y0 : Nat) (h0 : Nat) (h1 : Nat) (h2 : Nat) (h3 : Nat) (h4 : Nat) (h5 : Nat) (s : SV)  : CM l yX8_count wsX8_count ({ frames := 6, cells := 0, slots := 0, locals := 138 } : Room) D z [.ref b0, .int (nI 11)] [(b0, .inr (8, [.ref w0, .ref h0, .ref c0, .ref f0, .ref m0, .ref t0, .ref y0, .ref n0, .int (bB hs)])), (h0, .inr (5, [.ref h1, .ref h2, .ref h3, .int (nI (sv_nc s)), .ref h4, .ref h5, .int (sv_la s), .int (sv_st s), .int (sv_sw s), .int (sv_fl s), .int (sv_sk s), .int (sv_mu s)])), (h4, .inl (tyI D, 4, .inl (sv_se s)))] (fun r_ w_ => r_ = some (.int (sv_se s 0)) ∧ w_ = [(b0, .inr (8, [.ref w0, .ref h0, .ref c0, .ref f0, .ref m0, .ref t0, .ref y0, .ref n0, .int (bB hs)])), (h0, .inr (5, [.ref h1, .ref h2, .ref h3, .int (nI (sv_nc s)), .ref h4, .ref h5, .int (sv_la s), .int (sv_st s), .int (sv_sw s), .int (sv_fl s), .int (sv_sk s), .int (sv_mu s)])), (h4, .inl (tyI D, 4, .inl (sv_se s)))]) 0 0 := by
  refine CM_int (own := RX8) (cc := cX8_count) (maxL := 2) (L0 := [(0, .ref b0), (1, .int (nI 11))]) (by decide) rfl rfl (Nat.le_of_ble_eq_true rfl) rfl (fun X O E => ?_)
  refine g_iload_n O dX8_count_0 1 rfl rfl ?_
  refine g_tableIn (off := 184) (tgt := 185) O dX8_count_1 (by decide +kernel) (by decide +kernel) (by decide +kernel) (by decide) ?_
  refine g_aload_n O dX8_count_185 0 rfl rfl ?_
  refine g_get O hiX8_count_X8 0 rfl rfl 1 (by decide) (by decide +kernel) rfl dX8_count_186 ?_
  refine g_getN O hiX8_count_X5 1 rfl rfl 4 (by decide) 21 rfl rfl dX8_count_189 ?_
  refine g_iload_n O dX8_count_192 1 rfl rfl ?_
  refine g_bipush (x := (nI 11)) O dX8_count_193 (by decide +kernel) ?_
  refine g_isubN O (by omega) dX8_count_195 ?_
  refine g_eq (st' := [.int (nI 0), .ref h4]) rfl rfl rfl ?_
  refine g_ialdN O 2 rfl (by omega) (by omega) dX8_count_196 ?_
  exact E 197 _ ((sv_se s) 0) _ dX8_count_197 ⟨rfl, rfl⟩
set_option maxHeartbeats 2000000 in
set_option maxRecDepth 100000 in
theorem kX8_count_12 (l : Launch) (D : va_G) (z : Nat × Nat × Nat) (b0 : Nat) (w0 : Nat) (c0 : Nat) (f0 : Nat) (m0 : Nat) (t0 : Nat) (n0 : Nat) (hs : Bool) (y0 : Nat) (h0 : Nat) (h1 : Nat) (h2 : Nat) (h3 : Nat) (h4 : Nat) (h5 : Nat) (s : SV)  : CM l yX8_count wsX8_count ({ frames := 6, cells := 0, slots := 0, locals := 138 } : Room) D z [.ref b0, .int (nI 12)] [(b0, .inr (8, [.ref w0, .ref h0, .ref c0, .ref f0, .ref m0, .ref t0, .ref y0, .ref n0, .int (bB hs)])), (h0, .inr (5, [.ref h1, .ref h2, .ref h3, .int (nI (sv_nc s)), .ref h4, .ref h5, .int (sv_la s), .int (sv_st s), .int (sv_sw s), .int (sv_fl s), .int (sv_sk s), .int (sv_mu s)])), (h4, .inl (tyI D, 4, .inl (sv_se s)))] (fun r_ w_ => r_ = some (.int (sv_se s 1)) ∧ w_ = [(b0, .inr (8, [.ref w0, .ref h0, .ref c0, .ref f0, .ref m0, .ref t0, .ref y0, .ref n0, .int (bB hs)])), (h0, .inr (5, [.ref h1, .ref h2, .ref h3, .int (nI (sv_nc s)), .ref h4, .ref h5, .int (sv_la s), .int (sv_st s), .int (sv_sw s), .int (sv_fl s), .int (sv_sk s), .int (sv_mu s)])), (h4, .inl (tyI D, 4, .inl (sv_se s)))]) 0 0 := by
  refine CM_int (own := RX8) (cc := cX8_count) (maxL := 2) (L0 := [(0, .ref b0), (1, .int (nI 12))]) (by decide) rfl rfl (Nat.le_of_ble_eq_true rfl) rfl (fun X O E => ?_)
  refine g_iload_n O dX8_count_0 1 rfl rfl ?_
  refine g_tableIn (off := 184) (tgt := 185) O dX8_count_1 (by decide +kernel) (by decide +kernel) (by decide +kernel) (by decide) ?_
  refine g_aload_n O dX8_count_185 0 rfl rfl ?_
  refine g_get O hiX8_count_X8 0 rfl rfl 1 (by decide) (by decide +kernel) rfl dX8_count_186 ?_
  refine g_getN O hiX8_count_X5 1 rfl rfl 4 (by decide) 21 rfl rfl dX8_count_189 ?_
  refine g_iload_n O dX8_count_192 1 rfl rfl ?_
  refine g_bipush (x := (nI 11)) O dX8_count_193 (by decide +kernel) ?_
  refine g_isubN O (by omega) dX8_count_195 ?_
  refine g_eq (st' := [.int (nI 1), .ref h4]) rfl rfl rfl ?_
  refine g_ialdN O 2 rfl (by omega) (by omega) dX8_count_196 ?_
  exact E 197 _ ((sv_se s) 1) _ dX8_count_197 ⟨rfl, rfl⟩
set_option maxHeartbeats 2000000 in
set_option maxRecDepth 100000 in
theorem kX8_count_13 (l : Launch) (D : va_G) (z : Nat × Nat × Nat) (b0 : Nat) (w0 : Nat) (c0 : Nat) (f0 : Nat) (m0 : Nat) (t0 : Nat) (n0 : Nat) (hs : Bool) (y0 : Nat) (h0 : Nat) (h1 : Nat) (h2 : Nat) (h3 : Nat) (h4 : Nat) (h5 : Nat) (s : SV)  : CM l yX8_count wsX8_count ({ frames := 6, cells := 0, slots := 0, locals := 138 } : Room) D z [.ref b0, .int (nI 13)] [(b0, .inr (8, [.ref w0, .ref h0, .ref c0, .ref f0, .ref m0, .ref t0, .ref y0, .ref n0, .int (bB hs)])), (h0, .inr (5, [.ref h1, .ref h2, .ref h3, .int (nI (sv_nc s)), .ref h4, .ref h5, .int (sv_la s), .int (sv_st s), .int (sv_sw s), .int (sv_fl s), .int (sv_sk s), .int (sv_mu s)])), (h4, .inl (tyI D, 4, .inl (sv_se s)))] (fun r_ w_ => r_ = some (.int (sv_se s 2)) ∧ w_ = [(b0, .inr (8, [.ref w0, .ref h0, .ref c0, .ref f0, .ref m0, .ref t0, .ref y0, .ref n0, .int (bB hs)])), (h0, .inr (5, [.ref h1, .ref h2, .ref h3, .int (nI (sv_nc s)), .ref h4, .ref h5, .int (sv_la s), .int (sv_st s), .int (sv_sw s), .int (sv_fl s), .int (sv_sk s), .int (sv_mu s)])), (h4, .inl (tyI D, 4, .inl (sv_se s)))]) 0 0 := by
  refine CM_int (own := RX8) (cc := cX8_count) (maxL := 2) (L0 := [(0, .ref b0), (1, .int (nI 13))]) (by decide) rfl rfl (Nat.le_of_ble_eq_true rfl) rfl (fun X O E => ?_)
  refine g_iload_n O dX8_count_0 1 rfl rfl ?_
  refine g_tableIn (off := 184) (tgt := 185) O dX8_count_1 (by decide +kernel) (by decide +kernel) (by decide +kernel) (by decide) ?_
  refine g_aload_n O dX8_count_185 0 rfl rfl ?_
  refine g_get O hiX8_count_X8 0 rfl rfl 1 (by decide) (by decide +kernel) rfl dX8_count_186 ?_
  refine g_getN O hiX8_count_X5 1 rfl rfl 4 (by decide) 21 rfl rfl dX8_count_189 ?_
  refine g_iload_n O dX8_count_192 1 rfl rfl ?_
  refine g_bipush (x := (nI 11)) O dX8_count_193 (by decide +kernel) ?_
  refine g_isubN O (by omega) dX8_count_195 ?_
  refine g_eq (st' := [.int (nI 2), .ref h4]) rfl rfl rfl ?_
  refine g_ialdN O 2 rfl (by omega) (by omega) dX8_count_196 ?_
  exact E 197 _ ((sv_se s) 2) _ dX8_count_197 ⟨rfl, rfl⟩
set_option maxHeartbeats 2000000 in
set_option maxRecDepth 100000 in
theorem kX8_count_14 (l : Launch) (D : va_G) (z : Nat × Nat × Nat) (b0 : Nat) (w0 : Nat) (c0 : Nat) (f0 : Nat) (m0 : Nat) (t0 : Nat) (n0 : Nat) (hs : Bool) (y0 : Nat) (h0 : Nat) (h1 : Nat) (h2 : Nat) (h3 : Nat) (h4 : Nat) (h5 : Nat) (s : SV)  : CM l yX8_count wsX8_count ({ frames := 6, cells := 0, slots := 0, locals := 138 } : Room) D z [.ref b0, .int (nI 14)] [(b0, .inr (8, [.ref w0, .ref h0, .ref c0, .ref f0, .ref m0, .ref t0, .ref y0, .ref n0, .int (bB hs)])), (h0, .inr (5, [.ref h1, .ref h2, .ref h3, .int (nI (sv_nc s)), .ref h4, .ref h5, .int (sv_la s), .int (sv_st s), .int (sv_sw s), .int (sv_fl s), .int (sv_sk s), .int (sv_mu s)])), (h4, .inl (tyI D, 4, .inl (sv_se s)))] (fun r_ w_ => r_ = some (.int (sv_se s 3)) ∧ w_ = [(b0, .inr (8, [.ref w0, .ref h0, .ref c0, .ref f0, .ref m0, .ref t0, .ref y0, .ref n0, .int (bB hs)])), (h0, .inr (5, [.ref h1, .ref h2, .ref h3, .int (nI (sv_nc s)), .ref h4, .ref h5, .int (sv_la s), .int (sv_st s), .int (sv_sw s), .int (sv_fl s), .int (sv_sk s), .int (sv_mu s)])), (h4, .inl (tyI D, 4, .inl (sv_se s)))]) 0 0 := by
  refine CM_int (own := RX8) (cc := cX8_count) (maxL := 2) (L0 := [(0, .ref b0), (1, .int (nI 14))]) (by decide) rfl rfl (Nat.le_of_ble_eq_true rfl) rfl (fun X O E => ?_)
  refine g_iload_n O dX8_count_0 1 rfl rfl ?_
  refine g_tableIn (off := 184) (tgt := 185) O dX8_count_1 (by decide +kernel) (by decide +kernel) (by decide +kernel) (by decide) ?_
  refine g_aload_n O dX8_count_185 0 rfl rfl ?_
  refine g_get O hiX8_count_X8 0 rfl rfl 1 (by decide) (by decide +kernel) rfl dX8_count_186 ?_
  refine g_getN O hiX8_count_X5 1 rfl rfl 4 (by decide) 21 rfl rfl dX8_count_189 ?_
  refine g_iload_n O dX8_count_192 1 rfl rfl ?_
  refine g_bipush (x := (nI 11)) O dX8_count_193 (by decide +kernel) ?_
  refine g_isubN O (by omega) dX8_count_195 ?_
  refine g_eq (st' := [.int (nI 3), .ref h4]) rfl rfl rfl ?_
  refine g_ialdN O 2 rfl (by omega) (by omega) dX8_count_196 ?_
  exact E 197 _ ((sv_se s) 3) _ dX8_count_197 ⟨rfl, rfl⟩
theorem hiX8_count_X2 : ∀ w ∈ wsX20, w ∈ wsX8_count := by intro w h; simp only [wsX8_count, List.mem_append, List.mem_cons, h, or_true, true_or]
set_option maxHeartbeats 2000000 in
set_option maxRecDepth 100000 in
theorem kX8_count_15 (l : Launch) (D : va_G) (z : Nat × Nat × Nat) (b0 : Nat) (w0 : Nat) (c0 : Nat) (f0 : Nat) (m0 : Nat) (t0 : Nat) (n0 : Nat) (hs : Bool) (y0 : Nat) (h0 : Nat) (y1 : Nat) (o : Nat) (hd : Nat)  : CM l yX8_count wsX8_count ({ frames := 6, cells := 0, slots := 0, locals := 138 } : Room) D z [.ref b0, .int (nI 15)] [(b0, .inr (8, [.ref w0, .ref h0, .ref c0, .ref f0, .ref m0, .ref t0, .ref y0, .ref n0, .int (bB hs)])), (y0, .inr (2, [.ref y1, .int (nI o), .int (nI hd)]))] (fun r_ w_ => r_ = some (.int (nI hd)) ∧ w_ = [(b0, .inr (8, [.ref w0, .ref h0, .ref c0, .ref f0, .ref m0, .ref t0, .ref y0, .ref n0, .int (bB hs)])), (y0, .inr (2, [.ref y1, .int (nI o), .int (nI hd)]))]) 0 0 := by
  refine CM_int (own := RX8) (cc := cX8_count) (maxL := 2) (L0 := [(0, .ref b0), (1, .int (nI 15))]) (by decide) rfl rfl (Nat.le_of_ble_eq_true rfl) rfl (fun X O E => ?_)
  refine g_iload_n O dX8_count_0 1 rfl rfl ?_
  refine g_tableIn (off := 197) (tgt := 198) O dX8_count_1 (by decide +kernel) (by decide +kernel) (by decide +kernel) (by decide) ?_
  refine g_aload_n O dX8_count_198 0 rfl rfl ?_
  refine g_get O hiX8_count_X8 0 rfl rfl 6 (by decide) (by decide +kernel) rfl dX8_count_199 ?_
  refine g_getN O hiX8_count_X2 1 rfl rfl 2 (by decide) 34 rfl rfl dX8_count_202 ?_
  exact E 205 _ (nI hd) _ dX8_count_205 ⟨rfl, rfl⟩
theorem hiX8_count_X6 : ∀ w ∈ wsX60, w ∈ wsX8_count := by intro w h; simp only [wsX8_count, List.mem_append, List.mem_cons, h, or_true, true_or]
set_option maxHeartbeats 2000000 in
set_option maxRecDepth 100000 in
theorem kX8_count_16 (l : Launch) (D : va_G) (z : Nat × Nat × Nat) (b0 : Nat) (w0 : Nat) (c0 : Nat) (f0 : Nat) (m0 : Nat) (t0 : Nat) (n0 : Nat) (hs : Bool) (y0 : Nat) (h0 : Nat) (t1 : Nat) (p0 : Nat) (len : Nat) (cur : Nat) (tx : Nat → Nat)  : CM l yX8_count wsX8_count ({ frames := 6, cells := 0, slots := 0, locals := 138 } : Room) D z [.ref b0, .int (nI 16)] [(b0, .inr (8, [.ref w0, .ref h0, .ref c0, .ref f0, .ref m0, .ref t0, .ref y0, .ref n0, .int (bB hs)])), (t0, .inr (6, [.ref t1, .int (nI len), .ref p0, .int (nI cur)])), (t1, .inl (tyC D, 60, .inl (nf tx)))] (fun r_ w_ => r_ = some (.int (nI len)) ∧ w_ = [(b0, .inr (8, [.ref w0, .ref h0, .ref c0, .ref f0, .ref m0, .ref t0, .ref y0, .ref n0, .int (bB hs)])), (t0, .inr (6, [.ref t1, .int (nI len), .ref p0, .int (nI cur)])), (t1, .inl (tyC D, 60, .inl (nf tx)))]) 0 0 := by
  refine CM_int (own := RX8) (cc := cX8_count) (maxL := 2) (L0 := [(0, .ref b0), (1, .int (nI 16))]) (by decide) rfl rfl (Nat.le_of_ble_eq_true rfl) rfl (fun X O E => ?_)
  refine g_iload_n O dX8_count_0 1 rfl rfl ?_
  refine g_tableIn (off := 205) (tgt := 206) O dX8_count_1 (by decide +kernel) (by decide +kernel) (by decide +kernel) (by decide) ?_
  refine g_aload_n O dX8_count_206 0 rfl rfl ?_
  refine g_get O hiX8_count_X8 0 rfl rfl 5 (by decide) (by decide +kernel) rfl dX8_count_207 ?_
  refine g_getN O hiX8_count_X6 1 rfl rfl 1 (by decide) 32 rfl rfl dX8_count_210 ?_
  exact E 213 _ (nI len) _ dX8_count_213 ⟨rfl, rfl⟩
set_option maxHeartbeats 2000000 in
set_option maxRecDepth 100000 in
theorem kX8_clampAt_b1 (l : Launch) (D : va_G) (z : Nat × Nat × Nat) (b0 : Nat) (w0 : Nat) (c0 : Nat) (f0 : Nat) (m0 : Nat) (t0 : Nat) (n0 : Nat) (hs : Bool) (y0 : Nat) (h0 : Nat) (h1 : Nat) (h2 : Nat) (h3 : Nat) (h4 : Nat) (h5 : Nat) (s : SV) (x : Int32) (r : Bool) (hnc : sv_nc s ≤ 4) (hb : rgB x (sv_nc s) = false) : CM l yX8_clampAt wsX8_clampAt ({ frames := 1, cells := 0, slots := 0, locals := 21 } : Room) D z [.ref b0, .int x, .int (bB r)] [(b0, .inr (8, [.ref w0, .ref h0, .ref c0, .ref f0, .ref m0, .ref t0, .ref y0, .ref n0, .int (bB hs)])), (h0, .inr (5, [.ref h1, .ref h2, .ref h3, .int (nI (sv_nc s)), .ref h4, .ref h5, .int (sv_la s), .int (sv_st s), .int (sv_sw s), .int (sv_fl s), .int (sv_sk s), .int (sv_mu s)]))] (fun r_ w_ => r_ = some (.int (-1)) ∧ w_ = [(b0, .inr (8, [.ref w0, .ref h0, .ref c0, .ref f0, .ref m0, .ref t0, .ref y0, .ref n0, .int (bB hs)])), (h0, .inr (5, [.ref h1, .ref h2, .ref h3, .int (nI (sv_nc s)), .ref h4, .ref h5, .int (sv_la s), .int (sv_st s), .int (sv_sw s), .int (sv_fl s), .int (sv_sk s), .int (sv_mu s)]))]) 0 0 := by
  refine CM_int (own := RX8) (cc := cX8_clampAt) (maxL := 3) (L0 := [(0, .ref b0), (1, .int x), (2, .int (bB r))]) (by decide) rfl rfl (Nat.le_of_ble_eq_true rfl) rfl (fun X O E => ?_)
  refine g_aload_n O dX8_clampAt_0 0 rfl rfl ?_
  refine g_iload_n O dX8_clampAt_1 1 rfl rfl ?_
  refine g_callV (As := [.int x]) (wr := []) O (kX8_isClamp l D z b0 w0 c0 f0 m0 t0 n0 hs y0 h0 h1 h2 h3 h4 h5 s x (by first | assumption | omega)) gX8_clampAt_X8_isClamp rfl rfl rfl 1 (by decide +kernel) (by decide) (by decide) (q0 := 0) rfl rfl rfl [0, 1] [] rfl (by decide) rfl (by decide) (by decide) rfl rfl (Nat.le_of_ble_eq_true rfl) dX8_clampAt_2 (fun r_1 w_2 hp => ?_)
  obtain ⟨rfl, rfl⟩ := hp
  refine g_eq (st' := [.int (bB (rgB x (sv_nc s)))]) (ws' := [(b0, .inr (8, [.ref w0, .ref h0, .ref c0, .ref f0, .ref m0, .ref t0, .ref y0, .ref n0, .int (bB hs)])), (h0, .inr (5, [.ref h1, .ref h2, .ref h3, .int (nI (sv_nc s)), .ref h4, .ref h5, .int (sv_la s), .int (sv_st s), .int (sv_sw s), .int (sv_fl s), .int (sv_sk s), .int (sv_mu s)]))]) rfl rfl rfl ?_
  refine g_if_neB (tgt := 10) O dX8_clampAt_5 (by decide) (fun c_3 => absurd c_3 (by rw [hb]; decide)) (fun c_3 => ?_)
  refine g_iconst (x := (-1)) O dX8_clampAt_8 (by decide +kernel) ?_
  exact E 9 _ (-1) _ dX8_clampAt_9 ⟨rfl, rfl⟩
theorem hiX8_clampAt_X5 : ∀ w ∈ wsX50, w ∈ wsX8_clampAt := by intro w h; simp only [wsX8_clampAt, List.mem_append, List.mem_cons, h, or_true, true_or]
theorem hiX8_clampAt_X8 : ∀ w ∈ wsX80, w ∈ wsX8_clampAt := by intro w h; simp only [wsX8_clampAt, List.mem_append, List.mem_cons, h, or_true, true_or]
set_option maxHeartbeats 2000000 in
set_option maxRecDepth 100000 in
theorem kX8_clampAt_ok (l : Launch) (D : va_G) (z : Nat × Nat × Nat) (b0 : Nat) (w0 : Nat) (c0 : Nat) (f0 : Nat) (m0 : Nat) (t0 : Nat) (n0 : Nat) (hs : Bool) (y0 : Nat) (h0 : Nat) (h1 : Nat) (h2 : Nat) (h3 : Nat) (h4 : Nat) (h5 : Nat) (s : SV) (x : Nat) (r : Bool) (hnc : sv_nc s ≤ 4) (hx : x < sv_nc s) : CM l yX8_clampAt wsX8_clampAt ({ frames := 1, cells := 0, slots := 0, locals := 21 } : Room) D z [.ref b0, .int (nI x), .int (bB r)] [(b0, .inr (8, [.ref w0, .ref h0, .ref c0, .ref f0, .ref m0, .ref t0, .ref y0, .ref n0, .int (bB hs)])), (h0, .inr (5, [.ref h1, .ref h2, .ref h3, .int (nI (sv_nc s)), .ref h4, .ref h5, .int (sv_la s), .int (sv_st s), .int (sv_sw s), .int (sv_fl s), .int (sv_sk s), .int (sv_mu s)])), (h2, .inl (tyI D, 4, .inl (nf (sv_cc s)))), (h3, .inl (tyI D, 4, .inl (nf (sv_cr s))))] (fun r_ w_ => r_ = some (.int (nI (if r = true then sv_cr s x else sv_cc s x))) ∧ w_ = [(b0, .inr (8, [.ref w0, .ref h0, .ref c0, .ref f0, .ref m0, .ref t0, .ref y0, .ref n0, .int (bB hs)])), (h0, .inr (5, [.ref h1, .ref h2, .ref h3, .int (nI (sv_nc s)), .ref h4, .ref h5, .int (sv_la s), .int (sv_st s), .int (sv_sw s), .int (sv_fl s), .int (sv_sk s), .int (sv_mu s)])), (h2, .inl (tyI D, 4, .inl (nf (sv_cc s)))), (h3, .inl (tyI D, 4, .inl (nf (sv_cr s))))]) 0 0 := by
  refine CM_int (own := RX8) (cc := cX8_clampAt) (maxL := 3) (L0 := [(0, .ref b0), (1, .int (nI x)), (2, .int (bB r))]) (by decide) rfl rfl (Nat.le_of_ble_eq_true rfl) rfl (fun X O E => ?_)
  refine g_aload_n O dX8_clampAt_0 0 rfl rfl ?_
  refine g_iload_n O dX8_clampAt_1 1 rfl rfl ?_
  refine g_callV (As := [.int (nI x)]) (wr := [(h2, .inl (tyI D, 4, .inl (nf (sv_cc s)))), (h3, .inl (tyI D, 4, .inl (nf (sv_cr s))))]) O (kX8_isClamp l D z b0 w0 c0 f0 m0 t0 n0 hs y0 h0 h1 h2 h3 h4 h5 s (nI x) (by first | assumption | omega)) gX8_clampAt_X8_isClamp rfl rfl rfl 1 (by decide +kernel) (by decide) (by decide) (q0 := 0) rfl rfl rfl [0, 1] [2, 3] rfl (by decide) rfl (by decide) (by decide) rfl rfl (Nat.le_of_ble_eq_true rfl) dX8_clampAt_2 (fun r_1 w_2 hp => ?_)
  obtain ⟨rfl, rfl⟩ := hp
  refine g_eq (st' := [.int (bB (rgB (nI x) (sv_nc s)))]) (ws' := [(h2, .inl (tyI D, 4, .inl (nf (sv_cc s)))), (h3, .inl (tyI D, 4, .inl (nf (sv_cr s)))), (b0, .inr (8, [.ref w0, .ref h0, .ref c0, .ref f0, .ref m0, .ref t0, .ref y0, .ref n0, .int (bB hs)])), (h0, .inr (5, [.ref h1, .ref h2, .ref h3, .int (nI (sv_nc s)), .ref h4, .ref h5, .int (sv_la s), .int (sv_st s), .int (sv_sw s), .int (sv_fl s), .int (sv_sk s), .int (sv_mu s)]))]) rfl rfl rfl ?_
  refine g_if_neB (tgt := 10) O dX8_clampAt_5 (by decide) (fun c_3 => ?_) (fun c_3 => absurd c_3 (by rw [rgB_t hx (by omega)]; decide))
  refine g_iload_n O dX8_clampAt_10 2 rfl rfl ?_
  refine g_if_eqB (tgt := 26) O dX8_clampAt_11 (by decide) (fun c_4 => ?_) (fun c_4 => ?_)
  ·
    refine g_aload_n O dX8_clampAt_26 0 rfl rfl ?_
    refine g_get O hiX8_clampAt_X8 2 rfl rfl 1 (by decide) (by decide +kernel) rfl dX8_clampAt_27 ?_
    refine g_getN O hiX8_clampAt_X5 3 rfl rfl 1 (by decide) 13 rfl rfl dX8_clampAt_30 ?_
    refine g_iload_n O dX8_clampAt_33 1 rfl rfl ?_
    refine g_ialdN O 0 rfl (by omega) (by omega) dX8_clampAt_34 ?_
    refine g_perm (ws' := [(b0, .inr (8, [.ref w0, .ref h0, .ref c0, .ref f0, .ref m0, .ref t0, .ref y0, .ref n0, .int (bB hs)])), (h0, .inr (5, [.ref h1, .ref h2, .ref h3, .int (nI (sv_nc s)), .ref h4, .ref h5, .int (sv_la s), .int (sv_st s), .int (sv_sw s), .int (sv_fl s), .int (sv_sk s), .int (sv_mu s)])), (h2, .inl (tyI D, 4, .inl (nf (sv_cc s)))), (h3, .inl (tyI D, 4, .inl (nf (sv_cr s))))]) [2, 3, 0, 1] rfl (by decide) ?_
    exact E 35 _ (nI ((sv_cc s) x)) _ dX8_clampAt_35 (by subst_vars; exact ⟨rfl, rfl⟩)
  ·
    refine g_aload_n O dX8_clampAt_14 0 rfl rfl ?_
    refine g_get O hiX8_clampAt_X8 2 rfl rfl 1 (by decide) (by decide +kernel) rfl dX8_clampAt_15 ?_
    refine g_getN O hiX8_clampAt_X5 3 rfl rfl 2 (by decide) 15 rfl rfl dX8_clampAt_18 ?_
    refine g_iload_n O dX8_clampAt_21 1 rfl rfl ?_
    refine g_ialdN O 1 rfl (by omega) (by omega) dX8_clampAt_22 ?_
    refine g_goto (tgt := 35) O dX8_clampAt_23 (by decide) ?_
    refine g_perm (ws' := [(b0, .inr (8, [.ref w0, .ref h0, .ref c0, .ref f0, .ref m0, .ref t0, .ref y0, .ref n0, .int (bB hs)])), (h0, .inr (5, [.ref h1, .ref h2, .ref h3, .int (nI (sv_nc s)), .ref h4, .ref h5, .int (sv_la s), .int (sv_st s), .int (sv_sw s), .int (sv_fl s), .int (sv_sk s), .int (sv_mu s)])), (h2, .inl (tyI D, 4, .inl (nf (sv_cc s)))), (h3, .inl (tyI D, 4, .inl (nf (sv_cr s))))]) [2, 3, 0, 1] rfl (by decide) ?_
    exact E 35 _ (nI ((sv_cr s) x)) _ dX8_clampAt_35 (by subst_vars; exact ⟨rfl, rfl⟩)
