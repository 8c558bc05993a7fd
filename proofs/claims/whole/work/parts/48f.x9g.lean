set_option maxHeartbeats 2000000 in
set_option maxRecDepth 100000 in
theorem kX9_count_4 (l : Launch) (D : va_G) (z : Nat × Nat × Nat) (u0 : Nat) (u1 : Nat) (u2 : Nat) (u3 : Nat) (u4 : Nat) (u5 : Nat) (u6 : Nat) (u7 : Nat) (u8 : Nat) (u9 : Nat) (u10 : Nat) (u11 : Nat) (kn : Nat) (ik : Bool) (ty : Nat) (ta : Nat) (iw : Bool) (M : Nat → Int32) (s : SV) (hM : RM M s) : CM l yX9_count wsX9_count ({ frames := 6, cells := 0, slots := 0, locals := 134 } : Room) D z [.ref u0, .int (nI 4)] [(u0, .inr (9, [.ref u1, .ref u2, .ref u3, .ref u4, .ref u5, .ref u6, .int (nI kn), .ref u7, .int (bB ik), .ref u8, .int (nI ty), .ref u9, .int (nI ta), .int (bB iw), .ref u10, .ref u11])), (u5, .inl (tyI D, 208, .inl M))] (fun r_ w_ => r_ = some (.int (nI (sv_nc s))) ∧ w_ = [(u0, .inr (9, [.ref u1, .ref u2, .ref u3, .ref u4, .ref u5, .ref u6, .int (nI kn), .ref u7, .int (bB ik), .ref u8, .int (nI ty), .ref u9, .int (nI ta), .int (bB iw), .ref u10, .ref u11])), (u5, .inl (tyI D, 208, .inl M))]) 0 0 := by
  refine CM_int (own := RX9) (cc := cX9_count) (maxL := 2) (L0 := [(0, .ref u0), (1, .int (nI 4))]) (by decide) rfl rfl (Nat.le_of_ble_eq_true rfl) rfl (fun X O E => ?_)
  refine g_iload_n O dX9_count_0 1 rfl rfl ?_
  refine g_tableIn (off := 101) (tgt := 102) O dX9_count_1 (by decide +kernel) (by decide +kernel) (by decide +kernel) (by decide) ?_
  refine g_aload_n O dX9_count_102 0 rfl rfl ?_
  refine g_get O hiX9_count_X9 0 rfl rfl 4 (by decide) (by decide +kernel) rfl dX9_count_103 ?_
  refine g_sipush (x := (nI 154)) O dX9_count_106 (by decide +kernel) ?_
  refine g_ialdN O 1 rfl (by omega) (by omega) dX9_count_109 ?_
  refine g_eq (st' := [.int (nI (sv_nc s))]) (by rw [RM_nc hM]) rfl rfl ?_
  exact E 110 _ (nI (sv_nc s)) _ dX9_count_110 ⟨rfl, rfl⟩

set_option maxHeartbeats 2000000 in
set_option maxRecDepth 100000 in
theorem kX9_count_5 (l : Launch) (D : va_G) (z : Nat × Nat × Nat) (u0 : Nat) (u1 : Nat) (u2 : Nat) (u3 : Nat) (u4 : Nat) (u5 : Nat) (u6 : Nat) (u7 : Nat) (u8 : Nat) (u9 : Nat) (u10 : Nat) (u11 : Nat) (kn : Nat) (ik : Bool) (ty : Nat) (ta : Nat) (iw : Bool) (M : Nat → Int32) (s : SV) (hM : RM M s) : CM l yX9_count wsX9_count ({ frames := 6, cells := 0, slots := 0, locals := 134 } : Room) D z [.ref u0, .int (nI 5)] [(u0, .inr (9, [.ref u1, .ref u2, .ref u3, .ref u4, .ref u5, .ref u6, .int (nI kn), .ref u7, .int (bB ik), .ref u8, .int (nI ty), .ref u9, .int (nI ta), .int (bB iw), .ref u10, .ref u11])), (u5, .inl (tyI D, 208, .inl M))] (fun r_ w_ => r_ = some (.int (nI (sv_ps s))) ∧ w_ = [(u0, .inr (9, [.ref u1, .ref u2, .ref u3, .ref u4, .ref u5, .ref u6, .int (nI kn), .ref u7, .int (bB ik), .ref u8, .int (nI ty), .ref u9, .int (nI ta), .int (bB iw), .ref u10, .ref u11])), (u5, .inl (tyI D, 208, .inl M))]) 0 0 := by
  refine CM_int (own := RX9) (cc := cX9_count) (maxL := 2) (L0 := [(0, .ref u0), (1, .int (nI 5))]) (by decide) rfl rfl (Nat.le_of_ble_eq_true rfl) rfl (fun X O E => ?_)
  refine g_iload_n O dX9_count_0 1 rfl rfl ?_
  refine g_tableIn (off := 110) (tgt := 111) O dX9_count_1 (by decide +kernel) (by decide +kernel) (by decide +kernel) (by decide) ?_
  refine g_aload_n O dX9_count_111 0 rfl rfl ?_
  refine g_get O hiX9_count_X9 0 rfl rfl 4 (by decide) (by decide +kernel) rfl dX9_count_112 ?_
  refine g_sipush (x := (nI 159)) O dX9_count_115 (by decide +kernel) ?_
  refine g_ialdN O 1 rfl (by omega) (by omega) dX9_count_118 ?_
  refine g_eq (st' := [.int (nI (sv_ps s))]) (by rw [RM_ps hM]) rfl rfl ?_
  exact E 119 _ (nI (sv_ps s)) _ dX9_count_119 ⟨rfl, rfl⟩

set_option maxHeartbeats 2000000 in
set_option maxRecDepth 100000 in
theorem kX9_count_6 (l : Launch) (D : va_G) (z : Nat × Nat × Nat) (u0 : Nat) (u1 : Nat) (u2 : Nat) (u3 : Nat) (u4 : Nat) (u5 : Nat) (u6 : Nat) (u7 : Nat) (u8 : Nat) (u9 : Nat) (u10 : Nat) (u11 : Nat) (kn : Nat) (ik : Bool) (ty : Nat) (ta : Nat) (iw : Bool) (M : Nat → Int32) (s : SV) (hM : RM M s) : CM l yX9_count wsX9_count ({ frames := 6, cells := 0, slots := 0, locals := 134 } : Room) D z [.ref u0, .int (nI 6)] [(u0, .inr (9, [.ref u1, .ref u2, .ref u3, .ref u4, .ref u5, .ref u6, .int (nI kn), .ref u7, .int (bB ik), .ref u8, .int (nI ty), .ref u9, .int (nI ta), .int (bB iw), .ref u10, .ref u11])), (u5, .inl (tyI D, 208, .inl M))] (fun r_ w_ => r_ = some (.int (sv_sk s)) ∧ w_ = [(u0, .inr (9, [.ref u1, .ref u2, .ref u3, .ref u4, .ref u5, .ref u6, .int (nI kn), .ref u7, .int (bB ik), .ref u8, .int (nI ty), .ref u9, .int (nI ta), .int (bB iw), .ref u10, .ref u11])), (u5, .inl (tyI D, 208, .inl M))]) 0 0 := by
  refine CM_int (own := RX9) (cc := cX9_count) (maxL := 2) (L0 := [(0, .ref u0), (1, .int (nI 6))]) (by decide) rfl rfl (Nat.le_of_ble_eq_true rfl) rfl (fun X O E => ?_)
  refine g_iload_n O dX9_count_0 1 rfl rfl ?_
  refine g_tableIn (off := 119) (tgt := 120) O dX9_count_1 (by decide +kernel) (by decide +kernel) (by decide +kernel) (by decide) ?_
  refine g_aload_n O dX9_count_120 0 rfl rfl ?_
  refine g_get O hiX9_count_X9 0 rfl rfl 4 (by decide) (by decide +kernel) rfl dX9_count_121 ?_
  refine g_sipush (x := (nI 151)) O dX9_count_124 (by decide +kernel) ?_
  refine g_iload_n O dX9_count_127 1 rfl rfl ?_
  refine g_iaddN O dX9_count_128 ?_
  refine g_bipush (x := (nI 6)) O dX9_count_129 (by decide +kernel) ?_
  refine g_isubN O (by omega) dX9_count_131 ?_
  refine g_eq (st' := [.int (nI 151), .ref u5]) rfl rfl rfl ?_
  refine g_ialdN O 1 rfl (by omega) (by omega) dX9_count_132 ?_
  refine g_eq (st' := [.int (sv_sk s)]) (by rw [RM_sk hM]) rfl rfl ?_
  exact E 133 _ (sv_sk s) _ dX9_count_133 ⟨rfl, rfl⟩

set_option maxHeartbeats 2000000 in
set_option maxRecDepth 100000 in
theorem kX9_count_7 (l : Launch) (D : va_G) (z : Nat × Nat × Nat) (u0 : Nat) (u1 : Nat) (u2 : Nat) (u3 : Nat) (u4 : Nat) (u5 : Nat) (u6 : Nat) (u7 : Nat) (u8 : Nat) (u9 : Nat) (u10 : Nat) (u11 : Nat) (kn : Nat) (ik : Bool) (ty : Nat) (ta : Nat) (iw : Bool) (M : Nat → Int32) (s : SV) (hM : RM M s) : CM l yX9_count wsX9_count ({ frames := 6, cells := 0, slots := 0, locals := 134 } : Room) D z [.ref u0, .int (nI 7)] [(u0, .inr (9, [.ref u1, .ref u2, .ref u3, .ref u4, .ref u5, .ref u6, .int (nI kn), .ref u7, .int (bB ik), .ref u8, .int (nI ty), .ref u9, .int (nI ta), .int (bB iw), .ref u10, .ref u11])), (u5, .inl (tyI D, 208, .inl M))] (fun r_ w_ => r_ = some (.int (sv_mu s)) ∧ w_ = [(u0, .inr (9, [.ref u1, .ref u2, .ref u3, .ref u4, .ref u5, .ref u6, .int (nI kn), .ref u7, .int (bB ik), .ref u8, .int (nI ty), .ref u9, .int (nI ta), .int (bB iw), .ref u10, .ref u11])), (u5, .inl (tyI D, 208, .inl M))]) 0 0 := by
  refine CM_int (own := RX9) (cc := cX9_count) (maxL := 2) (L0 := [(0, .ref u0), (1, .int (nI 7))]) (by decide) rfl rfl (Nat.le_of_ble_eq_true rfl) rfl (fun X O E => ?_)
  refine g_iload_n O dX9_count_0 1 rfl rfl ?_
  refine g_tableIn (off := 119) (tgt := 120) O dX9_count_1 (by decide +kernel) (by decide +kernel) (by decide +kernel) (by decide) ?_
  refine g_aload_n O dX9_count_120 0 rfl rfl ?_
  refine g_get O hiX9_count_X9 0 rfl rfl 4 (by decide) (by decide +kernel) rfl dX9_count_121 ?_
  refine g_sipush (x := (nI 151)) O dX9_count_124 (by decide +kernel) ?_
  refine g_iload_n O dX9_count_127 1 rfl rfl ?_
  refine g_iaddN O dX9_count_128 ?_
  refine g_bipush (x := (nI 6)) O dX9_count_129 (by decide +kernel) ?_
  refine g_isubN O (by omega) dX9_count_131 ?_
  refine g_eq (st' := [.int (nI 152), .ref u5]) rfl rfl rfl ?_
  refine g_ialdN O 1 rfl (by omega) (by omega) dX9_count_132 ?_
  refine g_eq (st' := [.int (sv_mu s)]) (by rw [RM_mu hM]) rfl rfl ?_
  exact E 133 _ (sv_mu s) _ dX9_count_133 ⟨rfl, rfl⟩

set_option maxHeartbeats 2000000 in
set_option maxRecDepth 100000 in
theorem kX9_count_8 (l : Launch) (D : va_G) (z : Nat × Nat × Nat) (u0 : Nat) (u1 : Nat) (u2 : Nat) (u3 : Nat) (u4 : Nat) (u5 : Nat) (u6 : Nat) (u7 : Nat) (u8 : Nat) (u9 : Nat) (u10 : Nat) (u11 : Nat) (kn : Nat) (ik : Bool) (ty : Nat) (ta : Nat) (iw : Bool) (M : Nat → Int32) (s : SV) (hM : RM M s) : CM l yX9_count wsX9_count ({ frames := 6, cells := 0, slots := 0, locals := 134 } : Room) D z [.ref u0, .int (nI 8)] [(u0, .inr (9, [.ref u1, .ref u2, .ref u3, .ref u4, .ref u5, .ref u6, .int (nI kn), .ref u7, .int (bB ik), .ref u8, .int (nI ty), .ref u9, .int (nI ta), .int (bB iw), .ref u10, .ref u11])), (u5, .inl (tyI D, 208, .inl M))] (fun r_ w_ => r_ = some (.int (laM (sv_la s))) ∧ w_ = [(u0, .inr (9, [.ref u1, .ref u2, .ref u3, .ref u4, .ref u5, .ref u6, .int (nI kn), .ref u7, .int (bB ik), .ref u8, .int (nI ty), .ref u9, .int (nI ta), .int (bB iw), .ref u10, .ref u11])), (u5, .inl (tyI D, 208, .inl M))]) 0 0 := by
  refine CM_int (own := RX9) (cc := cX9_count) (maxL := 2) (L0 := [(0, .ref u0), (1, .int (nI 8))]) (by decide) rfl rfl (Nat.le_of_ble_eq_true rfl) rfl (fun X O E => ?_)
  refine g_iload_n O dX9_count_0 1 rfl rfl ?_
  refine g_tableIn (off := 119) (tgt := 120) O dX9_count_1 (by decide +kernel) (by decide +kernel) (by decide +kernel) (by decide) ?_
  refine g_aload_n O dX9_count_120 0 rfl rfl ?_
  refine g_get O hiX9_count_X9 0 rfl rfl 4 (by decide) (by decide +kernel) rfl dX9_count_121 ?_
  refine g_sipush (x := (nI 151)) O dX9_count_124 (by decide +kernel) ?_
  refine g_iload_n O dX9_count_127 1 rfl rfl ?_
  refine g_iaddN O dX9_count_128 ?_
  refine g_bipush (x := (nI 6)) O dX9_count_129 (by decide +kernel) ?_
  refine g_isubN O (by omega) dX9_count_131 ?_
  refine g_eq (st' := [.int (nI 153), .ref u5]) rfl rfl rfl ?_
  refine g_ialdN O 1 rfl (by omega) (by omega) dX9_count_132 ?_
  refine g_eq (st' := [.int (laM (sv_la s))]) (by rw [RM_la hM]) rfl rfl ?_
  exact E 133 _ (laM (sv_la s)) _ dX9_count_133 ⟨rfl, rfl⟩

set_option maxHeartbeats 2000000 in
set_option maxRecDepth 100000 in
theorem kX9_count_9 (l : Launch) (D : va_G) (z : Nat × Nat × Nat) (u0 : Nat) (u1 : Nat) (u2 : Nat) (u3 : Nat) (u4 : Nat) (u5 : Nat) (u6 : Nat) (u7 : Nat) (u8 : Nat) (u9 : Nat) (u10 : Nat) (u11 : Nat) (kn : Nat) (ik : Bool) (ty : Nat) (ta : Nat) (iw : Bool) (M : Nat → Int32) (s : SV) (hM : RM M s) (hnc : sv_nc s ≤ 4) (hcc : ∀ j, j < sv_nc s → sv_cc s j < 12 ∧ sv_cr s j < 12) : CM l yX9_count wsX9_count ({ frames := 6, cells := 0, slots := 0, locals := 134 } : Room) D z [.ref u0, .int (nI 9)] [(u0, .inr (9, [.ref u1, .ref u2, .ref u3, .ref u4, .ref u5, .ref u6, .int (nI kn), .ref u7, .int (bB ik), .ref u8, .int (nI ty), .ref u9, .int (nI ta), .int (bB iw), .ref u10, .ref u11])), (u4, .inl (tyI D, 6912, .inl SWT)), (u5, .inl (tyI D, 208, .inl M))] (fun r_ w_ => r_ = some (.int (nI (cntB (fun w => psO s w 48) 48))) ∧ w_ = [(u0, .inr (9, [.ref u1, .ref u2, .ref u3, .ref u4, .ref u5, .ref u6, .int (nI kn), .ref u7, .int (bB ik), .ref u8, .int (nI ty), .ref u9, .int (nI ta), .int (bB iw), .ref u10, .ref u11])), (u4, .inl (tyI D, 6912, .inl SWT)), (u5, .inl (tyI D, 208, .inl M))]) 0 0 := by
  refine CM_int (own := RX9) (cc := cX9_count) (maxL := 2) (L0 := [(0, .ref u0), (1, .int (nI 9))]) (by decide) rfl rfl (Nat.le_of_ble_eq_true rfl) rfl (fun X O E => ?_)
  refine g_iload_n O dX9_count_0 1 rfl rfl ?_
  refine g_tableIn (off := 133) (tgt := 134) O dX9_count_1 (by decide +kernel) (by decide +kernel) (by decide +kernel) (by decide) ?_
  refine g_aload_n O dX9_count_134 0 rfl rfl ?_
  refine g_callV (As := []) (wr := []) O (kX9_possibles l D z u0 u1 u2 u3 u4 u5 u6 u7 u8 u9 u10 u11 kn ik ty ta iw M s (by first | assumption | omega) (by first | assumption | omega) (by first | assumption | omega)) gX9_count_X9_possibles rfl rfl rfl 0 (by decide +kernel) (by decide) (by decide) (q0 := 0) rfl rfl rfl [0, 1, 2] [] rfl (by decide) rfl (by decide) (by decide) rfl rfl (Nat.le_of_ble_eq_true rfl) dX9_count_135 (fun r_1 w_2 hp => ?_)
  obtain ⟨rfl, rfl⟩ := hp
  refine g_eq (st' := [.int (nI (cntB (fun w => psO s w 48) 48))]) (ws' := [(u0, .inr (9, [.ref u1, .ref u2, .ref u3, .ref u4, .ref u5, .ref u6, .int (nI kn), .ref u7, .int (bB ik), .ref u8, .int (nI ty), .ref u9, .int (nI ta), .int (bB iw), .ref u10, .ref u11])), (u4, .inl (tyI D, 6912, .inl SWT)), (u5, .inl (tyI D, 208, .inl M))]) rfl rfl rfl ?_
  exact E 138 _ (nI (cntB (fun w => psO s w 48) 48)) _ dX9_count_138 ⟨rfl, rfl⟩

set_option maxHeartbeats 2000000 in
set_option maxRecDepth 100000 in
theorem kX9_count_10 (l : Launch) (D : va_G) (z : Nat × Nat × Nat) (u0 : Nat) (u1 : Nat) (u2 : Nat) (u3 : Nat) (u4 : Nat) (u5 : Nat) (u6 : Nat) (u7 : Nat) (u8 : Nat) (u9 : Nat) (u10 : Nat) (u11 : Nat) (kn : Nat) (ik : Bool) (ty : Nat) (ta : Nat) (iw : Bool) (M : Nat → Int32) (s : SV) (hM : RM M s) (hg : ∀ j, j < 144 → sv_g s j < 1073741824) : CM l yX9_count wsX9_count ({ frames := 6, cells := 0, slots := 0, locals := 134 } : Room) D z [.ref u0, .int (nI 10)] [(u0, .inr (9, [.ref u1, .ref u2, .ref u3, .ref u4, .ref u5, .ref u6, .int (nI kn), .ref u7, .int (bB ik), .ref u8, .int (nI ty), .ref u9, .int (nI ta), .int (bB iw), .ref u10, .ref u11])), (u5, .inl (tyI D, 208, .inl M))] (fun r_ w_ => r_ = some (.int (nI (mxN (sv_g s) 144))) ∧ w_ = [(u0, .inr (9, [.ref u1, .ref u2, .ref u3, .ref u4, .ref u5, .ref u6, .int (nI kn), .ref u7, .int (bB ik), .ref u8, .int (nI ty), .ref u9, .int (nI ta), .int (bB iw), .ref u10, .ref u11])), (u5, .inl (tyI D, 208, .inl M))]) 0 0 := by
  refine CM_int (own := RX9) (cc := cX9_count) (maxL := 2) (L0 := [(0, .ref u0), (1, .int (nI 10))]) (by decide) rfl rfl (Nat.le_of_ble_eq_true rfl) rfl (fun X O E => ?_)
  refine g_iload_n O dX9_count_0 1 rfl rfl ?_
  refine g_tableIn (off := 138) (tgt := 139) O dX9_count_1 (by decide +kernel) (by decide +kernel) (by decide +kernel) (by decide) ?_
  refine g_aload_n O dX9_count_139 0 rfl rfl ?_
  refine g_callV (As := []) (wr := []) O (kX9_mostGrains l D z u0 u1 u2 u3 u4 u5 u6 u7 u8 u9 u10 u11 kn ik ty ta iw M s (by first | assumption | omega) (by first | assumption | omega)) gX9_count_X9_mostGrains rfl rfl rfl 0 (by decide +kernel) (by decide) (by decide) (q0 := 0) rfl rfl rfl [0, 1] [] rfl (by decide) rfl (by decide) (by decide) rfl rfl (Nat.le_of_ble_eq_true rfl) dX9_count_140 (fun r_1 w_2 hp => ?_)
  obtain ⟨rfl, rfl⟩ := hp
  refine g_eq (st' := [.int (nI (mxN (sv_g s) 144))]) (ws' := [(u0, .inr (9, [.ref u1, .ref u2, .ref u3, .ref u4, .ref u5, .ref u6, .int (nI kn), .ref u7, .int (bB ik), .ref u8, .int (nI ty), .ref u9, .int (nI ta), .int (bB iw), .ref u10, .ref u11])), (u5, .inl (tyI D, 208, .inl M))]) rfl rfl rfl ?_
  exact E 143 _ (nI (mxN (sv_g s) 144)) _ dX9_count_143 ⟨rfl, rfl⟩

set_option maxHeartbeats 2000000 in
set_option maxRecDepth 100000 in
theorem kX9_count_11 (l : Launch) (D : va_G) (z : Nat × Nat × Nat) (u0 : Nat) (u1 : Nat) (u2 : Nat) (u3 : Nat) (u4 : Nat) (u5 : Nat) (u6 : Nat) (u7 : Nat) (u8 : Nat) (u9 : Nat) (u10 : Nat) (u11 : Nat) (kn : Nat) (ik : Bool) (ty : Nat) (ta : Nat) (iw : Bool) (M : Nat → Int32) (s : SV) (hM : RM M s) : CM l yX9_count wsX9_count ({ frames := 6, cells := 0, slots := 0, locals := 134 } : Room) D z [.ref u0, .int (nI 11)] [(u0, .inr (9, [.ref u1, .ref u2, .ref u3, .ref u4, .ref u5, .ref u6, .int (nI kn), .ref u7, .int (bB ik), .ref u8, .int (nI ty), .ref u9, .int (nI ta), .int (bB iw), .ref u10, .ref u11])), (u5, .inl (tyI D, 208, .inl M))] (fun r_ w_ => r_ = some (.int (sv_se s 0)) ∧ w_ = [(u0, .inr (9, [.ref u1, .ref u2, .ref u3, .ref u4, .ref u5, .ref u6, .int (nI kn), .ref u7, .int (bB ik), .ref u8, .int (nI ty), .ref u9, .int (nI ta), .int (bB iw), .ref u10, .ref u11])), (u5, .inl (tyI D, 208, .inl M))]) 0 0 := by
  refine CM_int (own := RX9) (cc := cX9_count) (maxL := 2) (L0 := [(0, .ref u0), (1, .int (nI 11))]) (by decide) rfl rfl (Nat.le_of_ble_eq_true rfl) rfl (fun X O E => ?_)
  refine g_iload_n O dX9_count_0 1 rfl rfl ?_
  refine g_tableIn (off := 143) (tgt := 144) O dX9_count_1 (by decide +kernel) (by decide +kernel) (by decide +kernel) (by decide) ?_
  refine g_aload_n O dX9_count_144 0 rfl rfl ?_
  refine g_get O hiX9_count_X9 0 rfl rfl 4 (by decide) (by decide +kernel) rfl dX9_count_145 ?_
  refine g_sipush (x := (nI 144)) O dX9_count_148 (by decide +kernel) ?_
  refine g_iload_n O dX9_count_151 1 rfl rfl ?_
  refine g_iaddN O dX9_count_152 ?_
  refine g_bipush (x := (nI 11)) O dX9_count_153 (by decide +kernel) ?_
  refine g_isubN O (by omega) dX9_count_155 ?_
  refine g_eq (st' := [.int (nI 144), .ref u5]) rfl rfl rfl ?_
  refine g_ialdN O 1 rfl (by omega) (by omega) dX9_count_156 ?_
  refine g_eq (st' := [.int (sv_se s 0)]) (by rw [RM_s0 hM]) rfl rfl ?_
  exact E 157 _ (sv_se s 0) _ dX9_count_157 ⟨rfl, rfl⟩

set_option maxHeartbeats 2000000 in
set_option maxRecDepth 100000 in
theorem kX9_count_12 (l : Launch) (D : va_G) (z : Nat × Nat × Nat) (u0 : Nat) (u1 : Nat) (u2 : Nat) (u3 : Nat) (u4 : Nat) (u5 : Nat) (u6 : Nat) (u7 : Nat) (u8 : Nat) (u9 : Nat) (u10 : Nat) (u11 : Nat) (kn : Nat) (ik : Bool) (ty : Nat) (ta : Nat) (iw : Bool) (M : Nat → Int32) (s : SV) (hM : RM M s) : CM l yX9_count wsX9_count ({ frames := 6, cells := 0, slots := 0, locals := 134 } : Room) D z [.ref u0, .int (nI 12)] [(u0, .inr (9, [.ref u1, .ref u2, .ref u3, .ref u4, .ref u5, .ref u6, .int (nI kn), .ref u7, .int (bB ik), .ref u8, .int (nI ty), .ref u9, .int (nI ta), .int (bB iw), .ref u10, .ref u11])), (u5, .inl (tyI D, 208, .inl M))] (fun r_ w_ => r_ = some (.int (sv_se s 1)) ∧ w_ = [(u0, .inr (9, [.ref u1, .ref u2, .ref u3, .ref u4, .ref u5, .ref u6, .int (nI kn), .ref u7, .int (bB ik), .ref u8, .int (nI ty), .ref u9, .int (nI ta), .int (bB iw), .ref u10, .ref u11])), (u5, .inl (tyI D, 208, .inl M))]) 0 0 := by
  refine CM_int (own := RX9) (cc := cX9_count) (maxL := 2) (L0 := [(0, .ref u0), (1, .int (nI 12))]) (by decide) rfl rfl (Nat.le_of_ble_eq_true rfl) rfl (fun X O E => ?_)
  refine g_iload_n O dX9_count_0 1 rfl rfl ?_
  refine g_tableIn (off := 143) (tgt := 144) O dX9_count_1 (by decide +kernel) (by decide +kernel) (by decide +kernel) (by decide) ?_
  refine g_aload_n O dX9_count_144 0 rfl rfl ?_
  refine g_get O hiX9_count_X9 0 rfl rfl 4 (by decide) (by decide +kernel) rfl dX9_count_145 ?_
  refine g_sipush (x := (nI 144)) O dX9_count_148 (by decide +kernel) ?_
  refine g_iload_n O dX9_count_151 1 rfl rfl ?_
  refine g_iaddN O dX9_count_152 ?_
  refine g_bipush (x := (nI 11)) O dX9_count_153 (by decide +kernel) ?_
  refine g_isubN O (by omega) dX9_count_155 ?_
  refine g_eq (st' := [.int (nI 145), .ref u5]) rfl rfl rfl ?_
  refine g_ialdN O 1 rfl (by omega) (by omega) dX9_count_156 ?_
  refine g_eq (st' := [.int (sv_se s 1)]) (by rw [RM_s1 hM]) rfl rfl ?_
  exact E 157 _ (sv_se s 1) _ dX9_count_157 ⟨rfl, rfl⟩

set_option maxHeartbeats 2000000 in
set_option maxRecDepth 100000 in
theorem kX9_count_13 (l : Launch) (D : va_G) (z : Nat × Nat × Nat) (u0 : Nat) (u1 : Nat) (u2 : Nat) (u3 : Nat) (u4 : Nat) (u5 : Nat) (u6 : Nat) (u7 : Nat) (u8 : Nat) (u9 : Nat) (u10 : Nat) (u11 : Nat) (kn : Nat) (ik : Bool) (ty : Nat) (ta : Nat) (iw : Bool) (M : Nat → Int32) (s : SV) (hM : RM M s) : CM l yX9_count wsX9_count ({ frames := 6, cells := 0, slots := 0, locals := 134 } : Room) D z [.ref u0, .int (nI 13)] [(u0, .inr (9, [.ref u1, .ref u2, .ref u3, .ref u4, .ref u5, .ref u6, .int (nI kn), .ref u7, .int (bB ik), .ref u8, .int (nI ty), .ref u9, .int (nI ta), .int (bB iw), .ref u10, .ref u11])), (u5, .inl (tyI D, 208, .inl M))] (fun r_ w_ => r_ = some (.int (sv_se s 2)) ∧ w_ = [(u0, .inr (9, [.ref u1, .ref u2, .ref u3, .ref u4, .ref u5, .ref u6, .int (nI kn), .ref u7, .int (bB ik), .ref u8, .int (nI ty), .ref u9, .int (nI ta), .int (bB iw), .ref u10, .ref u11])), (u5, .inl (tyI D, 208, .inl M))]) 0 0 := by
  refine CM_int (own := RX9) (cc := cX9_count) (maxL := 2) (L0 := [(0, .ref u0), (1, .int (nI 13))]) (by decide) rfl rfl (Nat.le_of_ble_eq_true rfl) rfl (fun X O E => ?_)
  refine g_iload_n O dX9_count_0 1 rfl rfl ?_
  refine g_tableIn (off := 143) (tgt := 144) O dX9_count_1 (by decide +kernel) (by decide +kernel) (by decide +kernel) (by decide) ?_
  refine g_aload_n O dX9_count_144 0 rfl rfl ?_
  refine g_get O hiX9_count_X9 0 rfl rfl 4 (by decide) (by decide +kernel) rfl dX9_count_145 ?_
  refine g_sipush (x := (nI 144)) O dX9_count_148 (by decide +kernel) ?_
  refine g_iload_n O dX9_count_151 1 rfl rfl ?_
  refine g_iaddN O dX9_count_152 ?_
  refine g_bipush (x := (nI 11)) O dX9_count_153 (by decide +kernel) ?_
  refine g_isubN O (by omega) dX9_count_155 ?_
  refine g_eq (st' := [.int (nI 146), .ref u5]) rfl rfl rfl ?_
  refine g_ialdN O 1 rfl (by omega) (by omega) dX9_count_156 ?_
  refine g_eq (st' := [.int (sv_se s 2)]) (by rw [RM_s2 hM]) rfl rfl ?_
  exact E 157 _ (sv_se s 2) _ dX9_count_157 ⟨rfl, rfl⟩

set_option maxHeartbeats 2000000 in
set_option maxRecDepth 100000 in
theorem kX9_count_14 (l : Launch) (D : va_G) (z : Nat × Nat × Nat) (u0 : Nat) (u1 : Nat) (u2 : Nat) (u3 : Nat) (u4 : Nat) (u5 : Nat) (u6 : Nat) (u7 : Nat) (u8 : Nat) (u9 : Nat) (u10 : Nat) (u11 : Nat) (kn : Nat) (ik : Bool) (ty : Nat) (ta : Nat) (iw : Bool) (M : Nat → Int32) (s : SV) (hM : RM M s) : CM l yX9_count wsX9_count ({ frames := 6, cells := 0, slots := 0, locals := 134 } : Room) D z [.ref u0, .int (nI 14)] [(u0, .inr (9, [.ref u1, .ref u2, .ref u3, .ref u4, .ref u5, .ref u6, .int (nI kn), .ref u7, .int (bB ik), .ref u8, .int (nI ty), .ref u9, .int (nI ta), .int (bB iw), .ref u10, .ref u11])), (u5, .inl (tyI D, 208, .inl M))] (fun r_ w_ => r_ = some (.int (sv_se s 3)) ∧ w_ = [(u0, .inr (9, [.ref u1, .ref u2, .ref u3, .ref u4, .ref u5, .ref u6, .int (nI kn), .ref u7, .int (bB ik), .ref u8, .int (nI ty), .ref u9, .int (nI ta), .int (bB iw), .ref u10, .ref u11])), (u5, .inl (tyI D, 208, .inl M))]) 0 0 := by
  refine CM_int (own := RX9) (cc := cX9_count) (maxL := 2) (L0 := [(0, .ref u0), (1, .int (nI 14))]) (by decide) rfl rfl (Nat.le_of_ble_eq_true rfl) rfl (fun X O E => ?_)
  refine g_iload_n O dX9_count_0 1 rfl rfl ?_
  refine g_tableIn (off := 143) (tgt := 144) O dX9_count_1 (by decide +kernel) (by decide +kernel) (by decide +kernel) (by decide) ?_
  refine g_aload_n O dX9_count_144 0 rfl rfl ?_
  refine g_get O hiX9_count_X9 0 rfl rfl 4 (by decide) (by decide +kernel) rfl dX9_count_145 ?_
  refine g_sipush (x := (nI 144)) O dX9_count_148 (by decide +kernel) ?_
  refine g_iload_n O dX9_count_151 1 rfl rfl ?_
  refine g_iaddN O dX9_count_152 ?_
  refine g_bipush (x := (nI 11)) O dX9_count_153 (by decide +kernel) ?_
  refine g_isubN O (by omega) dX9_count_155 ?_
  refine g_eq (st' := [.int (nI 147), .ref u5]) rfl rfl rfl ?_
  refine g_ialdN O 1 rfl (by omega) (by omega) dX9_count_156 ?_
  refine g_eq (st' := [.int (sv_se s 3)]) (by rw [RM_s3 hM]) rfl rfl ?_
  exact E 157 _ (sv_se s 3) _ dX9_count_157 ⟨rfl, rfl⟩

set_option maxHeartbeats 2000000 in
set_option maxRecDepth 100000 in
theorem kX9_count_15 (l : Launch) (D : va_G) (z : Nat × Nat × Nat) (u0 : Nat) (u1 : Nat) (u2 : Nat) (u3 : Nat) (u4 : Nat) (u5 : Nat) (u6 : Nat) (u7 : Nat) (u8 : Nat) (u9 : Nat) (u10 : Nat) (u11 : Nat) (kn : Nat) (ik : Bool) (ty : Nat) (ta : Nat) (iw : Bool)  : CM l yX9_count wsX9_count ({ frames := 6, cells := 0, slots := 0, locals := 134 } : Room) D z [.ref u0, .int (nI 15)] [(u0, .inr (9, [.ref u1, .ref u2, .ref u3, .ref u4, .ref u5, .ref u6, .int (nI kn), .ref u7, .int (bB ik), .ref u8, .int (nI ty), .ref u9, .int (nI ta), .int (bB iw), .ref u10, .ref u11]))] (fun r_ w_ => r_ = some (.int (nI kn)) ∧ w_ = [(u0, .inr (9, [.ref u1, .ref u2, .ref u3, .ref u4, .ref u5, .ref u6, .int (nI kn), .ref u7, .int (bB ik), .ref u8, .int (nI ty), .ref u9, .int (nI ta), .int (bB iw), .ref u10, .ref u11]))]) 0 0 := by
  refine CM_int (own := RX9) (cc := cX9_count) (maxL := 2) (L0 := [(0, .ref u0), (1, .int (nI 15))]) (by decide) rfl rfl (Nat.le_of_ble_eq_true rfl) rfl (fun X O E => ?_)
  refine g_iload_n O dX9_count_0 1 rfl rfl ?_
  refine g_tableIn (off := 157) (tgt := 158) O dX9_count_1 (by decide +kernel) (by decide +kernel) (by decide +kernel) (by decide) ?_
  refine g_aload_n O dX9_count_158 0 rfl rfl ?_
  refine g_get O hiX9_count_X9 0 rfl rfl 6 (by decide) (by decide +kernel) rfl dX9_count_159 ?_
  exact E 162 _ (nI kn) _ dX9_count_162 ⟨rfl, rfl⟩

set_option maxHeartbeats 2000000 in
set_option maxRecDepth 100000 in
theorem kX9_count_16 (l : Launch) (D : va_G) (z : Nat × Nat × Nat) (u0 : Nat) (u1 : Nat) (u2 : Nat) (u3 : Nat) (u4 : Nat) (u5 : Nat) (u6 : Nat) (u7 : Nat) (u8 : Nat) (u9 : Nat) (u10 : Nat) (u11 : Nat) (kn : Nat) (ik : Bool) (ty : Nat) (ta : Nat) (iw : Bool)  : CM l yX9_count wsX9_count ({ frames := 6, cells := 0, slots := 0, locals := 134 } : Room) D z [.ref u0, .int (nI 16)] [(u0, .inr (9, [.ref u1, .ref u2, .ref u3, .ref u4, .ref u5, .ref u6, .int (nI kn), .ref u7, .int (bB ik), .ref u8, .int (nI ty), .ref u9, .int (nI ta), .int (bB iw), .ref u10, .ref u11]))] (fun r_ w_ => r_ = some (.int (nI ty)) ∧ w_ = [(u0, .inr (9, [.ref u1, .ref u2, .ref u3, .ref u4, .ref u5, .ref u6, .int (nI kn), .ref u7, .int (bB ik), .ref u8, .int (nI ty), .ref u9, .int (nI ta), .int (bB iw), .ref u10, .ref u11]))]) 0 0 := by
  refine CM_int (own := RX9) (cc := cX9_count) (maxL := 2) (L0 := [(0, .ref u0), (1, .int (nI 16))]) (by decide) rfl rfl (Nat.le_of_ble_eq_true rfl) rfl (fun X O E => ?_)
  refine g_iload_n O dX9_count_0 1 rfl rfl ?_
  refine g_tableIn (off := 162) (tgt := 163) O dX9_count_1 (by decide +kernel) (by decide +kernel) (by decide +kernel) (by decide) ?_
  refine g_aload_n O dX9_count_163 0 rfl rfl ?_
  refine g_get O hiX9_count_X9 0 rfl rfl 10 (by decide) (by decide +kernel) rfl dX9_count_164 ?_
  exact E 167 _ (nI ty) _ dX9_count_167 ⟨rfl, rfl⟩

theorem hiX9_clampAt_X9 : ∀ w ∈ wsX90, w ∈ wsX9_clampAt := by intro w h; simp only [wsX9_clampAt, List.mem_append, List.mem_cons, h, or_true, true_or]
set_option maxHeartbeats 2000000 in
set_option maxRecDepth 100000 in
theorem kX9_clampAt_b1 (l : Launch) (D : va_G) (z : Nat × Nat × Nat) (u0 : Nat) (u1 : Nat) (u2 : Nat) (u3 : Nat) (u4 : Nat) (u5 : Nat) (u6 : Nat) (u7 : Nat) (u8 : Nat) (u9 : Nat) (u10 : Nat) (u11 : Nat) (kn : Nat) (ik : Bool) (ty : Nat) (ta : Nat) (iw : Bool) (M : Nat → Int32) (s : SV) (x : Int32) (r : Bool) (hM : RM M s) (hnc : sv_nc s ≤ 4) (hb : rgB x (sv_nc s) = false) : CM l yX9_clampAt wsX9_clampAt ({ frames := 1, cells := 0, slots := 0, locals := 22 } : Room) D z [.ref u0, .int x, .int (bB r)] [(u0, .inr (9, [.ref u1, .ref u2, .ref u3, .ref u4, .ref u5, .ref u6, .int (nI kn), .ref u7, .int (bB ik), .ref u8, .int (nI ty), .ref u9, .int (nI ta), .int (bB iw), .ref u10, .ref u11])), (u5, .inl (tyI D, 208, .inl M))] (fun r_ w_ => r_ = some (.int (-1)) ∧ w_ = [(u0, .inr (9, [.ref u1, .ref u2, .ref u3, .ref u4, .ref u5, .ref u6, .int (nI kn), .ref u7, .int (bB ik), .ref u8, .int (nI ty), .ref u9, .int (nI ta), .int (bB iw), .ref u10, .ref u11])), (u5, .inl (tyI D, 208, .inl M))]) 0 0 := by
  refine CM_int (own := RX9) (cc := cX9_clampAt) (maxL := 3) (L0 := [(0, .ref u0), (1, .int x), (2, .int (bB r))]) (by decide) rfl rfl (Nat.le_of_ble_eq_true rfl) rfl (fun X O E => ?_)
  refine g_iload_n O dX9_clampAt_0 1 rfl rfl ?_
  refine g_iconst (x := (nI 0)) O dX9_clampAt_1 (by decide +kernel) ?_
  refine g_aload_n O dX9_clampAt_2 0 rfl rfl ?_
  refine g_get O hiX9_clampAt_X9 0 rfl rfl 4 (by decide) (by decide +kernel) rfl dX9_clampAt_3 ?_
  refine g_sipush (x := (nI 154)) O dX9_clampAt_6 (by decide +kernel) ?_
  refine g_ialdN O 1 rfl (by omega) (by omega) dX9_clampAt_9 ?_
  refine g_eq (st' := [.int (nI (sv_nc s)), .int (nI 0), .int x]) (by rw [RM_nc hM]) rfl rfl ?_
  refine g_iconst (x := (nI 1)) O dX9_clampAt_10 (by decide +kernel) ?_
  refine g_isub O dX9_clampAt_11 ?_
  refine g_callS (As := [.int x, .int (nI 0), .int ((nI (sv_nc s)) - (nI 1))]) (wr := [(u0, .inr (9, [.ref u1, .ref u2, .ref u3, .ref u4, .ref u5, .ref u6, .int (nI kn), .ref u7, .int (bB ik), .ref u8, .int (nI ty), .ref u9, .int (nI ta), .int (bB iw), .ref u10, .ref u11])), (u5, .inl (tyI D, 208, .inl M))]) O (kX9_in l D z x (nI 0) ((nI (sv_nc s)) - (nI 1)) ) gX9_clampAt_X9_in rfl rfl rfl 3 (by decide +kernel) (by decide) (by decide) [] [0, 1] rfl (by decide) rfl (by decide) (by decide) rfl rfl (Nat.le_of_ble_eq_true rfl) dX9_clampAt_12 (fun r_1 w_2 hp => ?_)
  obtain ⟨rfl, rfl⟩ := hp
  refine g_eq (st' := [.int (bB (inI x (nI 0) ((nI (sv_nc s)) - (nI 1))))]) (ws' := [(u0, .inr (9, [.ref u1, .ref u2, .ref u3, .ref u4, .ref u5, .ref u6, .int (nI kn), .ref u7, .int (bB ik), .ref u8, .int (nI ty), .ref u9, .int (nI ta), .int (bB iw), .ref u10, .ref u11])), (u5, .inl (tyI D, 208, .inl M))]) rfl rfl rfl ?_
  refine g_eq (st' := [.int (bB (rgB x (sv_nc s)))]) (by rw [inI_n1 _ hnc]) rfl rfl ?_
  refine g_if_neB (tgt := 22) O dX9_clampAt_15 (by decide) (fun c_3 => absurd c_3 (by rw [hb]; decide)) (fun c_3 => ?_)
  refine g_iconst (x := (-1)) O dX9_clampAt_18 (by decide +kernel) ?_
  refine g_goto (tgt := 55) O dX9_clampAt_19 (by decide) ?_
  exact E 55 _ (-1) _ dX9_clampAt_55 ⟨rfl, rfl⟩

set_option maxHeartbeats 2000000 in
set_option maxRecDepth 100000 in
theorem kX9_clampAt_ok (l : Launch) (D : va_G) (z : Nat × Nat × Nat) (u0 : Nat) (u1 : Nat) (u2 : Nat) (u3 : Nat) (u4 : Nat) (u5 : Nat) (u6 : Nat) (u7 : Nat) (u8 : Nat) (u9 : Nat) (u10 : Nat) (u11 : Nat) (kn : Nat) (ik : Bool) (ty : Nat) (ta : Nat) (iw : Bool) (M : Nat → Int32) (s : SV) (x : Nat) (r : Bool) (hM : RM M s) (hnc : sv_nc s ≤ 4) (hcc : ∀ j, j < sv_nc s → sv_cc s j < 12 ∧ sv_cr s j < 12) (hx : x < sv_nc s) : CM l yX9_clampAt wsX9_clampAt ({ frames := 1, cells := 0, slots := 0, locals := 22 } : Room) D z [.ref u0, .int (nI x), .int (bB r)] [(u0, .inr (9, [.ref u1, .ref u2, .ref u3, .ref u4, .ref u5, .ref u6, .int (nI kn), .ref u7, .int (bB ik), .ref u8, .int (nI ty), .ref u9, .int (nI ta), .int (bB iw), .ref u10, .ref u11])), (u5, .inl (tyI D, 208, .inl M))] (fun r_ w_ => r_ = some (.int (nI (if r = true then sv_cr s x else sv_cc s x))) ∧ w_ = [(u0, .inr (9, [.ref u1, .ref u2, .ref u3, .ref u4, .ref u5, .ref u6, .int (nI kn), .ref u7, .int (bB ik), .ref u8, .int (nI ty), .ref u9, .int (nI ta), .int (bB iw), .ref u10, .ref u11])), (u5, .inl (tyI D, 208, .inl M))]) 0 0 := by
  refine CM_int (own := RX9) (cc := cX9_clampAt) (maxL := 3) (L0 := [(0, .ref u0), (1, .int (nI x)), (2, .int (bB r))]) (by decide) rfl rfl (Nat.le_of_ble_eq_true rfl) rfl (fun X O E => ?_)
  have hcx := hcc x hx
  refine g_iload_n O dX9_clampAt_0 1 rfl rfl ?_
  refine g_iconst (x := (nI 0)) O dX9_clampAt_1 (by decide +kernel) ?_
  refine g_aload_n O dX9_clampAt_2 0 rfl rfl ?_
  refine g_get O hiX9_clampAt_X9 0 rfl rfl 4 (by decide) (by decide +kernel) rfl dX9_clampAt_3 ?_
  refine g_sipush (x := (nI 154)) O dX9_clampAt_6 (by decide +kernel) ?_
  refine g_ialdN O 1 rfl (by omega) (by omega) dX9_clampAt_9 ?_
  refine g_eq (st' := [.int (nI (sv_nc s)), .int (nI 0), .int (nI x)]) (by rw [RM_nc hM]) rfl rfl ?_
  refine g_iconst (x := (nI 1)) O dX9_clampAt_10 (by decide +kernel) ?_
  refine g_isub O dX9_clampAt_11 ?_
  refine g_callS (As := [.int (nI x), .int (nI 0), .int ((nI (sv_nc s)) - (nI 1))]) (wr := [(u0, .inr (9, [.ref u1, .ref u2, .ref u3, .ref u4, .ref u5, .ref u6, .int (nI kn), .ref u7, .int (bB ik), .ref u8, .int (nI ty), .ref u9, .int (nI ta), .int (bB iw), .ref u10, .ref u11])), (u5, .inl (tyI D, 208, .inl M))]) O (kX9_in l D z (nI x) (nI 0) ((nI (sv_nc s)) - (nI 1)) ) gX9_clampAt_X9_in rfl rfl rfl 3 (by decide +kernel) (by decide) (by decide) [] [0, 1] rfl (by decide) rfl (by decide) (by decide) rfl rfl (Nat.le_of_ble_eq_true rfl) dX9_clampAt_12 (fun r_1 w_2 hp => ?_)
  obtain ⟨rfl, rfl⟩ := hp
  refine g_eq (st' := [.int (bB (inI (nI x) (nI 0) ((nI (sv_nc s)) - (nI 1))))]) (ws' := [(u0, .inr (9, [.ref u1, .ref u2, .ref u3, .ref u4, .ref u5, .ref u6, .int (nI kn), .ref u7, .int (bB ik), .ref u8, .int (nI ty), .ref u9, .int (nI ta), .int (bB iw), .ref u10, .ref u11])), (u5, .inl (tyI D, 208, .inl M))]) rfl rfl rfl ?_
  refine g_eq (st' := [.int (bB (rgB (nI x) (sv_nc s)))]) (by rw [inI_n1 _ hnc]) rfl rfl ?_
  refine g_if_neB (tgt := 22) O dX9_clampAt_15 (by decide) (fun c_3 => ?_) (fun c_3 => absurd c_3 (by rw [rgB_t hx (by omega)]; decide))
  refine g_iload_n O dX9_clampAt_22 2 rfl rfl ?_
  refine g_if_eqB (tgt := 42) O dX9_clampAt_23 (by decide) (fun c_4 => ?_) (fun c_4 => ?_)
  ·
    refine g_aload_n O dX9_clampAt_42 0 rfl rfl ?_
    refine g_get O hiX9_clampAt_X9 0 rfl rfl 4 (by decide) (by decide +kernel) rfl dX9_clampAt_43 ?_
    refine g_sipush (x := (nI 155)) O dX9_clampAt_46 (by decide +kernel) ?_
    refine g_iload_n O dX9_clampAt_49 1 rfl rfl ?_
    refine g_iaddN O dX9_clampAt_50 ?_
    refine g_ialdN O 1 rfl (by omega) (by omega) dX9_clampAt_51 ?_
    refine g_eq (st' := [.int (nI (12 * sv_cr s x + sv_cc s x))]) (by rw [RM_cl hM (show x < sv_nc s by omega)]) rfl rfl ?_
    refine g_bipush (x := (nI 12)) O dX9_clampAt_52 (by decide +kernel) ?_
    refine g_iremN O (by omega) (by omega) (by omega) dX9_clampAt_54 ?_
    exact E 55 _ (nI ((12 * sv_cr s x + sv_cc s x) % 12)) _ dX9_clampAt_55 (by subst_vars; refine ⟨?_, rfl⟩; congr 3; first | (show (12 * sv_cr s x + sv_cc s x) / 12 = sv_cr s x; omega) | (show (12 * sv_cr s x + sv_cc s x) % 12 = sv_cc s x; omega))
  ·
    refine g_aload_n O dX9_clampAt_26 0 rfl rfl ?_
    refine g_get O hiX9_clampAt_X9 0 rfl rfl 4 (by decide) (by decide +kernel) rfl dX9_clampAt_27 ?_
    refine g_sipush (x := (nI 155)) O dX9_clampAt_30 (by decide +kernel) ?_
    refine g_iload_n O dX9_clampAt_33 1 rfl rfl ?_
    refine g_iaddN O dX9_clampAt_34 ?_
    refine g_ialdN O 1 rfl (by omega) (by omega) dX9_clampAt_35 ?_
    refine g_eq (st' := [.int (nI (12 * sv_cr s x + sv_cc s x))]) (by rw [RM_cl hM (show x < sv_nc s by omega)]) rfl rfl ?_
    refine g_bipush (x := (nI 12)) O dX9_clampAt_36 (by decide +kernel) ?_
    refine g_idivN O (by omega) (by omega) (by omega) dX9_clampAt_38 ?_
    refine g_goto (tgt := 55) O dX9_clampAt_39 (by decide) ?_
    exact E 55 _ (nI ((12 * sv_cr s x + sv_cc s x) / 12)) _ dX9_clampAt_55 (by subst_vars; refine ⟨?_, rfl⟩; congr 3; first | (show (12 * sv_cr s x + sv_cc s x) / 12 = sv_cr s x; omega) | (show (12 * sv_cr s x + sv_cc s x) % 12 = sv_cc s x; omega))
