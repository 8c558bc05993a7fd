set_option maxHeartbeats 2000000 in
set_option maxRecDepth 100000 in
theorem kX9_waiting_0 (l : Launch) (D : va_G) (z : Nat × Nat × Nat) (u0 : Nat) (u1 : Nat) (u2 : Nat) (u3 : Nat) (u4 : Nat) (u5 : Nat) (u6 : Nat) (u7 : Nat) (u8 : Nat) (u9 : Nat) (u10 : Nat) (u11 : Nat) (kn : Nat) (ik : Bool) (ty : Nat) (ta : Nat) (iw : Bool) (M : Nat → Int32) (s : SV) (j : Nat) (hM : RM M s) (hps : sv_ps s ≤ 16) (hb : j < sv_ps s) : CM l yX9_waiting wsX9_waiting ({ frames := 4, cells := 0, slots := 0, locals := 89 } : Room) D z [.ref u0, .int (nI j), .int (nI 0)] [(u0, .inr (9, [.ref u1, .ref u2, .ref u3, .ref u4, .ref u5, .ref u6, .int (nI kn), .ref u7, .int (bB ik), .ref u8, .int (nI ty), .ref u9, .int (nI ta), .int (bB iw), .ref u10, .ref u11])), (u5, .inl (tyI D, 208, .inl M))] (fun r_ w_ => r_ = some (.int (nI (sv_fs s j))) ∧ w_ = [(u0, .inr (9, [.ref u1, .ref u2, .ref u3, .ref u4, .ref u5, .ref u6, .int (nI kn), .ref u7, .int (bB ik), .ref u8, .int (nI ty), .ref u9, .int (nI ta), .int (bB iw), .ref u10, .ref u11])), (u5, .inl (tyI D, 208, .inl M))]) 0 0 := by
  refine CM_int (own := RX9) (cc := cX9_waiting) (maxL := 4) (L0 := [(0, .ref u0), (1, .int (nI j)), (2, .int (nI 0))]) (by decide) rfl rfl (Nat.le_of_ble_eq_true rfl) rfl (fun X O E => ?_)
  refine g_iload_n O dX9_waiting_0 1 rfl rfl ?_
  refine g_if_ltN (tgt := 13) O (by omega) dX9_waiting_1 (by decide) ?_
  refine g_iload_n O dX9_waiting_4 2 rfl rfl ?_
  refine g_iconst (x := (nI 0)) O dX9_waiting_5 (by decide +kernel) ?_
  refine g_iconst (x := (nI 3)) O dX9_waiting_6 (by decide +kernel) ?_
  refine g_callS (As := [.int (nI 0), .int (nI 0), .int (nI 3)]) (wr := [(u0, .inr (9, [.ref u1, .ref u2, .ref u3, .ref u4, .ref u5, .ref u6, .int (nI kn), .ref u7, .int (bB ik), .ref u8, .int (nI ty), .ref u9, .int (nI ta), .int (bB iw), .ref u10, .ref u11])), (u5, .inl (tyI D, 208, .inl M))]) O (kX9_in l D z (nI 0) (nI 0) (nI 3) ) gX9_waiting_X9_in rfl rfl rfl 3 (by decide +kernel) (by decide) (by decide) [] [0, 1] rfl (by decide) rfl (by decide) (by decide) rfl rfl (Nat.le_of_ble_eq_true rfl) dX9_waiting_7 (fun r_2 w_3 hp => ?_)
  obtain ⟨rfl, rfl⟩ := hp
  refine g_eq (st' := [.int (bB (inI (nI 0) (nI 0) (nI 3)))]) (ws' := [(u0, .inr (9, [.ref u1, .ref u2, .ref u3, .ref u4, .ref u5, .ref u6, .int (nI kn), .ref u7, .int (bB ik), .ref u8, .int (nI ty), .ref u9, .int (nI ta), .int (bB iw), .ref u10, .ref u11])), (u5, .inl (tyI D, 208, .inl M))]) rfl rfl rfl ?_
  refine g_if_neB (tgt := 16) O dX9_waiting_10 (by decide) (fun c_4 => ?_) (fun c_4 => absurd c_4 (by decide))
  refine g_iload_n O dX9_waiting_16 1 rfl rfl ?_
  refine g_aload_n O dX9_waiting_17 0 rfl rfl ?_
  refine g_get O hiX9_waiting_X9 0 rfl rfl 4 (by decide) (by decide +kernel) rfl dX9_waiting_18 ?_
  refine g_sipush (x := (nI 159)) O dX9_waiting_21 (by decide +kernel) ?_
  refine g_ialdN O 1 rfl (by omega) (by omega) dX9_waiting_24 ?_
  refine g_eq (st' := [.int (nI (sv_ps s)), .int (nI j)]) (by rw [RM_ps hM]) rfl rfl ?_
  refine g_icmp_ltN (tgt := 31) O (by omega) (by omega) dX9_waiting_25 (by decide) (fun c_5 => ?_) (fun c_5 => (by exfalso; omega))
  refine g_sipush (x := (nI 160)) O dX9_waiting_31 (by decide +kernel) ?_
  refine g_iconst (x := (nI 3)) O dX9_waiting_34 (by decide +kernel) ?_
  refine g_iload_n O dX9_waiting_35 1 rfl rfl ?_
  refine g_imulN O dX9_waiting_36 ?_
  refine g_iaddN O dX9_waiting_37 ?_
  refine g_istore_n (L' := [(0, .ref u0), (1, .int (nI j)), (2, .int (nI 0)), (3, .int (nI (160 + (3 * j))))]) O dX9_waiting_38 rfl (by decide) [1, 2, 3, 0] rfl ?_
  refine g_iload_n O dX9_waiting_39 2 rfl rfl ?_
  refine g_iconst (x := (nI 3)) O dX9_waiting_40 (by decide +kernel) ?_
  refine g_icmp_geN (tgt := 55) O (by omega) (by omega) dX9_waiting_41 (by decide) (fun c_6 => absurd c_6 (by decide)) (fun c_6 => ?_)
  refine g_aload_n O dX9_waiting_44 0 rfl rfl ?_
  refine g_get O hiX9_waiting_X9 0 rfl rfl 4 (by decide) (by decide +kernel) rfl dX9_waiting_45 ?_
  refine g_iload_n O dX9_waiting_48 3 rfl rfl ?_
  refine g_iload_n O dX9_waiting_49 2 rfl rfl ?_
  refine g_iaddN O dX9_waiting_50 ?_
  refine g_ialdN O 1 rfl (by omega) (by omega) dX9_waiting_51 ?_
  refine g_eq (st' := [.int (nI (sv_fs s j))]) (by rw [Nat.add_zero, (RM_b hM hb).1]) rfl rfl ?_
  refine g_goto (tgt := 76) O dX9_waiting_52 (by decide) ?_
  exact E 76 _ (nI (sv_fs s j)) _ dX9_waiting_76 ⟨rfl, rfl⟩

set_option maxHeartbeats 2000000 in
set_option maxRecDepth 100000 in
theorem kX9_waiting_1 (l : Launch) (D : va_G) (z : Nat × Nat × Nat) (u0 : Nat) (u1 : Nat) (u2 : Nat) (u3 : Nat) (u4 : Nat) (u5 : Nat) (u6 : Nat) (u7 : Nat) (u8 : Nat) (u9 : Nat) (u10 : Nat) (u11 : Nat) (kn : Nat) (ik : Bool) (ty : Nat) (ta : Nat) (iw : Bool) (M : Nat → Int32) (s : SV) (j : Nat) (hM : RM M s) (hps : sv_ps s ≤ 16) (hb : j < sv_ps s) : CM l yX9_waiting wsX9_waiting ({ frames := 4, cells := 0, slots := 0, locals := 89 } : Room) D z [.ref u0, .int (nI j), .int (nI 1)] [(u0, .inr (9, [.ref u1, .ref u2, .ref u3, .ref u4, .ref u5, .ref u6, .int (nI kn), .ref u7, .int (bB ik), .ref u8, .int (nI ty), .ref u9, .int (nI ta), .int (bB iw), .ref u10, .ref u11])), (u5, .inl (tyI D, 208, .inl M))] (fun r_ w_ => r_ = some (.int (nI (sv_fa s j))) ∧ w_ = [(u0, .inr (9, [.ref u1, .ref u2, .ref u3, .ref u4, .ref u5, .ref u6, .int (nI kn), .ref u7, .int (bB ik), .ref u8, .int (nI ty), .ref u9, .int (nI ta), .int (bB iw), .ref u10, .ref u11])), (u5, .inl (tyI D, 208, .inl M))]) 0 0 := by
  refine CM_int (own := RX9) (cc := cX9_waiting) (maxL := 4) (L0 := [(0, .ref u0), (1, .int (nI j)), (2, .int (nI 1))]) (by decide) rfl rfl (Nat.le_of_ble_eq_true rfl) rfl (fun X O E => ?_)
  refine g_iload_n O dX9_waiting_0 1 rfl rfl ?_
  refine g_if_ltN (tgt := 13) O (by omega) dX9_waiting_1 (by decide) ?_
  refine g_iload_n O dX9_waiting_4 2 rfl rfl ?_
  refine g_iconst (x := (nI 0)) O dX9_waiting_5 (by decide +kernel) ?_
  refine g_iconst (x := (nI 3)) O dX9_waiting_6 (by decide +kernel) ?_
  refine g_callS (As := [.int (nI 1), .int (nI 0), .int (nI 3)]) (wr := [(u0, .inr (9, [.ref u1, .ref u2, .ref u3, .ref u4, .ref u5, .ref u6, .int (nI kn), .ref u7, .int (bB ik), .ref u8, .int (nI ty), .ref u9, .int (nI ta), .int (bB iw), .ref u10, .ref u11])), (u5, .inl (tyI D, 208, .inl M))]) O (kX9_in l D z (nI 1) (nI 0) (nI 3) ) gX9_waiting_X9_in rfl rfl rfl 3 (by decide +kernel) (by decide) (by decide) [] [0, 1] rfl (by decide) rfl (by decide) (by decide) rfl rfl (Nat.le_of_ble_eq_true rfl) dX9_waiting_7 (fun r_2 w_3 hp => ?_)
  obtain ⟨rfl, rfl⟩ := hp
  refine g_eq (st' := [.int (bB (inI (nI 1) (nI 0) (nI 3)))]) (ws' := [(u0, .inr (9, [.ref u1, .ref u2, .ref u3, .ref u4, .ref u5, .ref u6, .int (nI kn), .ref u7, .int (bB ik), .ref u8, .int (nI ty), .ref u9, .int (nI ta), .int (bB iw), .ref u10, .ref u11])), (u5, .inl (tyI D, 208, .inl M))]) rfl rfl rfl ?_
  refine g_if_neB (tgt := 16) O dX9_waiting_10 (by decide) (fun c_4 => ?_) (fun c_4 => absurd c_4 (by decide))
  refine g_iload_n O dX9_waiting_16 1 rfl rfl ?_
  refine g_aload_n O dX9_waiting_17 0 rfl rfl ?_
  refine g_get O hiX9_waiting_X9 0 rfl rfl 4 (by decide) (by decide +kernel) rfl dX9_waiting_18 ?_
  refine g_sipush (x := (nI 159)) O dX9_waiting_21 (by decide +kernel) ?_
  refine g_ialdN O 1 rfl (by omega) (by omega) dX9_waiting_24 ?_
  refine g_eq (st' := [.int (nI (sv_ps s)), .int (nI j)]) (by rw [RM_ps hM]) rfl rfl ?_
  refine g_icmp_ltN (tgt := 31) O (by omega) (by omega) dX9_waiting_25 (by decide) (fun c_5 => ?_) (fun c_5 => (by exfalso; omega))
  refine g_sipush (x := (nI 160)) O dX9_waiting_31 (by decide +kernel) ?_
  refine g_iconst (x := (nI 3)) O dX9_waiting_34 (by decide +kernel) ?_
  refine g_iload_n O dX9_waiting_35 1 rfl rfl ?_
  refine g_imulN O dX9_waiting_36 ?_
  refine g_iaddN O dX9_waiting_37 ?_
  refine g_istore_n (L' := [(0, .ref u0), (1, .int (nI j)), (2, .int (nI 1)), (3, .int (nI (160 + (3 * j))))]) O dX9_waiting_38 rfl (by decide) [1, 2, 3, 0] rfl ?_
  refine g_iload_n O dX9_waiting_39 2 rfl rfl ?_
  refine g_iconst (x := (nI 3)) O dX9_waiting_40 (by decide +kernel) ?_
  refine g_icmp_geN (tgt := 55) O (by omega) (by omega) dX9_waiting_41 (by decide) (fun c_6 => absurd c_6 (by decide)) (fun c_6 => ?_)
  refine g_aload_n O dX9_waiting_44 0 rfl rfl ?_
  refine g_get O hiX9_waiting_X9 0 rfl rfl 4 (by decide) (by decide +kernel) rfl dX9_waiting_45 ?_
  refine g_iload_n O dX9_waiting_48 3 rfl rfl ?_
  refine g_iload_n O dX9_waiting_49 2 rfl rfl ?_
  refine g_iaddN O dX9_waiting_50 ?_
  refine g_ialdN O 1 rfl (by omega) (by omega) dX9_waiting_51 ?_
  refine g_eq (st' := [.int (nI (sv_fa s j))]) (by rw [(RM_b hM hb).2.1]) rfl rfl ?_
  refine g_goto (tgt := 76) O dX9_waiting_52 (by decide) ?_
  exact E 76 _ (nI (sv_fa s j)) _ dX9_waiting_76 ⟨rfl, rfl⟩

set_option maxHeartbeats 2000000 in
set_option maxRecDepth 100000 in
theorem kX9_waiting_2 (l : Launch) (D : va_G) (z : Nat × Nat × Nat) (u0 : Nat) (u1 : Nat) (u2 : Nat) (u3 : Nat) (u4 : Nat) (u5 : Nat) (u6 : Nat) (u7 : Nat) (u8 : Nat) (u9 : Nat) (u10 : Nat) (u11 : Nat) (kn : Nat) (ik : Bool) (ty : Nat) (ta : Nat) (iw : Bool) (M : Nat → Int32) (s : SV) (j : Nat) (hM : RM M s) (hps : sv_ps s ≤ 16) (hb : j < sv_ps s) : CM l yX9_waiting wsX9_waiting ({ frames := 4, cells := 0, slots := 0, locals := 89 } : Room) D z [.ref u0, .int (nI j), .int (nI 2)] [(u0, .inr (9, [.ref u1, .ref u2, .ref u3, .ref u4, .ref u5, .ref u6, .int (nI kn), .ref u7, .int (bB ik), .ref u8, .int (nI ty), .ref u9, .int (nI ta), .int (bB iw), .ref u10, .ref u11])), (u5, .inl (tyI D, 208, .inl M))] (fun r_ w_ => r_ = some (.int (nI (sv_fk s j))) ∧ w_ = [(u0, .inr (9, [.ref u1, .ref u2, .ref u3, .ref u4, .ref u5, .ref u6, .int (nI kn), .ref u7, .int (bB ik), .ref u8, .int (nI ty), .ref u9, .int (nI ta), .int (bB iw), .ref u10, .ref u11])), (u5, .inl (tyI D, 208, .inl M))]) 0 0 := by
  refine CM_int (own := RX9) (cc := cX9_waiting) (maxL := 4) (L0 := [(0, .ref u0), (1, .int (nI j)), (2, .int (nI 2))]) (by decide) rfl rfl (Nat.le_of_ble_eq_true rfl) rfl (fun X O E => ?_)
  refine g_iload_n O dX9_waiting_0 1 rfl rfl ?_
  refine g_if_ltN (tgt := 13) O (by omega) dX9_waiting_1 (by decide) ?_
  refine g_iload_n O dX9_waiting_4 2 rfl rfl ?_
  refine g_iconst (x := (nI 0)) O dX9_waiting_5 (by decide +kernel) ?_
  refine g_iconst (x := (nI 3)) O dX9_waiting_6 (by decide +kernel) ?_
  refine g_callS (As := [.int (nI 2), .int (nI 0), .int (nI 3)]) (wr := [(u0, .inr (9, [.ref u1, .ref u2, .ref u3, .ref u4, .ref u5, .ref u6, .int (nI kn), .ref u7, .int (bB ik), .ref u8, .int (nI ty), .ref u9, .int (nI ta), .int (bB iw), .ref u10, .ref u11])), (u5, .inl (tyI D, 208, .inl M))]) O (kX9_in l D z (nI 2) (nI 0) (nI 3) ) gX9_waiting_X9_in rfl rfl rfl 3 (by decide +kernel) (by decide) (by decide) [] [0, 1] rfl (by decide) rfl (by decide) (by decide) rfl rfl (Nat.le_of_ble_eq_true rfl) dX9_waiting_7 (fun r_2 w_3 hp => ?_)
  obtain ⟨rfl, rfl⟩ := hp
  refine g_eq (st' := [.int (bB (inI (nI 2) (nI 0) (nI 3)))]) (ws' := [(u0, .inr (9, [.ref u1, .ref u2, .ref u3, .ref u4, .ref u5, .ref u6, .int (nI kn), .ref u7, .int (bB ik), .ref u8, .int (nI ty), .ref u9, .int (nI ta), .int (bB iw), .ref u10, .ref u11])), (u5, .inl (tyI D, 208, .inl M))]) rfl rfl rfl ?_
  refine g_if_neB (tgt := 16) O dX9_waiting_10 (by decide) (fun c_4 => ?_) (fun c_4 => absurd c_4 (by decide))
  refine g_iload_n O dX9_waiting_16 1 rfl rfl ?_
  refine g_aload_n O dX9_waiting_17 0 rfl rfl ?_
  refine g_get O hiX9_waiting_X9 0 rfl rfl 4 (by decide) (by decide +kernel) rfl dX9_waiting_18 ?_
  refine g_sipush (x := (nI 159)) O dX9_waiting_21 (by decide +kernel) ?_
  refine g_ialdN O 1 rfl (by omega) (by omega) dX9_waiting_24 ?_
  refine g_eq (st' := [.int (nI (sv_ps s)), .int (nI j)]) (by rw [RM_ps hM]) rfl rfl ?_
  refine g_icmp_ltN (tgt := 31) O (by omega) (by omega) dX9_waiting_25 (by decide) (fun c_5 => ?_) (fun c_5 => (by exfalso; omega))
  refine g_sipush (x := (nI 160)) O dX9_waiting_31 (by decide +kernel) ?_
  refine g_iconst (x := (nI 3)) O dX9_waiting_34 (by decide +kernel) ?_
  refine g_iload_n O dX9_waiting_35 1 rfl rfl ?_
  refine g_imulN O dX9_waiting_36 ?_
  refine g_iaddN O dX9_waiting_37 ?_
  refine g_istore_n (L' := [(0, .ref u0), (1, .int (nI j)), (2, .int (nI 2)), (3, .int (nI (160 + (3 * j))))]) O dX9_waiting_38 rfl (by decide) [1, 2, 3, 0] rfl ?_
  refine g_iload_n O dX9_waiting_39 2 rfl rfl ?_
  refine g_iconst (x := (nI 3)) O dX9_waiting_40 (by decide +kernel) ?_
  refine g_icmp_geN (tgt := 55) O (by omega) (by omega) dX9_waiting_41 (by decide) (fun c_6 => absurd c_6 (by decide)) (fun c_6 => ?_)
  refine g_aload_n O dX9_waiting_44 0 rfl rfl ?_
  refine g_get O hiX9_waiting_X9 0 rfl rfl 4 (by decide) (by decide +kernel) rfl dX9_waiting_45 ?_
  refine g_iload_n O dX9_waiting_48 3 rfl rfl ?_
  refine g_iload_n O dX9_waiting_49 2 rfl rfl ?_
  refine g_iaddN O dX9_waiting_50 ?_
  refine g_ialdN O 1 rfl (by omega) (by omega) dX9_waiting_51 ?_
  refine g_eq (st' := [.int (nI (sv_fk s j))]) (by rw [(RM_b hM hb).2.2]) rfl rfl ?_
  refine g_goto (tgt := 76) O dX9_waiting_52 (by decide) ?_
  exact E 76 _ (nI (sv_fk s j)) _ dX9_waiting_76 ⟨rfl, rfl⟩

set_option maxHeartbeats 2000000 in
set_option maxRecDepth 100000 in
theorem kX9_waiting_3 (l : Launch) (D : va_G) (z : Nat × Nat × Nat) (u0 : Nat) (u1 : Nat) (u2 : Nat) (u3 : Nat) (u4 : Nat) (u5 : Nat) (u6 : Nat) (u7 : Nat) (u8 : Nat) (u9 : Nat) (u10 : Nat) (u11 : Nat) (kn : Nat) (ik : Bool) (ty : Nat) (ta : Nat) (iw : Bool) (M : Nat → Int32) (s : SV) (j : Nat) (hM : RM M s) (hnc : sv_nc s ≤ 4) (hcc : ∀ j, j < sv_nc s → sv_cc s j < 12 ∧ sv_cr s j < 12) (hps : sv_ps s ≤ 16) (hpc : ∀ j, j < sv_ps s → sv_fs s j < 4 ∧ sv_fa s j < 12 ∧ 1 ≤ sv_fk s j ∧ sv_fk s j ≤ 20) (hb : j < sv_ps s) : CM l yX9_waiting wsX9_waiting ({ frames := 4, cells := 0, slots := 0, locals := 89 } : Room) D z [.ref u0, .int (nI j), .int (nI 3)] [(u0, .inr (9, [.ref u1, .ref u2, .ref u3, .ref u4, .ref u5, .ref u6, .int (nI kn), .ref u7, .int (bB ik), .ref u8, .int (nI ty), .ref u9, .int (nI ta), .int (bB iw), .ref u10, .ref u11])), (u4, .inl (tyI D, 6912, .inl SWT)), (u5, .inl (tyI D, 208, .inl M))] (fun r_ w_ => r_ = some (.int (orN (wyO s (bpN (sv_fs s j) (sv_fa s j))))) ∧ w_ = [(u0, .inr (9, [.ref u1, .ref u2, .ref u3, .ref u4, .ref u5, .ref u6, .int (nI kn), .ref u7, .int (bB ik), .ref u8, .int (nI ty), .ref u9, .int (nI ta), .int (bB iw), .ref u10, .ref u11])), (u4, .inl (tyI D, 6912, .inl SWT)), (u5, .inl (tyI D, 208, .inl M))]) 0 0 := by
  refine CM_int (own := RX9) (cc := cX9_waiting) (maxL := 4) (L0 := [(0, .ref u0), (1, .int (nI j)), (2, .int (nI 3))]) (by decide) rfl rfl (Nat.le_of_ble_eq_true rfl) rfl (fun X O E => ?_)
  have hpj := hpc j hb
  refine g_iload_n O dX9_waiting_0 1 rfl rfl ?_
  refine g_if_ltN (tgt := 13) O (by omega) dX9_waiting_1 (by decide) ?_
  refine g_iload_n O dX9_waiting_4 2 rfl rfl ?_
  refine g_iconst (x := (nI 0)) O dX9_waiting_5 (by decide +kernel) ?_
  refine g_iconst (x := (nI 3)) O dX9_waiting_6 (by decide +kernel) ?_
  refine g_callS (As := [.int (nI 3), .int (nI 0), .int (nI 3)]) (wr := [(u0, .inr (9, [.ref u1, .ref u2, .ref u3, .ref u4, .ref u5, .ref u6, .int (nI kn), .ref u7, .int (bB ik), .ref u8, .int (nI ty), .ref u9, .int (nI ta), .int (bB iw), .ref u10, .ref u11])), (u4, .inl (tyI D, 6912, .inl SWT)), (u5, .inl (tyI D, 208, .inl M))]) O (kX9_in l D z (nI 3) (nI 0) (nI 3) ) gX9_waiting_X9_in rfl rfl rfl 3 (by decide +kernel) (by decide) (by decide) [] [0, 1, 2] rfl (by decide) rfl (by decide) (by decide) rfl rfl (Nat.le_of_ble_eq_true rfl) dX9_waiting_7 (fun r_2 w_3 hp => ?_)
  obtain ⟨rfl, rfl⟩ := hp
  refine g_eq (st' := [.int (bB (inI (nI 3) (nI 0) (nI 3)))]) (ws' := [(u0, .inr (9, [.ref u1, .ref u2, .ref u3, .ref u4, .ref u5, .ref u6, .int (nI kn), .ref u7, .int (bB ik), .ref u8, .int (nI ty), .ref u9, .int (nI ta), .int (bB iw), .ref u10, .ref u11])), (u4, .inl (tyI D, 6912, .inl SWT)), (u5, .inl (tyI D, 208, .inl M))]) rfl rfl rfl ?_
  refine g_if_neB (tgt := 16) O dX9_waiting_10 (by decide) (fun c_4 => ?_) (fun c_4 => absurd c_4 (by decide))
  refine g_iload_n O dX9_waiting_16 1 rfl rfl ?_
  refine g_aload_n O dX9_waiting_17 0 rfl rfl ?_
  refine g_get O hiX9_waiting_X9 0 rfl rfl 4 (by decide) (by decide +kernel) rfl dX9_waiting_18 ?_
  refine g_sipush (x := (nI 159)) O dX9_waiting_21 (by decide +kernel) ?_
  refine g_ialdN O 2 rfl (by omega) (by omega) dX9_waiting_24 ?_
  refine g_eq (st' := [.int (nI (sv_ps s)), .int (nI j)]) (by rw [RM_ps hM]) rfl rfl ?_
  refine g_icmp_ltN (tgt := 31) O (by omega) (by omega) dX9_waiting_25 (by decide) (fun c_5 => ?_) (fun c_5 => (by exfalso; omega))
  refine g_sipush (x := (nI 160)) O dX9_waiting_31 (by decide +kernel) ?_
  refine g_iconst (x := (nI 3)) O dX9_waiting_34 (by decide +kernel) ?_
  refine g_iload_n O dX9_waiting_35 1 rfl rfl ?_
  refine g_imulN O dX9_waiting_36 ?_
  refine g_iaddN O dX9_waiting_37 ?_
  refine g_istore_n (L' := [(0, .ref u0), (1, .int (nI j)), (2, .int (nI 3)), (3, .int (nI (160 + (3 * j))))]) O dX9_waiting_38 rfl (by decide) [1, 2, 3, 0] rfl ?_
  refine g_iload_n O dX9_waiting_39 2 rfl rfl ?_
  refine g_iconst (x := (nI 3)) O dX9_waiting_40 (by decide +kernel) ?_
  refine g_icmp_geN (tgt := 55) O (by omega) (by omega) dX9_waiting_41 (by decide) (fun c_6 => ?_) (fun c_6 => absurd c_6 (by decide))
  refine g_aload_n O dX9_waiting_55 0 rfl rfl ?_
  refine g_aload_n O dX9_waiting_56 0 rfl rfl ?_
  refine g_get O hiX9_waiting_X9 0 rfl rfl 4 (by decide) (by decide +kernel) rfl dX9_waiting_57 ?_
  refine g_iload_n O dX9_waiting_60 3 rfl rfl ?_
  refine g_ialdN O 2 rfl (by omega) (by omega) dX9_waiting_61 ?_
  refine g_eq (st' := [.int (nI (sv_fs s j)), .ref u0]) (by rw [(RM_b hM hb).1]) rfl rfl ?_
  refine g_aload_n O dX9_waiting_62 0 rfl rfl ?_
  refine g_get O hiX9_waiting_X9 0 rfl rfl 4 (by decide) (by decide +kernel) rfl dX9_waiting_63 ?_
  refine g_iload_n O dX9_waiting_66 3 rfl rfl ?_
  refine g_iconst (x := (nI 1)) O dX9_waiting_67 (by decide +kernel) ?_
  refine g_iaddN O dX9_waiting_68 ?_
  refine g_ialdN O 2 rfl (by omega) (by omega) dX9_waiting_69 ?_
  refine g_eq (st' := [.int (nI (sv_fa s j)), .int (nI (sv_fs s j)), .ref u0]) (by rw [(RM_b hM hb).2.1]) rfl rfl ?_
  refine g_callS (As := [.int (nI (sv_fs s j)), .int (nI (sv_fa s j))]) (wr := [(u0, .inr (9, [.ref u1, .ref u2, .ref u3, .ref u4, .ref u5, .ref u6, .int (nI kn), .ref u7, .int (bB ik), .ref u8, .int (nI ty), .ref u9, .int (nI ta), .int (bB iw), .ref u10, .ref u11])), (u4, .inl (tyI D, 6912, .inl SWT)), (u5, .inl (tyI D, 208, .inl M))]) O (kX9_bowPlace l D z (sv_fs s j) (sv_fa s j) (by first | assumption | exact hpj.1)) gX9_waiting_X9_bowPlace rfl rfl rfl 2 (by decide +kernel) (by decide) (by decide) [] [0, 1, 2] rfl (by decide) rfl (by decide) (by decide) rfl rfl (Nat.le_of_ble_eq_true rfl) dX9_waiting_70 (fun r_7 w_8 hp => ?_)
  obtain ⟨rfl, rfl⟩ := hp
  refine g_eq (st' := [.int (nI (bpN (sv_fs s j) (sv_fa s j))), .ref u0]) (ws' := [(u0, .inr (9, [.ref u1, .ref u2, .ref u3, .ref u4, .ref u5, .ref u6, .int (nI kn), .ref u7, .int (bB ik), .ref u8, .int (nI ty), .ref u9, .int (nI ta), .int (bB iw), .ref u10, .ref u11])), (u4, .inl (tyI D, 6912, .inl SWT)), (u5, .inl (tyI D, 208, .inl M))]) rfl rfl rfl ?_
  refine g_callV (As := [.int (nI (bpN (sv_fs s j) (sv_fa s j)))]) (wr := []) O (kX9_soundsAt l D z u0 u1 u2 u3 u4 u5 u6 u7 u8 u9 u10 u11 kn ik ty ta iw M s (bpN (sv_fs s j) (sv_fa s j)) (by first | assumption | exact bpN_lt hpj.2.1) (by first | assumption | exact bpN_lt hpj.2.1) (by first | assumption | exact bpN_lt hpj.2.1) (by first | assumption | exact bpN_lt hpj.2.1)) gX9_waiting_X9_soundsAt rfl rfl rfl 1 (by decide +kernel) (by decide) (by decide) (q0 := 0) rfl rfl rfl [0, 1, 2] [] rfl (by decide) rfl (by decide) (by decide) rfl rfl (Nat.le_of_ble_eq_true rfl) dX9_waiting_73 (fun r_9 w_10 hp => ?_)
  obtain ⟨rfl, rfl⟩ := hp
  refine g_eq (st' := [.int (orN (wyO s (bpN (sv_fs s j) (sv_fa s j))))]) (ws' := [(u0, .inr (9, [.ref u1, .ref u2, .ref u3, .ref u4, .ref u5, .ref u6, .int (nI kn), .ref u7, .int (bB ik), .ref u8, .int (nI ty), .ref u9, .int (nI ta), .int (bB iw), .ref u10, .ref u11])), (u4, .inl (tyI D, 6912, .inl SWT)), (u5, .inl (tyI D, 208, .inl M))]) rfl rfl rfl ?_
  exact E 76 _ (orN (wyO s (bpN (sv_fs s j) (sv_fa s j)))) _ dX9_waiting_76 ⟨rfl, rfl⟩

set_option maxHeartbeats 2000000 in
set_option maxRecDepth 100000 in
theorem kX9_sand_b1 (l : Launch) (D : va_G) (z : Nat × Nat × Nat) (u0 : Nat) (u1 : Nat) (u2 : Nat) (u3 : Nat) (u4 : Nat) (u5 : Nat) (u6 : Nat) (u7 : Nat) (u8 : Nat) (u9 : Nat) (u10 : Nat) (u11 : Nat) (kn : Nat) (ik : Bool) (ty : Nat) (ta : Nat) (iw : Bool) (r : Bool) (x : Int32) (hb : rgB x 12 = false) : CM l yX9_sand wsX9_sand ({ frames := 1, cells := 0, slots := 0, locals := 22 } : Room) D z [.ref u0, .int (bB r), .int x] [(u0, .inr (9, [.ref u1, .ref u2, .ref u3, .ref u4, .ref u5, .ref u6, .int (nI kn), .ref u7, .int (bB ik), .ref u8, .int (nI ty), .ref u9, .int (nI ta), .int (bB iw), .ref u10, .ref u11]))] (fun r_ w_ => r_ = some (.int (-1)) ∧ w_ = [(u0, .inr (9, [.ref u1, .ref u2, .ref u3, .ref u4, .ref u5, .ref u6, .int (nI kn), .ref u7, .int (bB ik), .ref u8, .int (nI ty), .ref u9, .int (nI ta), .int (bB iw), .ref u10, .ref u11]))]) 0 0 := by
  refine CM_int (own := RX9) (cc := cX9_sand) (maxL := 5) (L0 := [(0, .ref u0), (1, .int (bB r)), (2, .int x)]) (by decide) rfl rfl (Nat.le_of_ble_eq_true rfl) rfl (fun X O E => ?_)
  refine g_iload_n O dX9_sand_0 2 rfl rfl ?_
  refine g_iconst (x := (nI 0)) O dX9_sand_1 (by decide +kernel) ?_
  refine g_bipush (x := (nI 11)) O dX9_sand_2 (by decide +kernel) ?_
  refine g_callS (As := [.int x, .int (nI 0), .int (nI 11)]) (wr := [(u0, .inr (9, [.ref u1, .ref u2, .ref u3, .ref u4, .ref u5, .ref u6, .int (nI kn), .ref u7, .int (bB ik), .ref u8, .int (nI ty), .ref u9, .int (nI ta), .int (bB iw), .ref u10, .ref u11]))]) O (kX9_in l D z x (nI 0) (nI 11) ) gX9_sand_X9_in rfl rfl rfl 3 (by decide +kernel) (by decide) (by decide) [] [0] rfl (by decide) rfl (by decide) (by decide) rfl rfl (Nat.le_of_ble_eq_true rfl) dX9_sand_4 (fun r_1 w_2 hp => ?_)
  obtain ⟨rfl, rfl⟩ := hp
  refine g_eq (st' := [.int (bB (inI x (nI 0) (nI 11)))]) (ws' := [(u0, .inr (9, [.ref u1, .ref u2, .ref u3, .ref u4, .ref u5, .ref u6, .int (nI kn), .ref u7, .int (bB ik), .ref u8, .int (nI ty), .ref u9, .int (nI ta), .int (bB iw), .ref u10, .ref u11]))]) rfl rfl rfl ?_
  refine g_if_neB (tgt := 12) O dX9_sand_7 (by decide) (fun c_3 => absurd c_3 (by rw [inI_r _ (by decide), hb]; decide)) (fun c_3 => ?_)
  refine g_iconst (x := (-1)) O dX9_sand_10 (by decide +kernel) ?_
  exact E 11 _ (-1) _ dX9_sand_11 ⟨rfl, rfl⟩

theorem hiX9_sand_X9 : ∀ w ∈ wsX90, w ∈ wsX9_sand := by intro w h; simp only [wsX9_sand, List.mem_append, List.mem_cons, h, or_true, true_or]
set_option maxHeartbeats 2000000 in
set_option maxRecDepth 100000 in
/-- sand -/
theorem kX9_sand_row (l : Launch) (D : va_G) (z : Nat × Nat × Nat) (u0 : Nat) (u1 : Nat) (u2 : Nat) (u3 : Nat) (u4 : Nat) (u5 : Nat) (u6 : Nat) (u7 : Nat) (u8 : Nat) (u9 : Nat) (u10 : Nat) (u11 : Nat) (kn : Nat) (ik : Bool) (ty : Nat) (ta : Nat) (iw : Bool) (M : Nat → Int32) (s : SV) (x : Nat) (hx : x < 12) (hM : RM M s) : CM l yX9_sand wsX9_sand ({ frames := 1, cells := 0, slots := 0, locals := 22 } : Room) D z [.ref u0, .int (bB true), .int (nI x)] [(u0, .inr (9, [.ref u1, .ref u2, .ref u3, .ref u4, .ref u5, .ref u6, .int (nI kn), .ref u7, .int (bB ik), .ref u8, .int (nI ty), .ref u9, .int (nI ta), .int (bB iw), .ref u10, .ref u11])), (u5, .inl (tyI D, 208, .inl M))] (fun r_ w_ => r_ = some (.int (nI (smN (fun p => if p / 12 = x then sv_g s p else 0) 144))) ∧ w_ = [(u0, .inr (9, [.ref u1, .ref u2, .ref u3, .ref u4, .ref u5, .ref u6, .int (nI kn), .ref u7, .int (bB ik), .ref u8, .int (nI ty), .ref u9, .int (nI ta), .int (bB iw), .ref u10, .ref u11])), (u5, .inl (tyI D, 208, .inl M))]) 0 0 := by
  refine CM_int (own := RX9) (cc := cX9_sand) (maxL := 5) (L0 := [(0, .ref u0), (1, .int (bB true)), (2, .int (nI x))]) (by decide) rfl rfl (Nat.le_of_ble_eq_true rfl) rfl (fun X O E => ?_)
  refine g_iload_n O dX9_sand_0 2 rfl rfl ?_
  refine g_iconst (x := (nI 0)) O dX9_sand_1 (by decide +kernel) ?_
  refine g_bipush (x := (nI 11)) O dX9_sand_2 (by decide +kernel) ?_
  refine g_callS (As := [.int (nI x), .int (nI 0), .int (nI 11)]) (wr := [(u0, .inr (9, [.ref u1, .ref u2, .ref u3, .ref u4, .ref u5, .ref u6, .int (nI kn), .ref u7, .int (bB ik), .ref u8, .int (nI ty), .ref u9, .int (nI ta), .int (bB iw), .ref u10, .ref u11])), (u5, .inl (tyI D, 208, .inl M))]) O (kX9_in l D z (nI x) (nI 0) (nI 11) ) gX9_sand_X9_in rfl rfl rfl 3 (by decide +kernel) (by decide) (by decide) [] [0, 1] rfl (by decide) rfl (by decide) (by decide) rfl rfl (Nat.le_of_ble_eq_true rfl) dX9_sand_4 (fun r_1 w_2 hp => ?_)
  obtain ⟨rfl, rfl⟩ := hp
  refine g_eq (st' := [.int (bB (inI (nI x) (nI 0) (nI 11)))]) (ws' := [(u0, .inr (9, [.ref u1, .ref u2, .ref u3, .ref u4, .ref u5, .ref u6, .int (nI kn), .ref u7, .int (bB ik), .ref u8, .int (nI ty), .ref u9, .int (nI ta), .int (bB iw), .ref u10, .ref u11])), (u5, .inl (tyI D, 208, .inl M))]) rfl rfl rfl ?_
  refine g_if_neB (tgt := 12) O dX9_sand_7 (by decide) (fun c_3 => ?_) (fun c_3 => absurd c_3 (by rw [inI_r _ (by decide), rgB_t hx (by decide)]; decide))
  refine g_iconst (x := (nI 0)) O dX9_sand_12 (by decide +kernel) ?_
  refine g_istore_n (L' := [(0, .ref u0), (1, .int (bB true)), (2, .int (nI x)), (3, .int (nI 0))]) O dX9_sand_13 rfl (by decide) [1, 2, 3, 0] rfl ?_
  refine g_iconst (x := (nI 0)) O dX9_sand_14 (by decide +kernel) ?_
  refine g_istore (L' := [(0, .ref u0), (1, .int (bB true)), (2, .int (nI x)), (3, .int (nI 0)), (4, .int (nI 0))]) O dX9_sand_15 (by decide) [1, 2, 3, 4, 0] rfl ?_
  have J17 : ∀ (n_ : Nat), ∀ (i_ : Nat) (hi_ : i_ ≤ 144), 144 - i_ < n_ → G X 0 0 17 [(0, .ref u0), (1, .int (bB true)), (2, .int (nI x)), (3, .int (nI (smN (fun p => if p / 12 = x then sv_g s p else 0) i_))), (4, .int (nI i_))] [] [(u0, .inr (9, [.ref u1, .ref u2, .ref u3, .ref u4, .ref u5, .ref u6, .int (nI kn), .ref u7, .int (bB ik), .ref u8, .int (nI ty), .ref u9, .int (nI ta), .int (bB iw), .ref u10, .ref u11])), (u5, .inl (tyI D, 208, .inl M))] := by
    intro n_
    induction n_ with
    | zero => intro i_ hi_ hm_; exact absurd hm_ (Nat.not_lt_zero _)
    | succ n_ ih_ =>
      intro i_ hi_ hm_
      refine g_iload O dX9_sand_17 4 rfl ?_
      refine g_sipush (x := (nI 144)) O dX9_sand_19 (by decide +kernel) ?_
      refine g_icmp_geN (tgt := 68) O (by omega) (by omega) dX9_sand_22 (by decide) (fun c_4 => ?_) (fun c_4 => ?_)
      ·
        obtain rfl : i_ = 144 := by omega
        refine g_iload_n O dX9_sand_68 3 rfl rfl ?_
        exact E 69 _ (nI (smN (fun p => if p / 12 = x then sv_g s p else 0) 144)) _ dX9_sand_69 ⟨rfl, rfl⟩
      ·
        refine g_iload_n O dX9_sand_25 3 rfl rfl ?_
        refine g_iload_n O dX9_sand_26 1 rfl rfl ?_
        refine g_if_eqB (tgt := 38) O dX9_sand_27 (by decide) (fun c_5 => absurd c_5 (by decide)) (fun c_5 => ?_)
        refine g_iload O dX9_sand_30 4 rfl ?_
        refine g_bipush (x := (nI 12)) O dX9_sand_32 (by decide +kernel) ?_
        refine g_idivN O (by omega) (by omega) (by omega) dX9_sand_34 ?_
        refine g_goto (tgt := 43) O dX9_sand_35 (by decide) ?_
        refine g_iload_n O dX9_sand_43 2 rfl rfl ?_
        refine g_icmp_neN (tgt := 59) O (by omega) (by omega) dX9_sand_44 (by decide) (fun c_6 => ?_) (fun c_6 => ?_)
        ·
          have hq : smN (fun p => if p / 12 = x then sv_g s p else 0) (i_ + 1) = smN (fun p => if p / 12 = x then sv_g s p else 0) i_ + 0 := by simp only [smN]; rw [if_neg c_6]
          refine g_iconst (x := (nI 0)) O dX9_sand_59 (by decide +kernel) ?_
          refine g_iaddN O dX9_sand_60 ?_
          refine g_eq (st' := [.int (nI (smN (fun p => if p / 12 = x then sv_g s p else 0) (i_ + 1)))]) (by rw [hq]) rfl rfl ?_
          refine g_istore_n (L' := [(0, .ref u0), (1, .int (bB true)), (2, .int (nI x)), (3, .int (nI (smN (fun p => if p / 12 = x then sv_g s p else 0) (i_ + 1)))), (4, .int (nI i_))]) O dX9_sand_61 rfl (by decide) [1, 2, 3, 0, 4] rfl ?_
          refine g_iincN (L' := [(0, .ref u0), (1, .int (bB true)), (2, .int (nI x)), (3, .int (nI (smN (fun p => if p / 12 = x then sv_g s p else 0) (i_ + 1)))), (4, .int (nI (i_ + 1)))]) O dX9_sand_62 4 rfl (by decide) [1, 2, 3, 4, 0] rfl ?_
          refine g_goto (tgt := 17) O dX9_sand_65 (by decide) ?_
          exact ih_ (i_ + 1) (by first | assumption | omega | rfl) (by omega)
        ·
          have hq : smN (fun p => if p / 12 = x then sv_g s p else 0) (i_ + 1) = smN (fun p => if p / 12 = x then sv_g s p else 0) i_ + sv_g s i_ := by simp only [smN]; rw [if_pos c_6]
          refine g_aload_n O dX9_sand_47 0 rfl rfl ?_
          refine g_get O hiX9_sand_X9 0 rfl rfl 4 (by decide) (by decide +kernel) rfl dX9_sand_48 ?_
          refine g_iconst (x := (nI 0)) O dX9_sand_51 (by decide +kernel) ?_
          refine g_iload O dX9_sand_52 4 rfl ?_
          refine g_iaddN O dX9_sand_54 ?_
          refine g_ialdN O 1 rfl (by omega) (by omega) dX9_sand_55 ?_
          refine g_eq (st' := [.int (nI (sv_g s i_)), .int (nI (smN (fun p => if p / 12 = x then sv_g s p else 0) i_))]) (by rw [RM_g0 hM (show i_ < 144 by omega)]) rfl rfl ?_
          refine g_goto (tgt := 60) O dX9_sand_56 (by decide) ?_
          refine g_iaddN O dX9_sand_60 ?_
          refine g_eq (st' := [.int (nI (smN (fun p => if p / 12 = x then sv_g s p else 0) (i_ + 1)))]) (by rw [hq]) rfl rfl ?_
          refine g_istore_n (L' := [(0, .ref u0), (1, .int (bB true)), (2, .int (nI x)), (3, .int (nI (smN (fun p => if p / 12 = x then sv_g s p else 0) (i_ + 1)))), (4, .int (nI i_))]) O dX9_sand_61 rfl (by decide) [1, 2, 3, 0, 4] rfl ?_
          refine g_iincN (L' := [(0, .ref u0), (1, .int (bB true)), (2, .int (nI x)), (3, .int (nI (smN (fun p => if p / 12 = x then sv_g s p else 0) (i_ + 1)))), (4, .int (nI (i_ + 1)))]) O dX9_sand_62 4 rfl (by decide) [1, 2, 3, 4, 0] rfl ?_
          refine g_goto (tgt := 17) O dX9_sand_65 (by decide) ?_
          exact ih_ (i_ + 1) (by first | assumption | omega | rfl) (by omega)
  exact J17 _ 0 (Nat.zero_le _) (Nat.lt_succ_self _)

set_option maxHeartbeats 2000000 in
set_option maxRecDepth 100000 in
/-- sand -/
theorem kX9_sand_col (l : Launch) (D : va_G) (z : Nat × Nat × Nat) (u0 : Nat) (u1 : Nat) (u2 : Nat) (u3 : Nat) (u4 : Nat) (u5 : Nat) (u6 : Nat) (u7 : Nat) (u8 : Nat) (u9 : Nat) (u10 : Nat) (u11 : Nat) (kn : Nat) (ik : Bool) (ty : Nat) (ta : Nat) (iw : Bool) (M : Nat → Int32) (s : SV) (x : Nat) (hx : x < 12) (hM : RM M s) : CM l yX9_sand wsX9_sand ({ frames := 1, cells := 0, slots := 0, locals := 22 } : Room) D z [.ref u0, .int (bB false), .int (nI x)] [(u0, .inr (9, [.ref u1, .ref u2, .ref u3, .ref u4, .ref u5, .ref u6, .int (nI kn), .ref u7, .int (bB ik), .ref u8, .int (nI ty), .ref u9, .int (nI ta), .int (bB iw), .ref u10, .ref u11])), (u5, .inl (tyI D, 208, .inl M))] (fun r_ w_ => r_ = some (.int (nI (smN (fun p => if p % 12 = x then sv_g s p else 0) 144))) ∧ w_ = [(u0, .inr (9, [.ref u1, .ref u2, .ref u3, .ref u4, .ref u5, .ref u6, .int (nI kn), .ref u7, .int (bB ik), .ref u8, .int (nI ty), .ref u9, .int (nI ta), .int (bB iw), .ref u10, .ref u11])), (u5, .inl (tyI D, 208, .inl M))]) 0 0 := by
  refine CM_int (own := RX9) (cc := cX9_sand) (maxL := 5) (L0 := [(0, .ref u0), (1, .int (bB false)), (2, .int (nI x))]) (by decide) rfl rfl (Nat.le_of_ble_eq_true rfl) rfl (fun X O E => ?_)
  refine g_iload_n O dX9_sand_0 2 rfl rfl ?_
  refine g_iconst (x := (nI 0)) O dX9_sand_1 (by decide +kernel) ?_
  refine g_bipush (x := (nI 11)) O dX9_sand_2 (by decide +kernel) ?_
  refine g_callS (As := [.int (nI x), .int (nI 0), .int (nI 11)]) (wr := [(u0, .inr (9, [.ref u1, .ref u2, .ref u3, .ref u4, .ref u5, .ref u6, .int (nI kn), .ref u7, .int (bB ik), .ref u8, .int (nI ty), .ref u9, .int (nI ta), .int (bB iw), .ref u10, .ref u11])), (u5, .inl (tyI D, 208, .inl M))]) O (kX9_in l D z (nI x) (nI 0) (nI 11) ) gX9_sand_X9_in rfl rfl rfl 3 (by decide +kernel) (by decide) (by decide) [] [0, 1] rfl (by decide) rfl (by decide) (by decide) rfl rfl (Nat.le_of_ble_eq_true rfl) dX9_sand_4 (fun r_1 w_2 hp => ?_)
  obtain ⟨rfl, rfl⟩ := hp
  refine g_eq (st' := [.int (bB (inI (nI x) (nI 0) (nI 11)))]) (ws' := [(u0, .inr (9, [.ref u1, .ref u2, .ref u3, .ref u4, .ref u5, .ref u6, .int (nI kn), .ref u7, .int (bB ik), .ref u8, .int (nI ty), .ref u9, .int (nI ta), .int (bB iw), .ref u10, .ref u11])), (u5, .inl (tyI D, 208, .inl M))]) rfl rfl rfl ?_
  refine g_if_neB (tgt := 12) O dX9_sand_7 (by decide) (fun c_3 => ?_) (fun c_3 => absurd c_3 (by rw [inI_r _ (by decide), rgB_t hx (by decide)]; decide))
  refine g_iconst (x := (nI 0)) O dX9_sand_12 (by decide +kernel) ?_
  refine g_istore_n (L' := [(0, .ref u0), (1, .int (bB false)), (2, .int (nI x)), (3, .int (nI 0))]) O dX9_sand_13 rfl (by decide) [1, 2, 3, 0] rfl ?_
  refine g_iconst (x := (nI 0)) O dX9_sand_14 (by decide +kernel) ?_
  refine g_istore (L' := [(0, .ref u0), (1, .int (bB false)), (2, .int (nI x)), (3, .int (nI 0)), (4, .int (nI 0))]) O dX9_sand_15 (by decide) [1, 2, 3, 4, 0] rfl ?_
  have J17 : ∀ (n_ : Nat), ∀ (i_ : Nat) (hi_ : i_ ≤ 144), 144 - i_ < n_ → G X 0 0 17 [(0, .ref u0), (1, .int (bB false)), (2, .int (nI x)), (3, .int (nI (smN (fun p => if p % 12 = x then sv_g s p else 0) i_))), (4, .int (nI i_))] [] [(u0, .inr (9, [.ref u1, .ref u2, .ref u3, .ref u4, .ref u5, .ref u6, .int (nI kn), .ref u7, .int (bB ik), .ref u8, .int (nI ty), .ref u9, .int (nI ta), .int (bB iw), .ref u10, .ref u11])), (u5, .inl (tyI D, 208, .inl M))] := by
    intro n_
    induction n_ with
    | zero => intro i_ hi_ hm_; exact absurd hm_ (Nat.not_lt_zero _)
    | succ n_ ih_ =>
      intro i_ hi_ hm_
      refine g_iload O dX9_sand_17 4 rfl ?_
      refine g_sipush (x := (nI 144)) O dX9_sand_19 (by decide +kernel) ?_
      refine g_icmp_geN (tgt := 68) O (by omega) (by omega) dX9_sand_22 (by decide) (fun c_4 => ?_) (fun c_4 => ?_)
      ·
        obtain rfl : i_ = 144 := by omega
        refine g_iload_n O dX9_sand_68 3 rfl rfl ?_
        exact E 69 _ (nI (smN (fun p => if p % 12 = x then sv_g s p else 0) 144)) _ dX9_sand_69 ⟨rfl, rfl⟩
      ·
        refine g_iload_n O dX9_sand_25 3 rfl rfl ?_
        refine g_iload_n O dX9_sand_26 1 rfl rfl ?_
        refine g_if_eqB (tgt := 38) O dX9_sand_27 (by decide) (fun c_5 => ?_) (fun c_5 => absurd c_5 (by decide))
        refine g_iload O dX9_sand_38 4 rfl ?_
        refine g_bipush (x := (nI 12)) O dX9_sand_40 (by decide +kernel) ?_
        refine g_iremN O (by omega) (by omega) (by omega) dX9_sand_42 ?_
        refine g_iload_n O dX9_sand_43 2 rfl rfl ?_
        refine g_icmp_neN (tgt := 59) O (by omega) (by omega) dX9_sand_44 (by decide) (fun c_6 => ?_) (fun c_6 => ?_)
        ·
          have hq : smN (fun p => if p % 12 = x then sv_g s p else 0) (i_ + 1) = smN (fun p => if p % 12 = x then sv_g s p else 0) i_ + 0 := by simp only [smN]; rw [if_neg c_6]
          refine g_iconst (x := (nI 0)) O dX9_sand_59 (by decide +kernel) ?_
          refine g_iaddN O dX9_sand_60 ?_
          refine g_eq (st' := [.int (nI (smN (fun p => if p % 12 = x then sv_g s p else 0) (i_ + 1)))]) (by rw [hq]) rfl rfl ?_
          refine g_istore_n (L' := [(0, .ref u0), (1, .int (bB false)), (2, .int (nI x)), (3, .int (nI (smN (fun p => if p % 12 = x then sv_g s p else 0) (i_ + 1)))), (4, .int (nI i_))]) O dX9_sand_61 rfl (by decide) [1, 2, 3, 0, 4] rfl ?_
          refine g_iincN (L' := [(0, .ref u0), (1, .int (bB false)), (2, .int (nI x)), (3, .int (nI (smN (fun p => if p % 12 = x then sv_g s p else 0) (i_ + 1)))), (4, .int (nI (i_ + 1)))]) O dX9_sand_62 4 rfl (by decide) [1, 2, 3, 4, 0] rfl ?_
          refine g_goto (tgt := 17) O dX9_sand_65 (by decide) ?_
          exact ih_ (i_ + 1) (by first | assumption | omega | rfl) (by omega)
        ·
          have hq : smN (fun p => if p % 12 = x then sv_g s p else 0) (i_ + 1) = smN (fun p => if p % 12 = x then sv_g s p else 0) i_ + sv_g s i_ := by simp only [smN]; rw [if_pos c_6]
          refine g_aload_n O dX9_sand_47 0 rfl rfl ?_
          refine g_get O hiX9_sand_X9 0 rfl rfl 4 (by decide) (by decide +kernel) rfl dX9_sand_48 ?_
          refine g_iconst (x := (nI 0)) O dX9_sand_51 (by decide +kernel) ?_
          refine g_iload O dX9_sand_52 4 rfl ?_
          refine g_iaddN O dX9_sand_54 ?_
          refine g_ialdN O 1 rfl (by omega) (by omega) dX9_sand_55 ?_
          refine g_eq (st' := [.int (nI (sv_g s i_)), .int (nI (smN (fun p => if p % 12 = x then sv_g s p else 0) i_))]) (by rw [RM_g0 hM (show i_ < 144 by omega)]) rfl rfl ?_
          refine g_goto (tgt := 60) O dX9_sand_56 (by decide) ?_
          refine g_iaddN O dX9_sand_60 ?_
          refine g_eq (st' := [.int (nI (smN (fun p => if p % 12 = x then sv_g s p else 0) (i_ + 1)))]) (by rw [hq]) rfl rfl ?_
          refine g_istore_n (L' := [(0, .ref u0), (1, .int (bB false)), (2, .int (nI x)), (3, .int (nI (smN (fun p => if p % 12 = x then sv_g s p else 0) (i_ + 1)))), (4, .int (nI i_))]) O dX9_sand_61 rfl (by decide) [1, 2, 3, 0, 4] rfl ?_
          refine g_iincN (L' := [(0, .ref u0), (1, .int (bB false)), (2, .int (nI x)), (3, .int (nI (smN (fun p => if p % 12 = x then sv_g s p else 0) (i_ + 1)))), (4, .int (nI (i_ + 1)))]) O dX9_sand_62 4 rfl (by decide) [1, 2, 3, 4, 0] rfl ?_
          refine g_goto (tgt := 17) O dX9_sand_65 (by decide) ?_
          exact ih_ (i_ + 1) (by first | assumption | omega | rfl) (by omega)
  exact J17 _ 0 (Nat.zero_le _) (Nat.lt_succ_self _)

set_option maxHeartbeats 2000000 in
set_option maxRecDepth 100000 in
theorem kX9_count_b1 (l : Launch) (D : va_G) (z : Nat × Nat × Nat) (u0 : Nat) (u1 : Nat) (u2 : Nat) (u3 : Nat) (u4 : Nat) (u5 : Nat) (u6 : Nat) (u7 : Nat) (u8 : Nat) (u9 : Nat) (u10 : Nat) (u11 : Nat) (kn : Nat) (ik : Bool) (ty : Nat) (ta : Nat) (iw : Bool) (k : Int32) (hsw : k < 0 ∨ nI 17 ≤ k) : CM l yX9_count wsX9_count ({ frames := 6, cells := 0, slots := 0, locals := 134 } : Room) D z [.ref u0, .int k] [(u0, .inr (9, [.ref u1, .ref u2, .ref u3, .ref u4, .ref u5, .ref u6, .int (nI kn), .ref u7, .int (bB ik), .ref u8, .int (nI ty), .ref u9, .int (nI ta), .int (bB iw), .ref u10, .ref u11]))] (fun r_ w_ => r_ = some (.int (-2)) ∧ w_ = [(u0, .inr (9, [.ref u1, .ref u2, .ref u3, .ref u4, .ref u5, .ref u6, .int (nI kn), .ref u7, .int (bB ik), .ref u8, .int (nI ty), .ref u9, .int (nI ta), .int (bB iw), .ref u10, .ref u11]))]) 0 0 := by
  refine CM_int (own := RX9) (cc := cX9_count) (maxL := 2) (L0 := [(0, .ref u0), (1, .int k)]) (by decide) rfl rfl (Nat.le_of_ble_eq_true rfl) rfl (fun X O E => ?_)
  refine g_iload_n O dX9_count_0 1 rfl rfl ?_
  refine g_tableO (tgt := 168) (N := 17) O dX9_count_1 hsw (by decide) (by decide) (by decide) ?_
  refine g_bipush (x := (-2)) O dX9_count_168 (by decide +kernel) ?_
  exact E 170 _ (-2) _ dX9_count_170 ⟨rfl, rfl⟩

set_option maxHeartbeats 2000000 in
set_option maxRecDepth 100000 in
theorem kX9_count_0 (l : Launch) (D : va_G) (z : Nat × Nat × Nat) (u0 : Nat) (u1 : Nat) (u2 : Nat) (u3 : Nat) (u4 : Nat) (u5 : Nat) (u6 : Nat) (u7 : Nat) (u8 : Nat) (u9 : Nat) (u10 : Nat) (u11 : Nat) (kn : Nat) (ik : Bool) (ty : Nat) (ta : Nat) (iw : Bool) (M : Nat → Int32) (s : SV) (hM : RM M s) : CM l yX9_count wsX9_count ({ frames := 6, cells := 0, slots := 0, locals := 134 } : Room) D z [.ref u0, .int (nI 0)] [(u0, .inr (9, [.ref u1, .ref u2, .ref u3, .ref u4, .ref u5, .ref u6, .int (nI kn), .ref u7, .int (bB ik), .ref u8, .int (nI ty), .ref u9, .int (nI ta), .int (bB iw), .ref u10, .ref u11])), (u5, .inl (tyI D, 208, .inl M))] (fun r_ w_ => r_ = some (.int (nI (smN (sv_g s) 144))) ∧ w_ = [(u0, .inr (9, [.ref u1, .ref u2, .ref u3, .ref u4, .ref u5, .ref u6, .int (nI kn), .ref u7, .int (bB ik), .ref u8, .int (nI ty), .ref u9, .int (nI ta), .int (bB iw), .ref u10, .ref u11])), (u5, .inl (tyI D, 208, .inl M))]) 0 0 := by
  refine CM_int (own := RX9) (cc := cX9_count) (maxL := 2) (L0 := [(0, .ref u0), (1, .int (nI 0))]) (by decide) rfl rfl (Nat.le_of_ble_eq_true rfl) rfl (fun X O E => ?_)
  refine g_iload_n O dX9_count_0 1 rfl rfl ?_
  refine g_tableIn (off := 83) (tgt := 84) O dX9_count_1 (by decide +kernel) (by decide +kernel) (by decide +kernel) (by decide) ?_
  refine g_aload_n O dX9_count_84 0 rfl rfl ?_
  refine g_callV (As := []) (wr := []) O (kX9_allGrains l D z u0 u1 u2 u3 u4 u5 u6 u7 u8 u9 u10 u11 kn ik ty ta iw M s (by first | assumption | omega)) gX9_count_X9_allGrains rfl rfl rfl 0 (by decide +kernel) (by decide) (by decide) (q0 := 0) rfl rfl rfl [0, 1] [] rfl (by decide) rfl (by decide) (by decide) rfl rfl (Nat.le_of_ble_eq_true rfl) dX9_count_85 (fun r_1 w_2 hp => ?_)
  obtain ⟨rfl, rfl⟩ := hp
  refine g_eq (st' := [.int (nI (smN (sv_g s) 144))]) (ws' := [(u0, .inr (9, [.ref u1, .ref u2, .ref u3, .ref u4, .ref u5, .ref u6, .int (nI kn), .ref u7, .int (bB ik), .ref u8, .int (nI ty), .ref u9, .int (nI ta), .int (bB iw), .ref u10, .ref u11])), (u5, .inl (tyI D, 208, .inl M))]) rfl rfl rfl ?_
  exact E 88 _ (nI (smN (sv_g s) 144)) _ dX9_count_88 ⟨rfl, rfl⟩

theorem hiX9_count_X9 : ∀ w ∈ wsX90, w ∈ wsX9_count := by intro w h; simp only [wsX9_count, List.mem_append, List.mem_cons, h, or_true, true_or]
set_option maxHeartbeats 2000000 in
set_option maxRecDepth 100000 in
theorem kX9_count_1 (l : Launch) (D : va_G) (z : Nat × Nat × Nat) (u0 : Nat) (u1 : Nat) (u2 : Nat) (u3 : Nat) (u4 : Nat) (u5 : Nat) (u6 : Nat) (u7 : Nat) (u8 : Nat) (u9 : Nat) (u10 : Nat) (u11 : Nat) (kn : Nat) (ik : Bool) (ty : Nat) (ta : Nat) (iw : Bool) (M : Nat → Int32) (s : SV) (hM : RM M s) : CM l yX9_count wsX9_count ({ frames := 6, cells := 0, slots := 0, locals := 134 } : Room) D z [.ref u0, .int (nI 1)] [(u0, .inr (9, [.ref u1, .ref u2, .ref u3, .ref u4, .ref u5, .ref u6, .int (nI kn), .ref u7, .int (bB ik), .ref u8, .int (nI ty), .ref u9, .int (nI ta), .int (bB iw), .ref u10, .ref u11])), (u5, .inl (tyI D, 208, .inl M))] (fun r_ w_ => r_ = some (.int (sv_st s)) ∧ w_ = [(u0, .inr (9, [.ref u1, .ref u2, .ref u3, .ref u4, .ref u5, .ref u6, .int (nI kn), .ref u7, .int (bB ik), .ref u8, .int (nI ty), .ref u9, .int (nI ta), .int (bB iw), .ref u10, .ref u11])), (u5, .inl (tyI D, 208, .inl M))]) 0 0 := by
  refine CM_int (own := RX9) (cc := cX9_count) (maxL := 2) (L0 := [(0, .ref u0), (1, .int (nI 1))]) (by decide) rfl rfl (Nat.le_of_ble_eq_true rfl) rfl (fun X O E => ?_)
  refine g_iload_n O dX9_count_0 1 rfl rfl ?_
  refine g_tableIn (off := 88) (tgt := 89) O dX9_count_1 (by decide +kernel) (by decide +kernel) (by decide +kernel) (by decide) ?_
  refine g_aload_n O dX9_count_89 0 rfl rfl ?_
  refine g_get O hiX9_count_X9 0 rfl rfl 4 (by decide) (by decide +kernel) rfl dX9_count_90 ?_
  refine g_sipush (x := (nI 148)) O dX9_count_93 (by decide +kernel) ?_
  refine g_iload_n O dX9_count_96 1 rfl rfl ?_
  refine g_iaddN O dX9_count_97 ?_
  refine g_iconst (x := (nI 1)) O dX9_count_98 (by decide +kernel) ?_
  refine g_isubN O (by omega) dX9_count_99 ?_
  refine g_eq (st' := [.int (nI 148), .ref u5]) rfl rfl rfl ?_
  refine g_ialdN O 1 rfl (by omega) (by omega) dX9_count_100 ?_
  refine g_eq (st' := [.int (sv_st s)]) (by rw [RM_st hM]) rfl rfl ?_
  exact E 101 _ (sv_st s) _ dX9_count_101 ⟨rfl, rfl⟩

set_option maxHeartbeats 2000000 in
set_option maxRecDepth 100000 in
theorem kX9_count_2 (l : Launch) (D : va_G) (z : Nat × Nat × Nat) (u0 : Nat) (u1 : Nat) (u2 : Nat) (u3 : Nat) (u4 : Nat) (u5 : Nat) (u6 : Nat) (u7 : Nat) (u8 : Nat) (u9 : Nat) (u10 : Nat) (u11 : Nat) (kn : Nat) (ik : Bool) (ty : Nat) (ta : Nat) (iw : Bool) (M : Nat → Int32) (s : SV) (hM : RM M s) : CM l yX9_count wsX9_count ({ frames := 6, cells := 0, slots := 0, locals := 134 } : Room) D z [.ref u0, .int (nI 2)] [(u0, .inr (9, [.ref u1, .ref u2, .ref u3, .ref u4, .ref u5, .ref u6, .int (nI kn), .ref u7, .int (bB ik), .ref u8, .int (nI ty), .ref u9, .int (nI ta), .int (bB iw), .ref u10, .ref u11])), (u5, .inl (tyI D, 208, .inl M))] (fun r_ w_ => r_ = some (.int (sv_sw s)) ∧ w_ = [(u0, .inr (9, [.ref u1, .ref u2, .ref u3, .ref u4, .ref u5, .ref u6, .int (nI kn), .ref u7, .int (bB ik), .ref u8, .int (nI ty), .ref u9, .int (nI ta), .int (bB iw), .ref u10, .ref u11])), (u5, .inl (tyI D, 208, .inl M))]) 0 0 := by
  refine CM_int (own := RX9) (cc := cX9_count) (maxL := 2) (L0 := [(0, .ref u0), (1, .int (nI 2))]) (by decide) rfl rfl (Nat.le_of_ble_eq_true rfl) rfl (fun X O E => ?_)
  refine g_iload_n O dX9_count_0 1 rfl rfl ?_
  refine g_tableIn (off := 88) (tgt := 89) O dX9_count_1 (by decide +kernel) (by decide +kernel) (by decide +kernel) (by decide) ?_
  refine g_aload_n O dX9_count_89 0 rfl rfl ?_
  refine g_get O hiX9_count_X9 0 rfl rfl 4 (by decide) (by decide +kernel) rfl dX9_count_90 ?_
  refine g_sipush (x := (nI 148)) O dX9_count_93 (by decide +kernel) ?_
  refine g_iload_n O dX9_count_96 1 rfl rfl ?_
  refine g_iaddN O dX9_count_97 ?_
  refine g_iconst (x := (nI 1)) O dX9_count_98 (by decide +kernel) ?_
  refine g_isubN O (by omega) dX9_count_99 ?_
  refine g_eq (st' := [.int (nI 149), .ref u5]) rfl rfl rfl ?_
  refine g_ialdN O 1 rfl (by omega) (by omega) dX9_count_100 ?_
  refine g_eq (st' := [.int (sv_sw s)]) (by rw [RM_sw hM]) rfl rfl ?_
  exact E 101 _ (sv_sw s) _ dX9_count_101 ⟨rfl, rfl⟩

set_option maxHeartbeats 2000000 in
set_option maxRecDepth 100000 in
theorem kX9_count_3 (l : Launch) (D : va_G) (z : Nat × Nat × Nat) (u0 : Nat) (u1 : Nat) (u2 : Nat) (u3 : Nat) (u4 : Nat) (u5 : Nat) (u6 : Nat) (u7 : Nat) (u8 : Nat) (u9 : Nat) (u10 : Nat) (u11 : Nat) (kn : Nat) (ik : Bool) (ty : Nat) (ta : Nat) (iw : Bool) (M : Nat → Int32) (s : SV) (hM : RM M s) : CM l yX9_count wsX9_count ({ frames := 6, cells := 0, slots := 0, locals := 134 } : Room) D z [.ref u0, .int (nI 3)] [(u0, .inr (9, [.ref u1, .ref u2, .ref u3, .ref u4, .ref u5, .ref u6, .int (nI kn), .ref u7, .int (bB ik), .ref u8, .int (nI ty), .ref u9, .int (nI ta), .int (bB iw), .ref u10, .ref u11])), (u5, .inl (tyI D, 208, .inl M))] (fun r_ w_ => r_ = some (.int (sv_fl s)) ∧ w_ = [(u0, .inr (9, [.ref u1, .ref u2, .ref u3, .ref u4, .ref u5, .ref u6, .int (nI kn), .ref u7, .int (bB ik), .ref u8, .int (nI ty), .ref u9, .int (nI ta), .int (bB iw), .ref u10, .ref u11])), (u5, .inl (tyI D, 208, .inl M))]) 0 0 := by
  refine CM_int (own := RX9) (cc := cX9_count) (maxL := 2) (L0 := [(0, .ref u0), (1, .int (nI 3))]) (by decide) rfl rfl (Nat.le_of_ble_eq_true rfl) rfl (fun X O E => ?_)
  refine g_iload_n O dX9_count_0 1 rfl rfl ?_
  refine g_tableIn (off := 88) (tgt := 89) O dX9_count_1 (by decide +kernel) (by decide +kernel) (by decide +kernel) (by decide) ?_
  refine g_aload_n O dX9_count_89 0 rfl rfl ?_
  refine g_get O hiX9_count_X9 0 rfl rfl 4 (by decide) (by decide +kernel) rfl dX9_count_90 ?_
  refine g_sipush (x := (nI 148)) O dX9_count_93 (by decide +kernel) ?_
  refine g_iload_n O dX9_count_96 1 rfl rfl ?_
  refine g_iaddN O dX9_count_97 ?_
  refine g_iconst (x := (nI 1)) O dX9_count_98 (by decide +kernel) ?_
  refine g_isubN O (by omega) dX9_count_99 ?_
  refine g_eq (st' := [.int (nI 150), .ref u5]) rfl rfl rfl ?_
  refine g_ialdN O 1 rfl (by omega) (by omega) dX9_count_100 ?_
  refine g_eq (st' := [.int (sv_fl s)]) (by rw [RM_fl hM]) rfl rfl ?_
  exact E 101 _ (sv_fl s) _ dX9_count_101 ⟨rfl, rfl⟩
